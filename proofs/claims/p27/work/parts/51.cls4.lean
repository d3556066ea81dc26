/-! ===== the class: points, bits ===== -/
set_option maxHeartbeats 4000000 in
set_option maxRecDepth 100000 in
theorem c_X7_checkPoint (D : mD) (A : Nat → Prop) (l : Launch) (hst : l.stackTraces = false) {x y : Int32} {M : Mm} : mXv D A l yX7_checkPoint wsX7_checkPoint ({ frames := 7, cells := 2, slots := 12, locals := 260 } : Room) [.int x, .int y] M (fun M' => M' = M ∧ okP x y = true) (fun E M' => E = xIA ∧ M' = M ∧ okP x y = false) 2 12 := by
  refine m_startX (cc := cX7_checkPoint) (maxL := 2) (ret := none) (by decide) rfl (Nat.le_of_ble_eq_true rfl) ?_
  intro p e s m args below meth c C hE
  refine m_sub (L' := [(0, .int x), (1, .int y)]) [0, 1] rfl ?_
  refine m_iload_n C dX7_checkPoint_0 rfl 0 rfl ?_
  refine m_bipush (v := (-100)) C dX7_checkPoint_1 (by decide) ?_
  refine m_bipush (v := 100) C dX7_checkPoint_3 (by decide) ?_
  refine m_callSXv (As := [.int x, .int ((-100)), .int 100]) (st := []) C (c_X7_checkRange D A l hst) (va_cwS 3 C.1.2.2.2.2 gX7_checkPoint_X7_checkRange rfl rfl rfl (by decide +kernel) ⟨Nat.le_of_ble_eq_true rfl, Nat.le_of_ble_eq_true rfl⟩) rfl rfl (Nat.le_of_ble_eq_true rfl) dX7_checkPoint_5 ⟨Nat.le_of_ble_eq_true rfl, Nat.le_of_ble_eq_true rfl⟩ hE (fun E M9 z9 => ⟨z9.1, z9.2.1, by simp [okP, z9.2.2]⟩) (Nat.le_of_ble_eq_true rfl) (Nat.le_of_ble_eq_true rfl) (fun M9 hq9 => ?_)
  obtain ⟨e9, hq9⟩ := hq9
  subst e9
  rename Mm => M
  have hk_1 := hq9
  clear hq9
  refine m_iload_n C dX7_checkPoint_8 rfl 1 rfl ?_
  refine m_bipush (v := (-100)) C dX7_checkPoint_9 (by decide) ?_
  refine m_bipush (v := 100) C dX7_checkPoint_11 (by decide) ?_
  refine m_callSXv (As := [.int y, .int ((-100)), .int 100]) (st := []) C (c_X7_checkRange D A l hst) (va_cwS 3 C.1.2.2.2.2 gX7_checkPoint_X7_checkRange rfl rfl rfl (by decide +kernel) ⟨Nat.le_of_ble_eq_true rfl, Nat.le_of_ble_eq_true rfl⟩) rfl rfl (Nat.le_of_ble_eq_true rfl) dX7_checkPoint_13 ⟨Nat.le_of_ble_eq_true rfl, Nat.le_of_ble_eq_true rfl⟩ hE (fun E M9 z9 => ⟨z9.1, z9.2.1, by simp [okP, hk_1, z9.2.2]⟩) (Nat.le_of_ble_eq_true rfl) (Nat.le_of_ble_eq_true rfl) (fun M9 hq9 => ?_)
  obtain ⟨e9, hq9⟩ := hq9
  subst e9
  rename Mm => M
  have hk_2 := hq9
  clear hq9
  exact m_vretX C (Nat.le_of_ble_eq_true rfl) (Nat.le_of_ble_eq_true rfl) dX7_checkPoint_16 (⟨rfl, by simp [okP, hk_1, hk_2]⟩)
theorem bL_t {b : Int64} {x : Nat} (hx : x < 64) : ((b.toUInt64 >>> ((nI x).toInt64.toUInt64 &&& Int64.toUInt64 63)).toInt64 &&& 1) = 0 ↔ bL b x = false :=
  ts_bit hx (by rw [wb_cu x hx]; exact Nat.mod_eq_of_lt (by omega))
theorem lg_c0 {v : Int64} : lg_cmp v 0 = 0 ↔ v = 0 := by
  unfold lg_cmp
  constructor
  · intro h
    by_cases h2 : v = 0
    · exact h2
    · by_cases h1 : 0 < v
      · simp [h1, h2] at h
      · simp [h1, h2] at h
  · intro h
    subst h
    decide
set_option maxHeartbeats 4000000 in
set_option maxRecDepth 100000 in
theorem c_X7_hasBit (D : mD) (A : Nat → Prop) (l : Launch) {b : Int64} {x : Nat} {M : Mm} (hx : x < 64) : mMi D A l yX7_hasBit wsX7_hasBit ({ frames := 0, cells := 0, slots := 0, locals := 0 } : Room) [.long b, .int (nI x)] M (fun r M' => M' = M ∧ r = bI (bL b x)) 0 0 := by
  refine m_start (cc := cX7_hasBit) (maxL := 3) (ret := (some .boolean)) (by decide) rfl (Nat.le_of_ble_eq_true rfl) ?_
  intro p e s m args below meth c C
  refine m_sub (L' := [(0, .long b), (2, .int (nI x))]) [0, 1] rfl ?_
  refine m_lload_n C dX7_hasBit_0 rfl 0 rfl ?_
  refine m_iload_n C dX7_hasBit_1 rfl 1 rfl ?_
  refine m_lushr C dX7_hasBit_2 rfl ?_
  refine m_lconst (v := 1) C dX7_hasBit_3 rfl ?_
  refine m_land C dX7_hasBit_4 ?_
  refine m_lconst (v := 0) C dX7_hasBit_5 rfl ?_
  refine m_lcmp C dX7_hasBit_6 ?_
  refine m_if_eq (tgt := 14) C dX7_hasBit_7 (by decide) (fun h_1 => ?_) (fun h_1 => ?_)
  · have hb := (bL_t hx).mp (lg_c0.mp h_1)
    refine m_iconst (v := 0) C dX7_hasBit_14 (by decide) ?_
    exact m_zret C (Nat.le_of_ble_eq_true rfl) (Nat.le_of_ble_eq_true rfl) dX7_hasBit_15 (Or.inl rfl) (⟨rfl, by rw [hb]; rfl⟩)
  · have hb : bL b x = true := by cases hz : bL b x with | true => rfl | false => exact absurd (lg_c0.mpr ((bL_t hx).mpr hz)) h_1
    refine m_iconst (v := 1) C dX7_hasBit_10 (by decide) ?_
    refine m_goto (tgt := 15) C dX7_hasBit_11 (by decide) ?_
    exact m_zret C (Nat.le_of_ble_eq_true rfl) (Nat.le_of_ble_eq_true rfl) dX7_hasBit_15 (Or.inr rfl) (⟨rfl, by rw [hb]; rfl⟩)
