/-! ===== the class: points, bits ===== -/
set_option maxHeartbeats 4000000 in
set_option maxRecDepth 100000 in
theorem c_X7_checkPoint (D : mD) (A : Nat → Prop) (l : Launch) (hst : l.stackTraces = false) {x y : Int32} {M : Mm} : mXv D A l yX7_checkPoint wsX7_checkPoint ({ frames := 7, cells := 2, slots := 12, locals := 260 } : Room) [.int x, .int y] M (fun M' => M' = M ∧ okP x y = true) (fun E M' => E = xIA ∧ M' = M ∧ okP x y = false) 2 12 := by
  refine m_startX (cc := cX7_checkPoint) (maxL := 2) (ret := none) (by decide) rfl (Nat.le_of_ble_eq_true rfl) ?_
  intro p e s m args below meth c C hE
  refine m_sub (L' := [(0, .int x), (1, .int y)]) [0, 1] rfl ?_
  refine m_iload_n C dX7_checkPoint_0 rfl 0 rfl ?_
  refine m_bipush (v := (-100)) C dX7_checkPoint_1 (by decide) ?_
  refine m_bipush (v := 100) C dX7_checkPoint_3 (by decide) ?_
  refine m_callSXv (As := [.int x, .int ((-100)), .int 100]) (st := []) C (c_X7_checkRange D A l hst) (va_cwS 3 C.1.2.2.2.2 gX7_checkPoint_X7_checkRange rfl rfl rfl (by decide +kernel) ⟨Nat.le_of_ble_eq_true rfl, Nat.le_of_ble_eq_true rfl⟩) rfl rfl (Nat.le_of_ble_eq_true rfl) dX7_checkPoint_5 ⟨Nat.le_of_ble_eq_true rfl, Nat.le_of_ble_eq_true rfl⟩ hE (fun E M9 z9 => ⟨z9.1, z9.2.1, by simp [okP, z9.2.2]⟩) (Nat.le_of_ble_eq_true rfl) (Nat.le_of_ble_eq_true rfl) (fun M9 hq9 => ?_)
  obtain ⟨e9, hq9⟩ := hq9
  subst e9
  rename Mm => M
  have hk_1 := hq9
  clear hq9
  refine m_iload_n C dX7_checkPoint_8 rfl 1 rfl ?_
  refine m_bipush (v := (-100)) C dX7_checkPoint_9 (by decide) ?_
  refine m_bipush (v := 100) C dX7_checkPoint_11 (by decide) ?_
  refine m_callSXv (As := [.int y, .int ((-100)), .int 100]) (st := []) C (c_X7_checkRange D A l hst) (va_cwS 3 C.1.2.2.2.2 gX7_checkPoint_X7_checkRange rfl rfl rfl (by decide +kernel) ⟨Nat.le_of_ble_eq_true rfl, Nat.le_of_ble_eq_true rfl⟩) rfl rfl (Nat.le_of_ble_eq_true rfl) dX7_checkPoint_13 ⟨Nat.le_of_ble_eq_true rfl, Nat.le_of_ble_eq_true rfl⟩ hE (fun E M9 z9 => ⟨z9.1, z9.2.1, by simp [okP, hk_1, z9.2.2]⟩) (Nat.le_of_ble_eq_true rfl) (Nat.le_of_ble_eq_true rfl) (fun M9 hq9 => ?_)
  obtain ⟨e9, hq9⟩ := hq9
  subst e9
  rename Mm => M
  have hk_2 := hq9
  clear hq9
  exact m_vretX C (Nat.le_of_ble_eq_true rfl) (Nat.le_of_ble_eq_true rfl) dX7_checkPoint_16 (⟨rfl, by simp [okP, hk_1, hk_2]⟩)
theorem bL_t {b : Int64} {x : Nat} (hx : x < 64) : ((b.toUInt64 >>> ((nI x).toInt64.toUInt64 &&& Int64.toUInt64 63)).toInt64 &&& 1) = 0 ↔ bL b x = false :=
  ts_bit hx (by rw [wb_cu x hx]; exact Nat.mod_eq_of_lt (by omega))
theorem lg_c0 {v : Int64} : lg_cmp v 0 = 0 ↔ v = 0 := by
  unfold lg_cmp
  constructor
  · intro h
    by_cases h2 : v = 0
    · exact h2
    · by_cases h1 : 0 < v
      · simp [h1, h2] at h
      · simp [h1, h2] at h
  · intro h
    subst h
    decide
set_option maxHeartbeats 4000000 in
set_option maxRecDepth 100000 in
theorem c_X7_hasBit (D : mD) (A : Nat → Prop) (l : Launch) {b : Int64} {x : Nat} {M : Mm} (hx : x < 64) : mMi D A l yX7_hasBit wsX7_hasBit ({ frames := 0, cells := 0, slots := 0, locals := 0 } : Room) [.long b, .int (nI x)] M (fun r M' => M' = M ∧ r = bI (bL b x)) 0 0 := by
  refine m_start (cc := cX7_hasBit) (maxL := 3) (ret := (some .boolean)) (by decide) rfl (Nat.le_of_ble_eq_true rfl) ?_
  intro p e s m args below meth c C
  refine m_sub (L' := [(0, .long b), (2, .int (nI x))]) [0, 1] rfl ?_
  refine m_lload_n C dX7_hasBit_0 rfl 0 rfl ?_
  refine m_iload_n C dX7_hasBit_1 rfl 1 rfl ?_
  refine m_lushr C dX7_hasBit_2 rfl ?_
  refine m_lconst (v := 1) C dX7_hasBit_3 rfl ?_
  refine m_land C dX7_hasBit_4 ?_
  refine m_lconst (v := 0) C dX7_hasBit_5 rfl ?_
  refine m_lcmp C dX7_hasBit_6 ?_
  refine m_if_eq (tgt := 14) C dX7_hasBit_7 (by decide) (fun h_1 => ?_) (fun h_1 => ?_)
  · have hb := (bL_t hx).mp (lg_c0.mp h_1)
    refine m_iconst (v := 0) C dX7_hasBit_14 (by decide) ?_
    exact m_zret C (Nat.le_of_ble_eq_true rfl) (Nat.le_of_ble_eq_true rfl) dX7_hasBit_15 (Or.inl rfl) (⟨rfl, by rw [hb]; rfl⟩)
  · have hb : bL b x = true := by cases hz : bL b x with | true => rfl | false => exact absurd (lg_c0.mpr ((bL_t hx).mpr hz)) h_1
    refine m_iconst (v := 1) C dX7_hasBit_10 (by decide) ?_
    refine m_goto (tgt := 15) C dX7_hasBit_11 (by decide) ?_
    exact m_zret C (Nat.le_of_ble_eq_true rfl) (Nat.le_of_ble_eq_true rfl) dX7_hasBit_15 (Or.inr rfl) (⟨rfl, by rw [hb]; rfl⟩)
set_option maxHeartbeats 4000000 in
set_option maxRecDepth 100000 in
theorem lp_X7_lowestBit {p : Program} {l : Launch} {e : Env} {s : State} {m : MethodId} {args : Array Value} {below : List Frame} {meth : Method} {c : Code} {Q : State → Prop} {D : mD} {A : Nat → Prop} {M : Mm} {b : Int64} {B : Int32} (C : mC p m meth c cX7_lowestBit 3 s args wsX7_lowestBit yX7_lowestBit.cls D A yX7_lowestBit (some .int)) (k24 : -1 = B → mV p l e ({ frames := 1, cells := 0, slots := 0, locals := 60 } : Room) s m args below meth c 3 D A Q M 0 0 [(0, .long b)] [] 24) (k17 : ∀ x2 v : Int32, v = B → mV p l e ({ frames := 1, cells := 0, slots := 0, locals := 60 } : Room) s m args below meth c 3 D A Q M 0 0 [(2, .int x2), (0, .long b)] [.int v] 17) : ∀ (N : Nat) (i9 : Nat), 64 - i9 = N → (i9 ≤ 64) → (q_lo (bL b) (64 - i9) = B) → mV p l e ({ frames := 1, cells := 0, slots := 0, locals := 60 } : Room) s m args below meth c 3 D A Q M 0 0 [(2, .int (nI i9)), (0, .long b)] [] 2 := by
  intro N
  induction N using Nat.strongRecOn with
  | _ N ih =>
    intro i9 hN hk hB
    refine m_iload_n C dX7_lowestBit_2 rfl 0 rfl ?_
    refine m_bipush (v := 64) C dX7_lowestBit_3 (by decide) ?_
    refine m_icmp_ge (tgt := 24) C dX7_lowestBit_5 (by decide) (fun h_1 => ?_) (fun h_1 => ?_)
    · refine m_sub (L' := [(0, .long b)]) [1] rfl ?_
      have h64 : i9 = 64 := by
        have := (nI_leI (a := 64) (b := i9) (by omega) (by omega)).mp h_1
        omega
      subst h64
      exact k24 (by rw [← hB]; rfl)
    · have hkm : i9 < 64 := by
        rcases Nat.lt_or_ge i9 64 with z | z
        · exact z
        · exact absurd (nI_le (a := 64) (b := i9) z (by omega)) h_1
      refine m_lload_n C dX7_lowestBit_8 rfl 1 rfl ?_
      refine m_iload_n C dX7_lowestBit_9 rfl 0 rfl ?_
      refine m_callSFi (As := [.long b, .int (nI i9)]) (st := []) (v := bI (bL b i9)) C (c_X7_hasBit D A l (x := i9) (by omega)) (va_cwS 2 C.1.2.2.2.2 gX7_lowestBit_X7_hasBit rfl rfl rfl (by decide +kernel) ⟨Nat.le_of_ble_eq_true rfl, Nat.le_of_ble_eq_true rfl⟩) rfl rfl (Nat.le_of_ble_eq_true rfl) dX7_lowestBit_10 ⟨Nat.le_of_ble_eq_true rfl, Nat.le_of_ble_eq_true rfl⟩ ?_
      refine m_if_eq (tgt := 18) C dX7_lowestBit_13 (by decide) (fun h_2 => ?_) (fun h_2 => ?_)
      · have h_2 := bI_z h_2
        obtain ⟨x_3, ex_3⟩ : ∃ z : Int32, z = nI i9 + 1 := ⟨_, rfl⟩
        refine m_iinc (q := 0) (v := x_3) (L' := [(2, .int x_3), (0, .long b)]) C dX7_lowestBit_18 rfl (by rw [ex_3]; rfl) (by decide) rfl ?_
        refine m_goto (tgt := 2) C dX7_lowestBit_21 (by decide) ?_
        rw [nI_1] at ex_3
        subst ex_3
        refine m_sub (L' := [(2, .int (nI (i9 + 1))), (0, .long b)]) [0, 1] rfl ?_
        refine ih (64 - (i9 + 1)) (by omega) (i9 + 1) rfl (by omega) ?_
        obtain ⟨d9, hd9⟩ : ∃ d : Nat, 64 - i9 = d + 1 := ⟨63 - i9, by omega⟩
        rw [← hB, hd9, q_lo, show 64 - (d9 + 1) = i9 by omega, if_neg (by rw [h_2]; decide), show 64 - (i9 + 1) = d9 by omega]
      · have h_2 := bI_n h_2
        refine m_iload_n C dX7_lowestBit_16 rfl 0 rfl ?_
        refine k17 _ _ ?_
        obtain ⟨d9, hd9⟩ : ∃ d : Nat, 64 - i9 = d + 1 := ⟨63 - i9, by omega⟩
        rw [← hB, hd9, q_lo, show 64 - (d9 + 1) = i9 by omega, if_pos h_2]
set_option maxHeartbeats 4000000 in
set_option maxRecDepth 100000 in
theorem c_X7_lowestBit (D : mD) (A : Nat → Prop) (l : Launch) {b : Int64} {M : Mm} : mMi D A l yX7_lowestBit wsX7_lowestBit ({ frames := 1, cells := 0, slots := 0, locals := 60 } : Room) [.long b] M (fun r M' => M' = M ∧ r = q_lo (bL b) 64) 0 0 := by
  refine m_start (cc := cX7_lowestBit) (maxL := 3) (ret := (some .int)) (by decide) rfl (Nat.le_of_ble_eq_true rfl) ?_
  intro p e s m args below meth c C
  refine m_sub (L' := [(0, .long b)]) [0] rfl ?_
  refine m_iconst (v := 0) C dX7_lowestBit_0 (by decide) ?_
  refine m_istore_n (L' := [(2, .int 0), (0, .long b)]) C dX7_lowestBit_1 rfl (by decide) rfl ?_
  refine m_sub (L' := [(2, .int 0), (0, .long b)]) [0, 1] rfl ?_
  refine lp_X7_lowestBit (B := q_lo (bL b) 64) C (fun hB => ?_) (fun x2 v hB => ?_) _ 0 rfl (by decide) rfl
  · refine m_iconst (v := (-1)) C dX7_lowestBit_24 (by decide) ?_
    exact m_iret C (Nat.le_of_ble_eq_true rfl) (Nat.le_of_ble_eq_true rfl) dX7_lowestBit_25 (⟨rfl, hB⟩)
  · exact m_iret C (Nat.le_of_ble_eq_true rfl) (Nat.le_of_ble_eq_true rfl) dX7_lowestBit_17 (⟨rfl, hB⟩)
set_option maxHeartbeats 4000000 in
set_option maxRecDepth 100000 in
theorem lp_X7_highestBit {p : Program} {l : Launch} {e : Env} {s : State} {m : MethodId} {args : Array Value} {below : List Frame} {meth : Method} {c : Code} {Q : State → Prop} {D : mD} {A : Nat → Prop} {M : Mm} {b : Int64} {B : Int32} (C : mC p m meth c cX7_highestBit 3 s args wsX7_highestBit yX7_highestBit.cls D A yX7_highestBit (some .int)) (k23 : -1 = B → mV p l e ({ frames := 1, cells := 0, slots := 0, locals := 60 } : Room) s m args below meth c 3 D A Q M 0 0 [(0, .long b)] [] 23) (k16 : ∀ x2 v : Int32, v = B → mV p l e ({ frames := 1, cells := 0, slots := 0, locals := 60 } : Room) s m args below meth c 3 D A Q M 0 0 [(2, .int x2), (0, .long b)] [.int v] 16) : ∀ (N : Nat) (j9 : Nat) (x2 : Int32), j9 = N → (j9 ≤ 64) → (x2 = nI j9 - 1) → (q_hi (bL b) j9 = B) → mV p l e ({ frames := 1, cells := 0, slots := 0, locals := 60 } : Room) s m args below meth c 3 D A Q M 0 0 [(2, .int x2), (0, .long b)] [] 3 := by
  intro N
  induction N using Nat.strongRecOn with
  | _ N ih =>
    intro j9 x2 hN hj hx hB
    refine m_iload_n C dX7_highestBit_3 rfl 0 rfl ?_
    refine m_if_lt (tgt := 23) C dX7_highestBit_4 (by decide) (fun h_1 => ?_) (fun h_1 => ?_)
    · refine m_sub (L' := [(0, .long b)]) [1] rfl ?_
      have hz : j9 = 0 := by
        rcases Nat.eq_zero_or_pos j9 with z | z
        · exact z
        · rw [hx, show (1 : Int32) = nI 1 from rfl, pk_sub z] at h_1
          exact absurd h_1 (nI_pos (by omega))
      subst hz
      exact k23 (by rw [← hB]; rfl)
    · have hj1 : 0 < j9 := by
        rcases Nat.eq_zero_or_pos j9 with z | z
        · rw [hx, z] at h_1
          exact absurd (show nI 0 - 1 < 0 by decide) h_1
        · exact z
      obtain ⟨k9, rfl⟩ : ∃ k9, j9 = k9 + 1 := ⟨j9 - 1, by omega⟩
      rw [nI_pred] at hx
      subst hx
      refine m_lload_n C dX7_highestBit_7 rfl 1 rfl ?_
      refine m_iload_n C dX7_highestBit_8 rfl 0 rfl ?_
      refine m_callSFi (As := [.long b, .int (nI k9)]) (st := []) (v := bI (bL b k9)) C (c_X7_hasBit D A l (x := k9) (by omega)) (va_cwS 2 C.1.2.2.2.2 gX7_highestBit_X7_hasBit rfl rfl rfl (by decide +kernel) ⟨Nat.le_of_ble_eq_true rfl, Nat.le_of_ble_eq_true rfl⟩) rfl rfl (Nat.le_of_ble_eq_true rfl) dX7_highestBit_9 ⟨Nat.le_of_ble_eq_true rfl, Nat.le_of_ble_eq_true rfl⟩ ?_
      refine m_if_eq (tgt := 17) C dX7_highestBit_12 (by decide) (fun h_2 => ?_) (fun h_2 => ?_)
      · have h_2 := bI_z h_2
        obtain ⟨x4, ex4⟩ : ∃ y : Int32, y = nI k9 - 1 := ⟨_, rfl⟩
        refine m_iinc (q := 0) (v := x4) (L' := [(2, .int x4), (0, .long b)]) C dX7_highestBit_17 rfl (by rw [ex4, Int32.sub_eq_add_neg]; rfl) (by decide) rfl ?_
        refine m_goto (tgt := 3) C dX7_highestBit_20 (by decide) ?_
        refine m_sub (L' := [(2, .int x4), (0, .long b)]) [0, 1] rfl ?_
        exact ih k9 (by omega) k9 x4 rfl (by omega) ex4 (by rw [← hB, q_hi, if_neg (by rw [h_2]; decide)])
      · have h_2 := bI_n h_2
        refine m_iload_n C dX7_highestBit_15 rfl 0 rfl ?_
        exact k16 _ _ (by rw [← hB, q_hi, if_pos h_2])
set_option maxHeartbeats 4000000 in
set_option maxRecDepth 100000 in
theorem c_X7_highestBit (D : mD) (A : Nat → Prop) (l : Launch) {b : Int64} {M : Mm} : mMi D A l yX7_highestBit wsX7_highestBit ({ frames := 1, cells := 0, slots := 0, locals := 60 } : Room) [.long b] M (fun r M' => M' = M ∧ r = q_hi (bL b) 64) 0 0 := by
  refine m_start (cc := cX7_highestBit) (maxL := 3) (ret := (some .int)) (by decide) rfl (Nat.le_of_ble_eq_true rfl) ?_
  intro p e s m args below meth c C
  refine m_sub (L' := [(0, .long b)]) [0] rfl ?_
  refine m_bipush (v := 63) C dX7_highestBit_0 (by decide) ?_
  refine m_istore_n (L' := [(2, .int 63), (0, .long b)]) C dX7_highestBit_2 rfl (by decide) rfl ?_
  refine m_sub (L' := [(2, .int 63), (0, .long b)]) [0, 1] rfl ?_
  refine lp_X7_highestBit (B := q_hi (bL b) 64) C (fun hB => ?_) (fun x2 v hB => ?_) _ 64 63 rfl (by decide) rfl rfl
  · refine m_iconst (v := (-1)) C dX7_highestBit_23 (by decide) ?_
    exact m_iret C (Nat.le_of_ble_eq_true rfl) (Nat.le_of_ble_eq_true rfl) dX7_highestBit_24 (⟨rfl, hB⟩)
  · exact m_iret C (Nat.le_of_ble_eq_true rfl) (Nat.le_of_ble_eq_true rfl) dX7_highestBit_16 (⟨rfl, hB⟩)
