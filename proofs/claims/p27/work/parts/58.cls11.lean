/-! ===== the class: within, places ===== -/
theorem zO_nPa {Z : Nat → Nat} {ar : rA} {n : Nat} : nPa Z ar n = zO Z (if n = 0 then none else some (par9 ar n)) := by
  unfold nPa
  by_cases h : n = 0
  · rw [if_pos h, if_pos h]; rfl
  · rw [if_neg h, if_neg h]; rfl
set_option maxHeartbeats 4000000 in
set_option maxRecDepth 100000 in
theorem c_X7_isWithin_n (D : mD) (A : Nat → Prop) (l : Launch) {t : Nat} {Z : Nat → Nat} {M : Mm} : mMi D A l yX7_isWithin wsX7_isWithin ({ frames := 0, cells := 0, slots := 0, locals := 0 } : Room) [.null, .ref (Z (100 + t))] M (fun r M' => M' = M ∧ r = bI false) 0 0 := by
  refine m_start (cc := cX7_isWithin) (maxL := 3) (ret := (some .boolean)) (by decide) rfl (Nat.le_of_ble_eq_true rfl) ?_
  intro p e s m args below meth c C
  refine m_sub (L' := [(0, .null), (1, .ref (Z (100 + t)))]) [0, 1] rfl ?_
  refine m_aload_nq (x := none) C dX7_isWithin_0 rfl 0 rfl ?_
  refine m_astore_nq (x := none) (L' := [(2, .null), (0, .null), (1, .ref (Z (100 + t)))]) C dX7_isWithin_1 rfl (by decide) rfl ?_
  refine m_aload_nq (x := none) C dX7_isWithin_2 rfl 0 rfl ?_
  refine m_ifnull (x := none) (tgt := 21) C dX7_isWithin_3 (by decide) (fun _ => ?_) (fun q h => absurd h (by simp))
  refine m_iconst (v := 0) C dX7_isWithin_21 (by decide) ?_
  exact m_zret C (Nat.le_of_ble_eq_true rfl) (Nat.le_of_ble_eq_true rfl) dX7_isWithin_22 (Or.inl rfl) (⟨rfl, rfl⟩)

