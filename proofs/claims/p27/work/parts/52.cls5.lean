/-! ===== the class: spans and boxes ===== -/
theorem sp_l : ∀ a, a < 64 → ∀ x, x < 64 → bL ((-1 : Int64) <<< ((nI a).toInt64 &&& 63)) x = decide (a ≤ x) := by decide +kernel
theorem sp_r : ∀ b, b < 64 → ∀ x, x < 64 → bL (((-1 : Int64).toUInt64 >>> ((nI b).toInt64.toUInt64 &&& Int64.toUInt64 63)).toInt64) x = decide (x < 64 - b) := by decide +kernel
theorem bL_and (v w : Int64) (x : Nat) : bL (v &&& w) x = (bL v x && bL w x) := by unfold bL; rw [Int64.toBitVec_and, BitVec.getLsbD_and]
theorem bL_or (v w : Int64) (x : Nat) : bL (v ||| w) x = (bL v x || bL w x) := by unfold bL; rw [Int64.toBitVec_or, BitVec.getLsbD_or]
theorem bL_0 (x : Nat) : bL 0 x = false := by unfold bL; exact BitVec.getLsbD_zero
theorem bL_m1 : ∀ x, x < 64 → bL (-1) x = true := by decide +kernel
theorem nI_f (f t : Int32) (x : Nat) (hx : x < 64) : (f ≤ nI x ↔ f.toInt ≤ x) ∧ (nI x < t ↔ (x : Int) < t.toInt) := by
  constructor
  · rw [Int32.le_iff_toInt_le, nI_toInt (by omega)]
  · rw [Int32.lt_iff_toInt_lt, nI_toInt (by omega)]
theorem sp_mx (f : Int32) : (if f < 0 then 0 else f).toInt = if f.toInt < 0 then 0 else f.toInt := by
  by_cases h : f < 0
  · rw [if_pos h, if_pos (by rw [Int32.lt_iff_toInt_lt] at h; exact h)]
    rfl
  · rw [if_neg h, if_neg (fun z => h (by rw [Int32.lt_iff_toInt_lt]; exact z))]
theorem sp_mn (t : Int32) : (if 64 < t then 64 else t).toInt = if 64 < t.toInt then 64 else t.toInt := by
  by_cases h : 64 < t
  · rw [if_pos h, if_pos (by rw [Int32.lt_iff_toInt_lt] at h; exact h)]
    rfl
  · rw [if_neg h, if_neg (fun z => h (by rw [Int32.lt_iff_toInt_lt]; exact z))]
theorem sp_no {f t : Int32} (h : ¬ (if f < 0 then 0 else f) < (if 64 < t then 64 else t)) : ∀ x, x < 64 → (decide (f ≤ nI x) && decide (nI x < t)) = false := by
  intro x hx
  rw [Int32.lt_iff_toInt_lt, sp_mx, sp_mn] at h
  rw [Bool.and_eq_false_iff, decide_eq_false_iff_not, decide_eq_false_iff_not, (nI_f f t x hx).1, (nI_f f t x hx).2]
  split at h <;> split at h <;> omega
theorem sp_ab {f t : Int32} (h : (if f < 0 then 0 else f) < (if 64 < t then 64 else t)) : ∃ a b : Nat, a < b ∧ b ≤ 64 ∧ (if f < 0 then 0 else f) = nI a ∧ (if 64 < t then 64 else t) = nI b ∧ ∀ x, x < 64 → (decide (f ≤ nI x) && decide (nI x < t)) = (decide (a ≤ x) && decide (x < b)) := by
  rw [Int32.lt_iff_toInt_lt, sp_mx, sp_mn] at h
  refine ⟨(if f.toInt < 0 then 0 else f.toInt).toNat, (if 64 < t.toInt then 64 else t.toInt).toNat, ?_, ?_, ?_, ?_, ?_⟩
  · split at h <;> split at h <;> omega
  · split <;> omega
  · rw [← Int32.toInt_inj, sp_mx, nI_toInt]
    · split at h <;> split at h <;> omega
    · split at h <;> split at h <;> omega
  · rw [← Int32.toInt_inj, sp_mn, nI_toInt]
    · split at h <;> split at h <;> omega
    · split at h <;> split at h <;> omega
  · intro x hx
    have e1 : decide (f ≤ nI x) = decide ((if f.toInt < 0 then 0 else f.toInt).toNat ≤ x) := by
      rw [decide_eq_decide, (nI_f f t x hx).1]
      split <;> omega
    have e2 : decide (nI x < t) = decide (x < (if 64 < t.toInt then 64 else t.toInt).toNat) := by
      rw [decide_eq_decide, (nI_f f t x hx).2]
      split <;> omega
    rw [e1, e2]
set_option maxHeartbeats 4000000 in
set_option maxRecDepth 100000 in
theorem c_X7_spanBits (D : mD) (A : Nat → Prop) (l : Launch) {f t : Int32} {M : Mm} : mMl D A l yX7_spanBits wsX7_spanBits ({ frames := 1, cells := 0, slots := 0, locals := 60 } : Room) [.int f, .int t] M (fun r M' => M' = M ∧ ∀ x9, x9 < 64 → bL r x9 = (decide (f ≤ nI x9) && decide (nI x9 < t))) 0 0 := by
  refine m_start (cc := cX7_spanBits) (maxL := 4) (ret := (some .long)) (by decide) rfl (Nat.le_of_ble_eq_true rfl) ?_
  intro p e s m args below meth c C
  refine m_sub (L' := [(0, .int f), (1, .int t)]) [0, 1] rfl ?_
  refine m_iload_n C dX7_spanBits_0 rfl 0 rfl ?_
  refine m_iconst (v := 0) C dX7_spanBits_1 (by decide) ?_
  refine m_mmax (x := f) (y := 0) (index := 86) C (by decide +kernel) (by decide +kernel) (by decide +kernel) (by decide +kernel) (Nat.le_of_ble_eq_true rfl) (Nat.le_of_ble_eq_true rfl) (Nat.le_of_ble_eq_true rfl) (Nat.le_of_ble_eq_true rfl) dX7_spanBits_2 ?_
  refine m_istore_n (L' := [(2, .int (if f < 0 then 0 else f)), (0, .int f), (1, .int t)]) C dX7_spanBits_5 rfl (by decide) rfl ?_
  refine m_iload_n C dX7_spanBits_6 rfl 2 rfl ?_
  refine m_bipush (v := 64) C dX7_spanBits_7 (by decide) ?_
  refine m_mmin (x := t) (y := 64) (index := 80) C (by decide +kernel) (by decide +kernel) (by decide +kernel) (by decide +kernel) (Nat.le_of_ble_eq_true rfl) (Nat.le_of_ble_eq_true rfl) (Nat.le_of_ble_eq_true rfl) (Nat.le_of_ble_eq_true rfl) dX7_spanBits_9 ?_
  refine m_istore_n (L' := [(3, .int (if 64 < t then 64 else t)), (2, .int (if f < 0 then 0 else f)), (0, .int f), (1, .int t)]) C dX7_spanBits_12 rfl (by decide) rfl ?_
  refine m_iload_n C dX7_spanBits_13 rfl 1 rfl ?_
  refine m_iload_n C dX7_spanBits_14 rfl 0 rfl ?_
  refine m_icmp_lt (tgt := 20) C dX7_spanBits_15 (by decide) (fun h_1 => ?_) (fun h_1 => ?_)
  · obtain ⟨a, b, hab, hb, ea, eb, h9⟩ := sp_ab h_1
    rw [ea, eb]
    refine m_ldc2l (index := 290) (v := -1) C (by decide +kernel) dX7_spanBits_20 ?_
    refine m_iload_n C dX7_spanBits_23 rfl 1 rfl ?_
    refine m_lshl C dX7_spanBits_24 rfl ?_
    refine m_ldc2l (index := 290) (v := -1) C (by decide +kernel) dX7_spanBits_25 ?_
    refine m_bipush (v := 64) C dX7_spanBits_28 (by decide) ?_
    refine m_iload_n C dX7_spanBits_30 rfl 0 rfl ?_
    refine m_isub C dX7_spanBits_31 ?_
    refine m_i (y := nI (64 - b)) (pk_sub (a := 64) hb) ?_
    refine m_lushr C dX7_spanBits_32 rfl ?_
    refine m_land C dX7_spanBits_33 ?_
    exact m_lret C (Nat.le_of_ble_eq_true rfl) (Nat.le_of_ble_eq_true rfl) dX7_spanBits_34 (⟨rfl, fun x9 hx9 => by rw [h9 x9 hx9, bL_and, sp_l a (by omega) x9 hx9, sp_r (64 - b) (by omega) x9 hx9, show 64 - (64 - b) = b by omega]⟩)
  · have h9 := sp_no h_1
    refine m_lconst (v := 0) C dX7_spanBits_18 rfl ?_
    exact m_lret C (Nat.le_of_ble_eq_true rfl) (Nat.le_of_ble_eq_true rfl) dX7_spanBits_19 (⟨rfl, fun x9 hx9 => by rw [h9 x9 hx9]; exact bL_0 x9⟩)
set_option maxHeartbeats 4000000 in
set_option maxRecDepth 100000 in
theorem c_X0_hasRow (D : mD) (A : Nat → Prop) (l : Launch) {a : Nat} {y lf tp rt bt : Int32} {M : Mm} (h_a : M a = some (.inr (3, [.int lf, .int tp, .int rt, .int bt]))) : mMi D A l yX0_hasRow wsX0_hasRow ({ frames := 0, cells := 0, slots := 0, locals := 0 } : Room) [.ref a, .int y] M (fun r M' => M' = M ∧ r = bI (decide (tp ≤ y) && decide (y < bt))) 0 0 := by
  refine m_start (cc := cX0_hasRow) (maxL := 2) (ret := (some .boolean)) (by decide) rfl (Nat.le_of_ble_eq_true rfl) ?_
  intro p e s m args below meth c C
  have i_X0 : ∀ w ∈ wsX00, w ∈ wsX0_hasRow := by decide +kernel
  refine m_sub (L' := [(0, .ref a), (1, .int y)]) [0, 1] rfl ?_
  refine m_iload_n C dX0_hasRow_0 rfl 1 rfl ?_
  refine m_aload_n C dX0_hasRow_1 rfl 0 rfl ?_
  refine m_get (ref := "PaintLayers$Box") C h_a rfl i_X0 1 (by decide) (by decide +kernel) (fun x h => h) (v := .int tp) rfl dX0_hasRow_2 ?_
  refine m_icmp_lt (tgt := 20) C dX0_hasRow_5 (by decide) (fun h_1 => ?_) (fun h_1 => ?_)
  · refine m_iconst (v := 0) C dX0_hasRow_20 (by decide) ?_
    exact m_zret C (Nat.le_of_ble_eq_true rfl) (Nat.le_of_ble_eq_true rfl) dX0_hasRow_21 (Or.inl rfl) (⟨rfl, by simp [bI, h_1, Int32.not_le.mpr h_1]⟩)
  · refine m_iload_n C dX0_hasRow_8 rfl 1 rfl ?_
    refine m_aload_n C dX0_hasRow_9 rfl 0 rfl ?_
    refine m_get (ref := "PaintLayers$Box") C h_a rfl i_X0 3 (by decide) (by decide +kernel) (fun x h => h) (v := .int bt) rfl dX0_hasRow_10 ?_
    refine m_icmp_ge (tgt := 20) C dX0_hasRow_13 (by decide) (fun h_2 => ?_) (fun h_2 => ?_)
    · refine m_iconst (v := 0) C dX0_hasRow_20 (by decide) ?_
      exact m_zret C (Nat.le_of_ble_eq_true rfl) (Nat.le_of_ble_eq_true rfl) dX0_hasRow_21 (Or.inl rfl) (⟨rfl, by simp [bI, h_1, Int32.not_lt.mp h_1, h_2, Int32.not_lt.mpr h_2]⟩)
    · refine m_iconst (v := 1) C dX0_hasRow_16 (by decide) ?_
      refine m_goto (tgt := 21) C dX0_hasRow_17 (by decide) ?_
      exact m_zret C (Nat.le_of_ble_eq_true rfl) (Nat.le_of_ble_eq_true rfl) dX0_hasRow_21 (Or.inr rfl) (⟨rfl, by simp [bI, h_1, Int32.not_lt.mp h_1, h_2, Int32.not_le.mp h_2]⟩)

