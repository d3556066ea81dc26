/-! ===== the class: finding a node ===== -/
theorem okI_n {v : Int32} (h : okI v 40 = true) : ∃ j : Nat, j < 40 ∧ v = nI j := by
  simp [okI] at h
  obtain ⟨j, hj, e⟩ := nI_of2 (x := v) (M := 39) (n := 39) rfl (fun z => by rw [Int32.lt_iff_toInt_lt] at z; have := h.1; rw [Int32.le_iff_toInt_le] at this; exact absurd z (by omega)) (by rw [Int32.le_iff_toInt_le]; have := h.2; rw [Int32.lt_iff_toInt_lt] at this; have e1 : (40 : Int32).toInt = 40 := rfl; have e2 : (39 : Int32).toInt = 39 := rfl; omega)
  exact ⟨j, by omega, e⟩
theorem q_node_t {cm j : Nat} {ar : rA} (hc : cm ≤ 40) (hj : cP ar cm j) : q_node cm ar (nI j) = true := by
  have hl := hj.1
  unfold q_node q_in
  rw [nI_clamp (by omega), decide_eq_true hj.2, decide_eq_true (nI_pos' (by omega)), Bool.and_true, Bool.true_and, decide_eq_true_eq]
  rw [show nI cm - 1 = nI (cm - 1) from pk_sub (b := 1) (by omega)]
  exact nI_le (by omega) (by omega)
theorem q_node_f {cm j : Nat} {ar : rA} (hc : cm ≤ 40) (h40 : j < 40) (h : ¬ cP ar cm j) : q_node cm ar (nI j) = false := by
  cases hq : q_node cm ar (nI j) with
  | false => rfl
  | true =>
    unfold q_node q_in at hq
    rw [nI_clamp (by omega), Bool.and_eq_true, Bool.and_eq_true, decide_eq_true_eq, decide_eq_true_eq, decide_eq_true_eq] at hq
    refine absurd ⟨?_, hq.2⟩ h
    rcases Nat.eq_zero_or_pos cm with z | z
    · rw [z] at hq
      have h9 := hq.1.2
      rw [Int32.le_iff_toInt_le, nI_toInt (by omega)] at h9
      have e : (nI 0 - 1).toInt = -1 := by decide
      omega
    · have h9 := hq.1.2
      rw [show nI cm - 1 = nI (cm - 1) from pk_sub (b := 1) (by omega)] at h9
      have := (nI_leI (a := j) (b := cm - 1) (by omega) (by omega)).mp h9
      omega
theorem q_node_o {cm : Nat} {ar : rA} {v : Int32} (hc : cm ≤ 40) (h : okI v 40 = false) : q_node cm ar v = false := by
  cases hq : q_node cm ar v with
  | false => rfl
  | true =>
    exfalso
    unfold q_node q_in at hq
    rw [Bool.and_eq_true, Bool.and_eq_true, decide_eq_true_eq, decide_eq_true_eq] at hq
    have h1 := hq.1.1
    have h2 := hq.1.2
    have h3 : okI v 40 = true := by
      unfold okI
      rw [Bool.and_eq_true, decide_eq_true_eq, decide_eq_true_eq]
      rw [Int32.le_iff_toInt_le] at h1 h2
      refine ⟨fun z => ?_, ?_⟩
      · rw [Int32.lt_iff_toInt_lt] at z
        omega
      · rw [Int32.lt_iff_toInt_lt]
        have e1 : (40 : Int32).toInt = 40 := rfl
        have e0 : (0 : Int32).toInt = 0 := rfl
        rcases Nat.eq_zero_or_pos cm with w | w
        · rw [w] at h2
          have e : (nI 0 - 1).toInt = -1 := by decide
          omega
        · rw [show nI cm - 1 = nI (cm - 1) from pk_sub (b := 1) (by omega), nI_toInt (by omega)] at h2
          omega
    rw [h3] at h
    cases h
set_option maxHeartbeats 4000000 in
set_option maxRecDepth 100000 in
theorem c_X7_find (D : mD) (A : Nat → Prop) (l : Launch) (hst : l.stackTraces = false) {Z : Nat → Nat} {F : Mm} {cm : Nat} {g : Int32} {ar : rA} {fi : Nat → Nat → Int32} {nl : Nat → Nat → Int64} {L : List Nat} {rw : Nat → Int32} {M : Mm} (hR : cS D Z F cm g ar fi nl L rw M) (hcm : cm ≤ 40) {v : Int32} : mXq D A l yX7_find wsX7_find ({ frames := 7, cells := 2, slots := 12, locals := 260 } : Room) [.ref (Z 0), .int v] M (fun r M' => M' = M ∧ ∃ j : Nat, v = nI j ∧ cP ar cm j ∧ r = some (Z (100 + j))) (fun E M' => E = xIO ∧ M' = M ∧ q_node cm ar v = false) 2 12 := by
  refine m_startX (cc := cX7_find) (maxL := 3) (ret := (some (.object "PaintLayers$Node"))) (by decide) rfl (Nat.le_of_ble_eq_true rfl) ?_
  intro p e s m args below meth c C hE
  have i_X7 : ∀ w ∈ wsX70, w ∈ wsX7_find := by decide +kernel
  refine m_sub (L' := [(0, .ref (Z 0)), (1, .int v)]) [0, 1] rfl ?_
  refine m_iload_n C dX7_find_0 rfl 1 rfl ?_
  refine m_bipush (v := 40) C dX7_find_1 (by decide) ?_
  refine m_callSXv (As := [.int v, .int 40]) (st := []) C (c_X7_checkIndex D A l hst) (va_cwS 2 C.1.2.2.2.2 gX7_find_X7_checkIndex rfl rfl rfl (by decide +kernel) ⟨Nat.le_of_ble_eq_true rfl, Nat.le_of_ble_eq_true rfl⟩) rfl rfl (Nat.le_of_ble_eq_true rfl) dX7_find_3 ⟨Nat.le_of_ble_eq_true rfl, Nat.le_of_ble_eq_true rfl⟩ hE (fun E M9 z9 => ⟨z9.1, z9.2.1, q_node_o hcm z9.2.2⟩) (Nat.le_of_ble_eq_true rfl) (Nat.le_of_ble_eq_true rfl) (fun M9 hq9 => ?_)
  obtain ⟨e9, hq9⟩ := hq9
  subst e9
  rename Mm => M
  have hok := hq9
  clear hq9
  refine m_aload_n C dX7_find_6 rfl 0 rfl ?_
  refine m_get (ref := "PaintLayers") C hR.me rfl i_X7 0 (by decide) (by decide +kernel) (fun x h => h) (v := .ref (Z 1)) rfl dX7_find_7 ?_
  refine m_iload_n C dX7_find_10 rfl 1 rfl ?_
  obtain ⟨j, hj, rfl⟩ := okI_n hok
  refine m_aald C hR.1.gna 2 rfl (vp_in_nI hj (by omega)) dX7_find_11 ?_
  rw [nI_clamp (show j < 2 ^ 31 by omega)]
  by_cases hjp : cP ar cm j
  · rw [show naF Z cm ar j = some (Z (100 + j)) from if_pos hjp]
    refine m_astore_n (L' := [(2, .ref (Z (100 + j))), (0, .ref (Z 0)), (1, .int (nI j))]) C dX7_find_12 rfl (by decide) rfl ?_
    refine m_aload_n C dX7_find_13 rfl 0 rfl ?_
    refine m_ifnonnull (x := some (Z (100 + j))) (tgt := 27) C dX7_find_14 (by decide) (fun _ _ => ?_) (fun h => absurd h (by simp))
    refine m_aload_n C dX7_find_27 rfl 0 rfl ?_
    exact m_aretX C (Or.inl ⟨_, rfl⟩) (v := some (Z (100 + j))) (Nat.le_of_ble_eq_true rfl) (Nat.le_of_ble_eq_true rfl) dX7_find_28 (⟨rfl, j, rfl, hjp, rfl⟩)
  · rw [show naF Z cm ar j = none from if_neg hjp]
    refine m_astore_nq (x := none) (L' := [(2, .null), (0, .ref (Z 0)), (1, .int (nI j))]) C dX7_find_12 rfl (by decide) rfl ?_
    refine m_aload_nq (x := none) C dX7_find_13 rfl 0 rfl ?_
    refine m_ifnonnull (x := none) (tgt := 27) C dX7_find_14 (by decide) (fun q h => absurd h (by simp)) (fun _ => ?_)
    exact m_throwS (E := xIO) (text := "no such node") C hst hE (by decide) (by decide +kernel) (by decide +kernel) (by decide +kernel) (by decide) (by decide +kernel) (by decide +kernel) (by decide +kernel) dX7_find_17 dX7_find_20 dX7_find_21 dX7_find_23 dX7_find_26 (Nat.le_of_ble_eq_true rfl) (Nat.le_of_ble_eq_true rfl) (Nat.le_of_ble_eq_true rfl) (Nat.le_of_ble_eq_true rfl) (Nat.le_of_ble_eq_true rfl) (Nat.le_of_ble_eq_true rfl) (⟨rfl, rfl, q_node_f hcm hj hjp⟩)

