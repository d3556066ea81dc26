/-! ===== the law: below, cell, group, any ===== -/
/-- what below answers -/
def q_bl (v : Int32) (N : Nat) : Nat := (v &&& 2147483647).toNatClampNeg % N
theorem q_bl_lt {v : Int32} {N : Nat} (h : 0 < N) : q_bl v N < N := Nat.mod_lt _ h
theorem and_pos (v : Int32) : (v &&& 2147483647) = nI (v &&& 2147483647).toNatClampNeg := by
  have hm : (v &&& 2147483647).toBitVec.msb = false := by
    rw [Int32.toBitVec_and, BitVec.msb_and, show (2147483647 : Int32).toBitVec.msb = false by decide, Bool.and_false]
  have h0 : (v &&& 2147483647).toInt = ((v &&& 2147483647).toBitVec.toNat : Int) := by
    show (v &&& 2147483647).toBitVec.toInt = _
    rw [BitVec.toInt_eq_msb_cond, hm]
    rfl
  apply Int32.toInt_inj.mp
  have hlt : (v &&& 2147483647).toBitVec.toNat < 2 ^ 31 := by
    have := BitVec.msb_eq_false_iff_two_mul_lt.mp hm
    omega
  have hc : (v &&& 2147483647).toNatClampNeg = (v &&& 2147483647).toBitVec.toNat := by
    show (v &&& 2147483647).toInt.toNat = _
    rw [h0]
    rfl
  rw [hc, nI_toInt hlt, h0]
theorem clamp_lt (v : Int32) : v.toNatClampNeg < 2 ^ 31 := by
  have h := Int32.toInt_lt v
  show v.toInt.toNat < 2 ^ 31
  omega
set_option maxHeartbeats 4000000 in
set_option maxRecDepth 100000 in
theorem c_L_below (D : mD) (A : Nat → Prop) (l : Launch) {v : Int32} {N : Nat} (hN : 0 < N) (hN2 : N < 2 ^ 31) {M : Mm} : mMi D A l yL_below wsL_below ({ frames := 0, cells := 0, slots := 0, locals := 0 } : Room) [.int v, .int (nI N)] M (fun r M' => M' = M ∧ r = nI (q_bl v N)) 0 0 := by
  refine m_start (cc := cL_below) (maxL := 2) (ret := (some .int)) (by decide) rfl (Nat.le_of_ble_eq_true rfl) ?_
  intro p e s m args below meth c C
  refine m_sub (L' := [(0, .int v), (1, .int (nI N))]) [0, 1] rfl ?_
  refine m_iload_n C dL_below_0 rfl 0 rfl ?_
  refine m_ldc C (v := 2147483647) (C.1.2.2.2.2 _ (by decide +kernel)) dL_below_1 ?_
  refine m_iand C dL_below_3 ?_
  refine m_i (y := nI (v &&& 2147483647).toNatClampNeg) (and_pos v) ?_
  refine m_iload_n C dL_below_4 rfl 1 rfl ?_
  refine m_irem C dL_below_5 (fun z => ?_) ?_
  · have := congrArg Int32.toNatClampNeg z
    rw [nI_clamp hN2] at this
    exact absurd this (by show ¬ N = 0; omega)
  rw [pk_rem (clamp_lt _) hN hN2]
  exact m_iret C (Nat.le_of_ble_eq_true rfl) (Nat.le_of_ble_eq_true rfl) dL_below_6 (⟨rfl, rfl⟩)
set_option maxHeartbeats 4000000 in
set_option maxRecDepth 100000 in
theorem c_L_cell (D : mD) (A : Nat → Prop) (l : Launch) {b N : Nat} {xs : Nat → Int32} {j : Nat} {M : Mm} (hj : j < 2 ^ 31) (hN : N < 2 ^ 31) : eMi D A b N xs l yL_cell wsL_cell ({ frames := 0, cells := 0, slots := 0, locals := 0 } : Room) [.ref b, .int (nI j)] M (fun r M' => M' = M) 0 0 := by
  refine e_start (cc := cL_cell) (maxL := 2) (ret := (some .int)) (by decide) rfl (Nat.le_of_ble_eq_true rfl) ?_
  intro p e s m args below meth c C hE
  refine m_sub (L' := [(0, .ref b), (1, .int (nI j))]) [0, 1] rfl ?_
  refine m_iload_n C dL_cell_0 rfl 1 rfl ?_
  refine m_aload_n C dL_cell_1 rfl 0 rfl ?_
  refine m_slen C hE.1 hE.2.1 hE.2.2 dL_cell_2 ?_
  refine m_icmp_ge (tgt := 12) C dL_cell_3 (by decide) (fun h_1 => ?_) (fun h_1 => ?_)
  · refine m_ldc C (v := 790386105) (C.1.2.2.2.2 _ (by decide +kernel)) dL_cell_12 ?_
    refine m_iload_n C dL_cell_14 rfl 1 rfl ?_
    refine m_iconst (v := 3) C dL_cell_15 (by decide) ?_
    refine m_iadd C dL_cell_16 ?_
    refine m_imul C dL_cell_17 ?_
    exact m_iret C (Nat.le_refl _) (Nat.le_refl _) dL_cell_18 rfl
  · refine m_aload_n C dL_cell_6 rfl 0 rfl ?_
    refine m_iload_n C dL_cell_7 rfl 1 rfl ?_
    have hjN : j < N := by
      rcases Nat.lt_or_ge j N with z | z
      · exact z
      · exact absurd (nI_le (a := N) (b := j) z hj) h_1
    refine m_sld C hE.1 hE.2.1 hE.2.2 (vp_in_nI hjN hN) dL_cell_8 ?_
    refine m_goto (tgt := 18) C dL_cell_9 (by decide) ?_
    exact m_iret C (Nat.le_refl _) (Nat.le_refl _) dL_cell_18 rfl
/-- a candidate's number -/
theorem mod_hit {x j : Nat} (hx : x < 40) (hj : j < 40) : ∃ i, i < 40 ∧ (x + i) % 40 = j := by
  rcases Nat.lt_or_ge j x with z | z
  · exact ⟨j + 40 - x, by omega, by rw [show x + (j + 40 - x) = j + 40 by omega]; omega⟩
  · exact ⟨j - x, by omega, by rw [show x + (j - x) = j by omega]; omega⟩
theorem no_next {P : Nat → Prop} {i : Nat} (h : ∀ i0, i0 < i → ¬ P i0) (h2 : ¬ P i) : ∀ i0, i0 < i + 1 → ¬ P i0 := fun i0 h0 => by
  rcases Nat.lt_or_ge i0 i with z | z
  · exact h i0 z
  · rw [show i0 = i by omega]
    exact h2
set_option maxHeartbeats 4000000 in
set_option maxRecDepth 100000 in
theorem lp_L_group {p : Program} {l : Launch} {e : Env} {s : State} {m : MethodId} {args : Array Value} {below : List Frame} {meth : Method} {c : Code} {D : mD} {A : Nat → Prop} {o qn qc qp : Nat} {nr cr : Nat → Option Nat} {g : Int32} {B : Nat → Nat → Int32} {K : Nat → List Nat} {M : Mm} {cm : Nat} {ar : rA} (hR : hW D o qn qc qp nr cr cm g B K M) (hw : wf ar cm) (hT : hTT ar cm nr B K) {x : Nat} (hx : x < 40) (C : mC p m meth c cL_group 5 s args wsL_group yL_group.cls D A yL_group (some .int)) (i8 : ∀ w ∈ wsX80, w ∈ wsL_group) : ∀ (N : Nat) (i : Nat), 40 - i = N → (i ≤ 40) → (∀ i0, i0 < i → ¬ (cP ar cm ((x + i0) % 40) ∧ ar 3 ((x + i0) % 40) = 0)) → mV p l e ({ frames := 0, cells := 0, slots := 0, locals := 0 } : Room) s m args below meth c 5 D A (MQ below (va_Qi (fun r M' => M' = M ∧ ∃ n, cP ar cm n ∧ ar 3 n = 0 ∧ r = nI n) (mB D A) A) args s 0 0 A) M 0 0 [(3, .int (nI i)), (2, .int 0), (1, .int (nI x)), (0, .ref o)] [] 4 := by
  intro N
  induction N using Nat.strongRecOn with
  | _ N ih =>
    intro i hN hi hno
    have hcm := hw.1
    refine m_iload_n C dL_group_4 rfl 0 rfl ?_
    refine m_bipush (v := 40) C dL_group_5 (by decide) ?_
    refine m_icmp_ge (tgt := 58) C dL_group_7 (by decide) (fun h_1 => ?_) (fun h_1 => ?_)
    · have hi40 : i = 40 := by
        have := (nI_leI (a := 40) (b := i) (by omega) (by omega)).mp h_1
        omega
      obtain ⟨i0, hi0, he0⟩ := mod_hit (x := x) (j := 0) hx (by decide)
      exact absurd (show cP ar cm ((x + i0) % 40) ∧ ar 3 ((x + i0) % 40) = 0 from by rw [he0]; exact ⟨wf_root hw, hw.2.1.2.1⟩) (hno i0 (by omega))
    · have hij : i < 40 := by
        rcases Nat.lt_or_ge i 40 with z | z
        · exact z
        · exact absurd (nI_le (a := 40) (b := i) z (by omega)) h_1
      refine m_iload_n C dL_group_10 rfl 2 rfl ?_
      refine m_iload_n C dL_group_11 rfl 0 rfl ?_
      refine m_iadd C dL_group_12 ?_
      refine m_i (y := nI (x + i)) (nI_add x i) ?_
      refine m_bipush (v := 40) C dL_group_13 (by decide) ?_
      refine m_irem C dL_group_15 (by decide) ?_
      rw [show (40 : Int32) = nI 40 from rfl, pk_rem (show x + i < 2 ^ 31 by omega) (by decide) (by decide)]
      have hn40 : (x + i) % 40 < 40 := Nat.mod_lt _ (by decide)
      generalize hn : (x + i) % 40 = n at hn40
      refine m_istore (L' := [(4, .int (nI n)), (3, .int (nI i)), (2, .int 0), (1, .int (nI x)), (0, .ref o)]) C dL_group_16 (by decide) rfl ?_
      refine m_iload C dL_group_18 0 rfl ?_
      refine m_aload_n C dL_group_20 rfl 4 rfl ?_
      refine m_get (ref := "PaintLayersLaw$Hand") C hR.1 rfl i8 2 (by decide) (by decide +kernel) (fun x h => h) (v := .int (nI cm)) rfl dL_group_21 ?_
      refine m_icmp_ge (tgt := 52) C dL_group_24 (by decide) (fun h_2 => ?_) (fun h_2 => ?_)
      · have hge : cm ≤ n := (nI_leI (by omega) (by omega)).mp h_2
        obtain ⟨x_3, ex_3⟩ : ∃ z : Int32, z = nI i + 1 := ⟨_, rfl⟩
        refine m_iinc (q := 1) (v := x_3) (L' := [(3, .int x_3), (4, .int (nI n)), (2, .int 0), (1, .int (nI x)), (0, .ref o)]) C dL_group_52 rfl (by rw [ex_3]; rfl) (by decide) rfl ?_
        refine m_goto (tgt := 4) C dL_group_55 (by decide) ?_
        rw [nI_1] at ex_3
        subst ex_3
        refine m_sub (L' := [(3, .int (nI (i + 1))), (2, .int 0), (1, .int (nI x)), (0, .ref o)]) [0, 2, 3, 4] rfl ?_
        exact ih (40 - (i + 1)) (by omega) (i + 1) rfl (by omega) (no_next hno (by rw [hn]; exact fun y => absurd y.1.1 (Nat.not_lt.mpr hge)))
      · have hlt : n < cm := by
          rcases Nat.lt_or_ge n cm with z | z
          · exact z
          · exact absurd (nI_le (a := cm) (b := n) z (by omega)) h_2
        refine m_aload_n C dL_group_27 rfl 4 rfl ?_
        refine m_get (ref := "PaintLayersLaw$Hand") C hR.1 rfl i8 0 (by decide) (by decide +kernel) (fun x h => h) (v := .ref qn) rfl dL_group_28 ?_
        refine m_iload C dL_group_31 0 rfl ?_
        refine m_aaldA C hR.2.1 (vp_in_nI hn40 (by decide)) dL_group_33 ?_
        rw [nI_clamp (show n < 2 ^ 31 by omega)]
        refine m_ifnull (tgt := 52) C dL_group_34 (by decide) (fun h_4 => ?_) (fun q_5 h_4 => ?_)
        · have hnp : ¬ cP ar cm n := fun y => by
            obtain ⟨a, ha⟩ := (hT.1 n hn40).mpr y
            rw [ha] at h_4
            cases h_4
          obtain ⟨x_6, ex_6⟩ : ∃ z : Int32, z = nI i + 1 := ⟨_, rfl⟩
          refine m_iinc (q := 1) (v := x_6) (L' := [(3, .int x_6), (4, .int (nI n)), (2, .int 0), (1, .int (nI x)), (0, .ref o)]) C dL_group_52 rfl (by rw [ex_6]; rfl) (by decide) rfl ?_
          refine m_goto (tgt := 4) C dL_group_55 (by decide) ?_
          rw [nI_1] at ex_6
          subst ex_6
          refine m_sub (L' := [(3, .int (nI (i + 1))), (2, .int 0), (1, .int (nI x)), (0, .ref o)]) [0, 2, 3, 4] rfl ?_
          exact ih (40 - (i + 1)) (by omega) (i + 1) rfl (by omega) (no_next hno (by rw [hn]; exact fun y => hnp y.1))
        · have hnp : cP ar cm n := (hT.1 n hn40).mp ⟨_, h_4⟩
          refine m_aload_n C dL_group_37 rfl 4 rfl ?_
          refine m_get (ref := "PaintLayersLaw$Hand") C hR.1 rfl i8 0 (by decide) (by decide +kernel) (fun x h => h) (v := .ref qn) rfl dL_group_38 ?_
          refine m_iload C dL_group_41 0 rfl ?_
          refine m_aaldA C hR.2.1 (vp_in_nI hn40 (by decide)) dL_group_43 ?_
          rw [nI_clamp (show n < 2 ^ 31 by omega), h_4]
          refine m_iconst (v := 0) C dL_group_44 (by decide) ?_
          refine m_iald C (hR.nrow hn40 h_4) (by unfold vp_in; decide) dL_group_45 ?_
          refine m_i (y := B n 0) (rfl) ?_
          refine m_i (y := ar 3 n) ((hT.2.1 n hnp).1) ?_
          refine m_if_ne (tgt := 52) C dL_group_46 (by decide) (fun h_7 => ?_) (fun h_7 => ?_)
          · obtain ⟨x_8, ex_8⟩ : ∃ z : Int32, z = nI i + 1 := ⟨_, rfl⟩
            refine m_iinc (q := 1) (v := x_8) (L' := [(3, .int x_8), (4, .int (nI n)), (2, .int 0), (1, .int (nI x)), (0, .ref o)]) C dL_group_52 rfl (by rw [ex_8]; rfl) (by decide) rfl ?_
            refine m_goto (tgt := 4) C dL_group_55 (by decide) ?_
            rw [nI_1] at ex_8
            subst ex_8
            refine m_sub (L' := [(3, .int (nI (i + 1))), (2, .int 0), (1, .int (nI x)), (0, .ref o)]) [0, 2, 3, 4] rfl ?_
            exact ih (40 - (i + 1)) (by omega) (i + 1) rfl (by omega) (no_next hno (by rw [hn]; exact fun y => h_7 y.2))
          · refine m_iload C dL_group_49 0 rfl ?_
            exact m_iret C (Nat.le_of_ble_eq_true rfl) (Nat.le_of_ble_eq_true rfl) dL_group_51 (⟨rfl, n, hnp, h_7, rfl⟩)
set_option maxHeartbeats 4000000 in
set_option maxRecDepth 100000 in
theorem c_L_group (D : mD) (A : Nat → Prop) (l : Launch) {o qn qc qp : Nat} {nr cr : Nat → Option Nat} {g : Int32} {B : Nat → Nat → Int32} {K : Nat → List Nat} {M : Mm} {cm : Nat} {ar : rA} (hR : hW D o qn qc qp nr cr cm g B K M) (hw : wf ar cm) (hT : hTT ar cm nr B K) {x : Nat} (hx : x < 40)  : mMi D A l yL_group wsL_group ({ frames := 0, cells := 0, slots := 0, locals := 0 } : Room) [.ref o, .int (nI x)] M (fun r M' => M' = M ∧ ∃ n, cP ar cm n ∧ ar 3 n = 0 ∧ r = nI n) 0 0 := by
  refine m_start (cc := cL_group) (maxL := 5) (ret := (some .int)) (by decide) rfl (Nat.le_of_ble_eq_true rfl) ?_
  intro p e s m args below meth c C
  have i8 : ∀ w ∈ wsX80, w ∈ wsL_group := by decide +kernel
  refine m_sub (L' := [(0, .ref o), (1, .int (nI x))]) [0, 1] rfl ?_
  refine m_iconst (v := 0) C dL_group_0 (by decide) ?_
  refine m_istore_n (L' := [(2, .int 0), (0, .ref o), (1, .int (nI x))]) C dL_group_1 rfl (by decide) rfl ?_
  refine m_iconst (v := 0) C dL_group_2 (by decide) ?_
  refine m_istore_n (L' := [(3, .int 0), (2, .int 0), (0, .ref o), (1, .int (nI x))]) C dL_group_3 rfl (by decide) rfl ?_
  refine m_sub (L' := [(3, .int (nI 0)), (2, .int 0), (1, .int (nI x)), (0, .ref o)]) [0, 1, 3, 2] rfl ?_
  exact lp_L_group hR hw hT hx C i8 _ 0 rfl (by decide) (fun i0 h => absurd h (Nat.not_lt_zero i0))
set_option maxHeartbeats 4000000 in
set_option maxRecDepth 100000 in
theorem lp_L_any {p : Program} {l : Launch} {e : Env} {s : State} {m : MethodId} {args : Array Value} {below : List Frame} {meth : Method} {c : Code} {D : mD} {A : Nat → Prop} {o qn qc qp : Nat} {nr cr : Nat → Option Nat} {g : Int32} {B : Nat → Nat → Int32} {K : Nat → List Nat} {M : Mm} {cm : Nat} {ar : rA} (hR : hW D o qn qc qp nr cr cm g B K M) (hw : wf ar cm) (hT : hTT ar cm nr B K) {x : Nat} (hx : x < 40) (C : mC p m meth c cL_any 4 s args wsL_any yL_any.cls D A yL_any (some .int)) (i8 : ∀ w ∈ wsX80, w ∈ wsL_any) : ∀ (N : Nat) (i : Nat), 40 - i = N → (i ≤ 40) → (∀ i0, i0 < i → ¬ cP ar cm ((x + i0) % 40)) → mV p l e ({ frames := 0, cells := 0, slots := 0, locals := 0 } : Room) s m args below meth c 4 D A (MQ below (va_Qi (fun r M' => M' = M ∧ ∃ n, cP ar cm n ∧ r = nI n) (mB D A) A) args s 0 0 A) M 0 0 [(2, .int (nI i)), (1, .int (nI x)), (0, .ref o)] [] 2 := by
  intro N
  induction N using Nat.strongRecOn with
  | _ N ih =>
    intro i hN hi hno
    have hcm := hw.1
    refine m_iload_n C dL_any_2 rfl 0 rfl ?_
    refine m_bipush (v := 40) C dL_any_3 (by decide) ?_
    refine m_icmp_ge (tgt := 40) C dL_any_5 (by decide) (fun h_1 => ?_) (fun h_1 => ?_)
    · have hi40 : i = 40 := by
        have := (nI_leI (a := 40) (b := i) (by omega) (by omega)).mp h_1
        omega
      obtain ⟨i0, hi0, he0⟩ := mod_hit (x := x) (j := 0) hx (by decide)
      exact absurd (show cP ar cm ((x + i0) % 40) from by rw [he0]; exact wf_root hw) (hno i0 (by omega))
    · have hij : i < 40 := by
        rcases Nat.lt_or_ge i 40 with z | z
        · exact z
        · exact absurd (nI_le (a := 40) (b := i) z (by omega)) h_1
      refine m_iload_n C dL_any_8 rfl 1 rfl ?_
      refine m_iload_n C dL_any_9 rfl 0 rfl ?_
      refine m_iadd C dL_any_10 ?_
      refine m_i (y := nI (x + i)) (nI_add x i) ?_
      refine m_bipush (v := 40) C dL_any_11 (by decide) ?_
      refine m_irem C dL_any_13 (by decide) ?_
      rw [show (40 : Int32) = nI 40 from rfl, pk_rem (show x + i < 2 ^ 31 by omega) (by decide) (by decide)]
      have hn40 : (x + i) % 40 < 40 := Nat.mod_lt _ (by decide)
      generalize hn : (x + i) % 40 = n at hn40
      refine m_istore_n (L' := [(3, .int (nI n)), (2, .int (nI i)), (1, .int (nI x)), (0, .ref o)]) C dL_any_14 rfl (by decide) rfl ?_
      refine m_iload_n C dL_any_15 rfl 0 rfl ?_
      refine m_aload_n C dL_any_16 rfl 3 rfl ?_
      refine m_get (ref := "PaintLayersLaw$Hand") C hR.1 rfl i8 2 (by decide) (by decide +kernel) (fun x h => h) (v := .int (nI cm)) rfl dL_any_17 ?_
      refine m_icmp_ge (tgt := 34) C dL_any_20 (by decide) (fun h_2 => ?_) (fun h_2 => ?_)
      · have hge : cm ≤ n := (nI_leI (by omega) (by omega)).mp h_2
        obtain ⟨x_3, ex_3⟩ : ∃ z : Int32, z = nI i + 1 := ⟨_, rfl⟩
        refine m_iinc (q := 1) (v := x_3) (L' := [(2, .int x_3), (3, .int (nI n)), (1, .int (nI x)), (0, .ref o)]) C dL_any_34 rfl (by rw [ex_3]; rfl) (by decide) rfl ?_
        refine m_goto (tgt := 2) C dL_any_37 (by decide) ?_
        rw [nI_1] at ex_3
        subst ex_3
        refine m_sub (L' := [(2, .int (nI (i + 1))), (1, .int (nI x)), (0, .ref o)]) [0, 2, 3] rfl ?_
        exact ih (40 - (i + 1)) (by omega) (i + 1) rfl (by omega) (no_next hno (by rw [hn]; exact fun y => absurd y.1 (Nat.not_lt.mpr hge)))
      · have hlt : n < cm := by
          rcases Nat.lt_or_ge n cm with z | z
          · exact z
          · exact absurd (nI_le (a := cm) (b := n) z (by omega)) h_2
        refine m_aload_n C dL_any_23 rfl 3 rfl ?_
        refine m_get (ref := "PaintLayersLaw$Hand") C hR.1 rfl i8 0 (by decide) (by decide +kernel) (fun x h => h) (v := .ref qn) rfl dL_any_24 ?_
        refine m_iload_n C dL_any_27 rfl 0 rfl ?_
        refine m_aaldA C hR.2.1 (vp_in_nI hn40 (by decide)) dL_any_28 ?_
        rw [nI_clamp (show n < 2 ^ 31 by omega)]
        refine m_ifnull (tgt := 34) C dL_any_29 (by decide) (fun h_4 => ?_) (fun q_5 h_4 => ?_)
        · have hnp : ¬ cP ar cm n := fun y => by
            obtain ⟨a, ha⟩ := (hT.1 n hn40).mpr y
            rw [ha] at h_4
            cases h_4
          obtain ⟨x_6, ex_6⟩ : ∃ z : Int32, z = nI i + 1 := ⟨_, rfl⟩
          refine m_iinc (q := 1) (v := x_6) (L' := [(2, .int x_6), (3, .int (nI n)), (1, .int (nI x)), (0, .ref o)]) C dL_any_34 rfl (by rw [ex_6]; rfl) (by decide) rfl ?_
          refine m_goto (tgt := 2) C dL_any_37 (by decide) ?_
          rw [nI_1] at ex_6
          subst ex_6
          refine m_sub (L' := [(2, .int (nI (i + 1))), (1, .int (nI x)), (0, .ref o)]) [0, 2, 3] rfl ?_
          exact ih (40 - (i + 1)) (by omega) (i + 1) rfl (by omega) (no_next hno (by rw [hn]; exact fun y => hnp y))
        · have hnp : cP ar cm n := (hT.1 n hn40).mp ⟨_, h_4⟩
          refine m_iload_n C dL_any_32 rfl 0 rfl ?_
          exact m_iret C (Nat.le_of_ble_eq_true rfl) (Nat.le_of_ble_eq_true rfl) dL_any_33 (⟨rfl, n, hnp, rfl⟩)
set_option maxHeartbeats 4000000 in
set_option maxRecDepth 100000 in
theorem c_L_any (D : mD) (A : Nat → Prop) (l : Launch) {o qn qc qp : Nat} {nr cr : Nat → Option Nat} {g : Int32} {B : Nat → Nat → Int32} {K : Nat → List Nat} {M : Mm} {cm : Nat} {ar : rA} (hR : hW D o qn qc qp nr cr cm g B K M) (hw : wf ar cm) (hT : hTT ar cm nr B K) {x : Nat} (hx : x < 40)  : mMi D A l yL_any wsL_any ({ frames := 0, cells := 0, slots := 0, locals := 0 } : Room) [.ref o, .int (nI x)] M (fun r M' => M' = M ∧ ∃ n, cP ar cm n ∧ r = nI n) 0 0 := by
  refine m_start (cc := cL_any) (maxL := 4) (ret := (some .int)) (by decide) rfl (Nat.le_of_ble_eq_true rfl) ?_
  intro p e s m args below meth c C
  have i8 : ∀ w ∈ wsX80, w ∈ wsL_any := by decide +kernel
  refine m_sub (L' := [(0, .ref o), (1, .int (nI x))]) [0, 1] rfl ?_
  refine m_iconst (v := 0) C dL_any_0 (by decide) ?_
  refine m_istore_n (L' := [(2, .int 0), (0, .ref o), (1, .int (nI x))]) C dL_any_1 rfl (by decide) rfl ?_
  refine m_sub (L' := [(2, .int (nI 0)), (1, .int (nI x)), (0, .ref o)]) [0, 2, 1] rfl ?_
  exact lp_L_any hR hw hT hx C i8 _ 0 rfl (by decide) (fun i0 h => absurd h (Nat.not_lt_zero i0))
