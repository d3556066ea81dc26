/-! ===== the class: adding calls, setClip ===== -/
set_option maxHeartbeats 4000000 in
set_option maxRecDepth 100000 in
theorem c_X7_addGroup (D : mD) (A : Nat → Prop) (l : Launch) (hst : l.stackTraces = false) {Z : Nat → Nat} {F : Mm} {cm : Nat} {g : Int32} {ar : rA} {M : Mm} (hI : cI D Z F cm g ar M) (hw : wf ar cm) (hb : BD ar cm) {v : Int32} : mXi D A l yX7_addGroup wsX7_addGroup ({ frames := 10, cells := 46, slots := 2500, locals := 860 } : Room) [.ref (Z 0), .int v] M (fun r M' => q_addk cm ar v 0 true = 0 ∧ r = nI cm ∧ ∃ (Z' : Nat → Nat) (F' : Mm), FX F F' ∧ Z' 0 = Z 0 ∧ cI D Z' F' (cm + 1) g (q_addS cm ar v 0 (q_sh []) 0) M') (fun E M' => cI D Z F cm g ar M' ∧ ((q_addk cm ar v 0 true = 1 ∧ E = xIO) ∨ (q_addk cm ar v 0 true = 2 ∧ E = xIS))) 46 2500 := by
  refine m_startX (cc := cX7_addGroup) (maxL := 3) (ret := (some .int)) (by decide) rfl (Nat.le_of_ble_eq_true rfl) ?_
  intro p e s m args below meth c C hE
  have i_X7 : ∀ w ∈ wsX70, w ∈ wsX7_addGroup := by decide +kernel
  have i_X3 : ∀ w ∈ wsX30, w ∈ wsX7_addGroup := by decide +kernel
  have iL : ∀ w ∈ wsJx4a65c0, w ∈ wsX7_addGroup := by decide +kernel
  refine m_sub (L' := [(0, .ref (Z 0)), (1, .int v)]) [0, 1] rfl ?_
  have hcm := hw.1.2
  have hI9 := hI
  obtain ⟨fi, nl, rw, hfv, hR⟩ := hI9
  refine m_aload_n C dX7_addGroup_0 rfl 0 rfl ?_
  refine m_iload_n C dX7_addGroup_1 rfl 1 rfl ?_
  refine m_callVXq (As := [.int v]) (st := []) C hR.me rfl (c_X7_find D A l hst hR hcm) (cwV 1 C.1.2.2.2.2 gX7_addGroup_X7_find rfl rfl rfl (by decide +kernel) ⟨Nat.le_of_ble_eq_true rfl, Nat.le_of_ble_eq_true rfl⟩) rfl rfl (Nat.le_of_ble_eq_true rfl) dX7_addGroup_2 ⟨Nat.le_of_ble_eq_true rfl, Nat.le_of_ble_eq_true rfl⟩ hE (fun E M9 z9 => ⟨by rw [z9.2.1]; exact hI, Or.inl (⟨by unfold q_addk; rw [if_pos z9.2.2], z9.1⟩)⟩) (Nat.le_of_ble_eq_true rfl) (Nat.le_of_ble_eq_true rfl) (fun r9 M9 hq9 => ?_)
  obtain ⟨e9, j, rfl, hj, rfl⟩ := hq9
  subst e9
  rename Mm => M
  have qj := q_node_t hcm hj
  have cj : jN (nI j) = j := nI_clamp (by have := hj.1; omega)
  refine m_astore_n (L' := [(2, .ref (Z (100 + j))), (0, .ref (Z 0)), (1, .int (nI j))]) C dX7_addGroup_5 rfl (by decide) rfl ?_
  refine m_aload_n C dX7_addGroup_6 rfl 1 rfl ?_
  refine m_aload_n C dX7_addGroup_7 rfl 0 rfl ?_
  refine m_callVXv (As := [.ref (Z (100 + j))]) (st := []) C hR.me rfl (c_X7_checkTakesMore D A l hst hR hcm hj) (cwV 1 C.1.2.2.2.2 gX7_addGroup_X7_checkTakesMore rfl rfl rfl (by decide +kernel) ⟨Nat.le_of_ble_eq_true rfl, Nat.le_of_ble_eq_true rfl⟩) rfl rfl (Nat.le_of_ble_eq_true rfl) dX7_addGroup_8 ⟨Nat.le_of_ble_eq_true rfl, Nat.le_of_ble_eq_true rfl⟩ hE (fun E M9 z9 => ⟨by rw [z9.2.1]; exact hI, Or.inr (⟨by unfold q_addk; rw [qj, if_neg (by decide), if_neg (by decide), if_pos (by rcases z9.2.2 with u | u; exact Or.inl (by rw [show (nI j).toNatClampNeg = j from cj]; exact u); exact Or.inr (by rw [u]; rfl))]; rfl, z9.1⟩)⟩) (Nat.le_of_ble_eq_true rfl) (Nat.le_of_ble_eq_true rfl) (fun M9 hq9 => ?_)
  obtain ⟨e9, h3, hc40⟩ := hq9
  subst e9
  rename Mm => M
  have hk0 : q_addk cm ar (nI j) 0 true = 0 := by
    unfold q_addk
    rw [qj, if_neg (by decide), if_neg (by decide), show (nI j).toNatClampNeg = j from cj]
    refine if_neg ?_
    rintro (u | u)
    · exact u h3
    · have := congrArg Int32.toNatClampNeg u
      rw [nI_clamp (show cm < 2 ^ 31 by omega)] at this
      have e40 : (40 : Int32).toNatClampNeg = 40 := rfl
      omega
  refine m_aload_n C dX7_addGroup_11 rfl 1 rfl ?_
  refine m_aload_n C dX7_addGroup_12 rfl 0 rfl ?_
  refine m_null C dX7_addGroup_13 ?_
  have n14 : ¬ 0 < q_new ar cm 0 (q_sh []) 0 14 (4 * cm + 2) := by
    show ¬ 0 < ar 14 (4 * cm + 2)
    rw [(hw.2.2.2.2.2 cm (Nat.le_refl _)).2.2.2.2.2.2 2 (by decide)]
    decide
  have n3 : q_new ar cm 0 (q_sh []) 0 3 cm = 0 := upd_s
  have hx9 : sFx Z (q_new ar cm 0 (q_sh []) 0) cm F := by
    unfold sFx
    rw [n3]
    exact ⟨fun z => absurd z (by decide), fun z => absurd z (by decide), fun z => absurd z (by decide), fun z => absurd z n14⟩
  refine m_callVi (As := [.ref (Z (100 + j)), .null]) (st := []) C hR.me rfl (c_X7_append_g D A l hw hc40 hR hj h3 hx9) (cwV 2 C.1.2.2.2.2 gX7_addGroup_X7_append rfl rfl rfl (by decide +kernel) ⟨Nat.le_of_ble_eq_true rfl, Nat.le_of_ble_eq_true rfl⟩) rfl rfl (Nat.le_of_ble_eq_true rfl) dX7_addGroup_14 ⟨Nat.le_of_ble_eq_true rfl, Nat.le_of_ble_eq_true rfl⟩ (fun r9 M9 hq9 => ?_)
  obtain ⟨hr9, Z2, hZ2, hI2⟩ := hq9
  exact m_iretX C (Nat.le_of_ble_eq_true rfl) (Nat.le_of_ble_eq_true rfl) dX7_addGroup_17 (⟨hk0, hr9, Z2, F, fun a x h => h, hZ2, hI2⟩)
set_option maxHeartbeats 4000000 in
set_option maxRecDepth 100000 in
theorem c_X7_addRectangle (D : mD) (A : Nat → Prop) (l : Launch) (hst : l.stackTraces = false) {Z : Nat → Nat} {F : Mm} {cm : Nat} {g : Int32} {ar : rA} {M : Mm} (hI : cI D Z F cm g ar M) (hw : wf ar cm) (hb : BD ar cm) {v a b w h : Int32} : mXi D A l yX7_addRectangle wsX7_addRectangle ({ frames := 10, cells := 52, slots := 2540, locals := 900 } : Room) [.ref (Z 0), .int v, .int a, .int b, .int w, .int h] M (fun r M' => q_addk cm ar v 1 (q_okR a b w h) = 0 ∧ r = nI cm ∧ ∃ (Z' : Nat → Nat) (F' : Mm), FX F F' ∧ Z' 0 = Z 0 ∧ cI D Z' F' (cm + 1) g (q_addS cm ar v 1 (q_sh [a, b, w, h]) 4) M') (fun E M' => cI D Z F cm g ar M' ∧ ((q_addk cm ar v 1 (q_okR a b w h) = 1 ∧ E = xIO) ∨ (q_addk cm ar v 1 (q_okR a b w h) = 2 ∧ E = xIA) ∨ (q_addk cm ar v 1 (q_okR a b w h) = 3 ∧ E = xIS))) 52 2540 := by
  refine m_startX (cc := cX7_addRectangle) (maxL := 7) (ret := (some .int)) (by decide) rfl (Nat.le_of_ble_eq_true rfl) ?_
  intro p e s m args below meth c C hE
  have i_X7 : ∀ w ∈ wsX70, w ∈ wsX7_addRectangle := by decide +kernel
  have i_X3 : ∀ w ∈ wsX30, w ∈ wsX7_addRectangle := by decide +kernel
  have iL : ∀ w ∈ wsJx4a65c0, w ∈ wsX7_addRectangle := by decide +kernel
  have i_X4 : ∀ w ∈ wsX40, w ∈ wsX7_addRectangle := by decide +kernel
  have i_X0 : ∀ w ∈ wsX00, w ∈ wsX7_addRectangle := by decide +kernel
  refine m_sub (L' := [(0, .ref (Z 0)), (1, .int v), (2, .int a), (3, .int b), (4, .int w), (5, .int h)]) [0, 1, 2, 3, 4, 5] rfl ?_
  have hcm := hw.1.2
  have hI9 := hI
  obtain ⟨fi, nl, rw, hfv, hR⟩ := hI9
  refine m_aload_n C dX7_addRectangle_0 rfl 0 rfl ?_
  refine m_iload_n C dX7_addRectangle_1 rfl 1 rfl ?_
  refine m_callVXq (As := [.int v]) (st := []) C hR.me rfl (c_X7_find D A l hst hR hcm) (cwV 1 C.1.2.2.2.2 gX7_addRectangle_X7_find rfl rfl rfl (by decide +kernel) ⟨Nat.le_of_ble_eq_true rfl, Nat.le_of_ble_eq_true rfl⟩) rfl rfl (Nat.le_of_ble_eq_true rfl) dX7_addRectangle_2 ⟨Nat.le_of_ble_eq_true rfl, Nat.le_of_ble_eq_true rfl⟩ hE (fun E M9 z9 => ⟨by rw [z9.2.1]; exact hI, Or.inl (⟨by unfold q_addk; rw [if_pos z9.2.2], z9.1⟩)⟩) (Nat.le_of_ble_eq_true rfl) (Nat.le_of_ble_eq_true rfl) (fun r9 M9 hq9 => ?_)
  obtain ⟨e9, j, rfl, hj, rfl⟩ := hq9
  subst e9
  rename Mm => M
  have qj := q_node_t hcm hj
  have cj : jN (nI j) = j := nI_clamp (by have := hj.1; omega)
  refine m_astore (L' := [(6, .ref (Z (100 + j))), (0, .ref (Z 0)), (1, .int (nI j)), (2, .int a), (3, .int b), (4, .int w), (5, .int h)]) C dX7_addRectangle_5 (by decide) rfl ?_
  refine m_iload_n C dX7_addRectangle_7 rfl 3 rfl ?_
  refine m_iload_n C dX7_addRectangle_8 rfl 4 rfl ?_
  refine m_callSXv (As := [.int a, .int b]) (st := []) C (c_X7_checkPoint D A l hst) (va_cwS 2 C.1.2.2.2.2 gX7_addRectangle_X7_checkPoint rfl rfl rfl (by decide +kernel) ⟨Nat.le_of_ble_eq_true rfl, Nat.le_of_ble_eq_true rfl⟩) rfl rfl (Nat.le_of_ble_eq_true rfl) dX7_addRectangle_9 ⟨Nat.le_of_ble_eq_true rfl, Nat.le_of_ble_eq_true rfl⟩ hE (fun E M9 z9 => ⟨by rw [z9.2.1]; exact hI, Or.inr (Or.inl (⟨by unfold q_addk; rw [qj, if_neg (by decide), show q_okR a b w h = false by unfold q_okR; have z8 := z9.2.2; rw [okP_far, Bool.not_eq_false', Bool.or_eq_true] at z8; rcases z8 with u | u <;> rw [u] <;> simp]; rfl, z9.1⟩))⟩) (Nat.le_of_ble_eq_true rfl) (Nat.le_of_ble_eq_true rfl) (fun M9 hq9 => ?_)
  obtain ⟨e9, ok1⟩ := hq9
  subst e9
  rename Mm => M
  refine m_iload C dX7_addRectangle_12 5 rfl ?_
  refine m_iconst (v := 1) C dX7_addRectangle_14 (by decide) ?_
  refine m_bipush (v := 100) C dX7_addRectangle_15 (by decide) ?_
  refine m_callSXv (As := [.int w, .int 1, .int 100]) (st := []) C (c_X7_checkRange D A l hst) (va_cwS 3 C.1.2.2.2.2 gX7_addRectangle_X7_checkRange rfl rfl rfl (by decide +kernel) ⟨Nat.le_of_ble_eq_true rfl, Nat.le_of_ble_eq_true rfl⟩) rfl rfl (Nat.le_of_ble_eq_true rfl) dX7_addRectangle_17 ⟨Nat.le_of_ble_eq_true rfl, Nat.le_of_ble_eq_true rfl⟩ hE (fun E M9 z9 => ⟨by rw [z9.2.1]; exact hI, Or.inr (Or.inl (⟨by unfold q_addk; rw [qj, if_neg (by decide), show q_okR a b w h = false by unfold q_okR; rw [← okR_in w, z9.2.2]; simp]; rfl, z9.1⟩))⟩) (Nat.le_of_ble_eq_true rfl) (Nat.le_of_ble_eq_true rfl) (fun M9 hq9 => ?_)
  obtain ⟨e9, ok2⟩ := hq9
  subst e9
  rename Mm => M
  refine m_iload C dX7_addRectangle_20 6 rfl ?_
  refine m_iconst (v := 1) C dX7_addRectangle_22 (by decide) ?_
  refine m_bipush (v := 100) C dX7_addRectangle_23 (by decide) ?_
  refine m_callSXv (As := [.int h, .int 1, .int 100]) (st := []) C (c_X7_checkRange D A l hst) (va_cwS 3 C.1.2.2.2.2 gX7_addRectangle_X7_checkRange rfl rfl rfl (by decide +kernel) ⟨Nat.le_of_ble_eq_true rfl, Nat.le_of_ble_eq_true rfl⟩) rfl rfl (Nat.le_of_ble_eq_true rfl) dX7_addRectangle_25 ⟨Nat.le_of_ble_eq_true rfl, Nat.le_of_ble_eq_true rfl⟩ hE (fun E M9 z9 => ⟨by rw [z9.2.1]; exact hI, Or.inr (Or.inl (⟨by unfold q_addk; rw [qj, if_neg (by decide), show q_okR a b w h = false by unfold q_okR; rw [← okR_in h, z9.2.2]; simp]; rfl, z9.1⟩))⟩) (Nat.le_of_ble_eq_true rfl) (Nat.le_of_ble_eq_true rfl) (fun M9 hq9 => ?_)
  obtain ⟨e9, ok3⟩ := hq9
  subst e9
  rename Mm => M
  have hok : q_okR a b w h = true := by
    rw [okP_far, Bool.not_eq_true', Bool.or_eq_false_iff] at ok1
    rw [okR_in] at ok2 ok3
    unfold q_okR
    rw [ok1.1, ok1.2, ok2, ok3]
    rfl
  refine m_aload_n C dX7_addRectangle_28 rfl 1 rfl ?_
  refine m_aload C dX7_addRectangle_29 0 rfl ?_
  refine m_callVXv (As := [.ref (Z (100 + j))]) (st := []) C hR.me rfl (c_X7_checkTakesMore D A l hst hR hcm hj) (cwV 1 C.1.2.2.2.2 gX7_addRectangle_X7_checkTakesMore rfl rfl rfl (by decide +kernel) ⟨Nat.le_of_ble_eq_true rfl, Nat.le_of_ble_eq_true rfl⟩) rfl rfl (Nat.le_of_ble_eq_true rfl) dX7_addRectangle_31 ⟨Nat.le_of_ble_eq_true rfl, Nat.le_of_ble_eq_true rfl⟩ hE (fun E M9 z9 => ⟨by rw [z9.2.1]; exact hI, Or.inr (Or.inr (⟨by unfold q_addk; rw [qj, if_neg (by decide), hok, if_neg (by decide), if_pos (by rcases z9.2.2 with u | u; exact Or.inl (by rw [show (nI j).toNatClampNeg = j from cj]; exact u); exact Or.inr (by rw [u]; rfl))]; rfl, z9.1⟩))⟩) (Nat.le_of_ble_eq_true rfl) (Nat.le_of_ble_eq_true rfl) (fun M9 hq9 => ?_)
  obtain ⟨e9, h3, hc40⟩ := hq9
  subst e9
  rename Mm => M
  have hk0 : q_addk cm ar (nI j) 1 (q_okR a b w h) = 0 := by
    unfold q_addk
    rw [qj, if_neg (by decide), hok, if_neg (by decide), show (nI j).toNatClampNeg = j from cj]
    refine if_neg ?_
    rintro (u | u)
    · exact u h3
    · have := congrArg Int32.toNatClampNeg u
      rw [nI_clamp (show cm < 2 ^ 31 by omega)] at this
      have e40 : (40 : Int32).toNatClampNeg = 40 := rfl
      omega
  obtain ⟨M0, eM0⟩ : ∃ z : Mm, z = M := ⟨_, rfl⟩
  have hX : mX [] M0 M := by rw [eM0]; exact mX.rf
  have hR0 : cS D Z F cm g ar fi nl (pre9 ar 0) rw M0 := by rw [eM0]; exact hR
  clear eM0
  refine m_aload_n C dX7_addRectangle_34 rfl 1 rfl ?_
  refine m_aload C dX7_addRectangle_35 0 rfl ?_
  refine m_new (ci := 7) (fs := [.int 0, .null]) C rfl i_X4 tyX4 tyX4_ok (by decide +kernel) (by decide +kernel) (by decide +kernel) (fun j hj => by match j, hj with | 0, _ => rfl | 1, _ => rfl | k + 2, h => omega) (Nat.le_of_ble_eq_true rfl) (Nat.le_of_ble_eq_true rfl) dX7_addRectangle_37 (fun q_1 hq_q_1 => ?_)
  have hq0_q_1 : M0 q_1 = none := hX.none hq_q_1 (by simp)
  have g_q_1 : (m_up M q_1 (.inr (7, [.int 0, .null]))) q_1 = some (.inr (7, [.int 0, .null])) := m_up_s
  have gX := hX.new (q := q_1) (e := .inr (7, [.int 0, .null]))
  revert g_q_1 gX
  generalize m_up M q_1 (.inr (7, [.int 0, .null])) = M
  intro h_q_1 hX
  refine m_dup C dX7_addRectangle_40 rfl ?_
  refine m_new (ci := 3) (fs := [.int 0, .int 0, .int 0, .int 0]) C rfl i_X0 tyX0 tyX0_ok (by decide +kernel) (by decide +kernel) (by decide +kernel) (fun j hj => by match j, hj with | 0, _ => rfl | 1, _ => rfl | 2, _ => rfl | 3, _ => rfl | k + 4, h => omega) (Nat.le_of_ble_eq_true rfl) (Nat.le_of_ble_eq_true rfl) dX7_addRectangle_41 (fun q_2 hq_q_2 => ?_)
  have hnn_q_2_q_1 : q_2 ≠ q_1 := fun z => by rw [z, h_q_1] at hq_q_2; cases hq_q_2
  have hq0_q_2 : M0 q_2 = none := hX.none hq_q_2 (by simp; exact fun z => by rw [z, h_q_1] at hq_q_2; cases hq_q_2)
  have g_q_1 : (m_up M q_2 (.inr (3, [.int 0, .int 0, .int 0, .int 0]))) q_1 = some (.inr (7, [.int 0, .null])) := (m_up_n (m_neN h_q_1 hq_q_2)).trans h_q_1
  have g_q_2 : (m_up M q_2 (.inr (3, [.int 0, .int 0, .int 0, .int 0]))) q_2 = some (.inr (3, [.int 0, .int 0, .int 0, .int 0])) := m_up_s
  have gX := hX.new (q := q_2) (e := .inr (3, [.int 0, .int 0, .int 0, .int 0]))
  revert g_q_1 g_q_2 gX
  generalize m_up M q_2 (.inr (3, [.int 0, .int 0, .int 0, .int 0])) = M
  intro h_q_1 h_q_2 hX
  have hne_q_2_q_1 : q_2 ≠ q_1 := hnn_q_2_q_1
  have hne_q_1_q_2 : q_1 ≠ q_2 := fun z => hnn_q_2_q_1 z.symm
  refine m_dup C dX7_addRectangle_44 rfl ?_
  refine m_iload_n C dX7_addRectangle_45 rfl 3 rfl ?_
  refine m_iload_n C dX7_addRectangle_46 rfl 4 rfl ?_
  refine m_iload C dX7_addRectangle_47 5 rfl ?_
  refine m_iload C dX7_addRectangle_49 6 rfl ?_
  refine m_callIv (ret1 := none) (As := [.int a, .int b, .int w, .int h]) (st := [.ref q_2, .ref q_1, .ref q_1, .ref (Z (100 + j)), .ref (Z 0)]) C (c_X0_init D A l h_q_2) ⟨callB_of 4 C.1.2.2.2.2 gX7_addRectangle_X0_init rfl rfl rfl (C.1.2.2.2.2 _ (by decide +kernel)) (C.1.2.2.2.2 _ (by decide +kernel)) (by decide +kernel) ⟨Nat.le_of_ble_eq_true rfl, Nat.le_of_ble_eq_true rfl⟩, rfl, C.1.2.2.2.2 _ (by decide +kernel)⟩ rfl rfl (Nat.le_of_ble_eq_true rfl) dX7_addRectangle_51 ⟨Nat.le_of_ble_eq_true rfl, Nat.le_of_ble_eq_true rfl⟩ (fun M9 hq9 => ?_)
  have g_q_1 : M9 q_1 = some (.inr (7, [.int 0, .null])) := (hq9.1 q_1 (by simp; exact hne_q_1_q_2)).trans h_q_1
  have g_q_2 : M9 q_2 = some (.inr (3, [.int a, .int b, .int (a + w), .int (b + h)])) := hq9.2
  have gX : mX [q_2, q_1] M0 M9 := hX.tr (hq9.1.sub (by simp))
  clear hX hq9 h_q_1 h_q_2
  revert g_q_1 g_q_2 gX
  generalize M9 = M
  intro h_q_1 h_q_2 hX
  refine m_callIv (ret1 := none) (As := [.ref q_2]) (st := [.ref q_1, .ref (Z (100 + j)), .ref (Z 0)]) C (c_X4_init D A l h_q_1) ⟨callB_of 1 C.1.2.2.2.2 gX7_addRectangle_X4_init rfl rfl rfl (C.1.2.2.2.2 _ (by decide +kernel)) (C.1.2.2.2.2 _ (by decide +kernel)) (by decide +kernel) ⟨Nat.le_of_ble_eq_true rfl, Nat.le_of_ble_eq_true rfl⟩, rfl, C.1.2.2.2.2 _ (by decide +kernel)⟩ rfl rfl (Nat.le_of_ble_eq_true rfl) dX7_addRectangle_54 ⟨Nat.le_of_ble_eq_true rfl, Nat.le_of_ble_eq_true rfl⟩ (fun M9 hq9 => ?_)
  have g_q_2 : M9 q_2 = some (.inr (3, [.int a, .int b, .int (a + w), .int (b + h)])) := (hq9.1 q_2 (by simp; exact hne_q_2_q_1)).trans h_q_2
  have g_q_1 : M9 q_1 = some (.inr (7, [.int 1, .ref q_2])) := hq9.2
  have gX : mX [q_2, q_1] M0 M9 := hX.tr (hq9.1.sub (by simp))
  clear hX hq9 h_q_1 h_q_2
  revert g_q_2 g_q_1 gX
  generalize M9 = M
  intro h_q_2 h_q_1 hX
  have hj1 := hj.1
  have hmm := hm_of hX (by intro a ha; simp at ha; rcases ha with rfl | rfl <;> assumption)
  obtain ⟨F', eF⟩ : ∃ z : Mm, z = (m_up (m_up F q_1 (.inr (7, [.int 1, .ref q_2]))) q_2 (.inr (3, [.int a, .int b, .int (a + w), .int (b + h)]))) := ⟨_, rfl⟩
  have hF1 : ∀ (a : Nat) (x : va_E), F' a = some x → F a = some x ∨ (M0 a = none ∧ M a = some x) := by
    intro a x hx
    rw [eF] at hx
    by_cases z_q_2 : a = q_2
    · rw [z_q_2, m_up_s] at hx; rw [z_q_2]; exact Or.inr ⟨hq0_q_2, by rw [h_q_2]; exact hx⟩
    rw [m_up_n z_q_2] at hx
    by_cases z_q_1 : a = q_1
    · rw [z_q_1, m_up_s] at hx; rw [z_q_1]; exact Or.inr ⟨hq0_q_1, by rw [h_q_1]; exact hx⟩
    rw [m_up_n z_q_1] at hx
    exact Or.inl hx
  have hF2 : FX F F' := by
    intro a x hx
    have h9 := hR0.1.fr hx
    rw [eF, m_up_n (m_neN h9 hq0_q_2), m_up_n (m_neN h9 hq0_q_1)]
    exact hx
  obtain ⟨Z', eZ⟩ : ∃ z : Nat → Nat, z = (upA (upA Z (400 + cm) q_1) (500 + cm) q_2) := ⟨_, rfl⟩
  have zk : ∀ k, k ≠ 400 + cm → k ≠ 500 + cm → k ≠ 600 + cm → k ≠ 700 + cm → k ≠ 800 + cm → Z' k = Z k := fun k h4 h5 h6 h7 h8 => by rw [eZ, upA_n h5, upA_n h4]
  have z400 : Z' (400 + cm) = q_1 := by rw [eZ, upA_n (by omega), upA_s]
  have z500 : Z' (500 + cm) = q_2 := by rw [eZ, upA_s]
  clear eZ
  have f_q_1 : F' q_1 = some (.inr (7, [.int 1, .ref q_2])) := by rw [eF, m_up_n hne_q_1_q_2, m_up_s]
  have f_q_2 : F' q_2 = some (.inr (3, [.int a, .int b, .int (a + w), .int (b + h)])) := by rw [eF, m_up_s]
  clear eF
  have hR9 := cS.ext hw hc40 hR0 hmm hF1 hF2 zk
  have z0 : Z' 0 = Z 0 := zk _ (by omega) (by omega) (by omega) (by omega) (by omega)
  have zj : Z' (100 + j) = Z (100 + j) := zk _ (by omega) (by omega) (by omega) (by omega) (by omega)
  obtain ⟨arn, earn⟩ : ∃ z : rA, z = q_new ar cm 1 (q_sh [a, b, w, h]) 4 := ⟨_, rfl⟩
  have n3 : arn 3 cm = 1 := by rw [earn]; exact upd_s
  have n7_0 : arn 7 (6 * cm) = a := by
    rw [earn]
    show va_cpy (q_sh [a, b, w, h]) (ar 7) 0 (6 * cm) 4 (6 * cm) = a
    rw [pk_cpy_in (by omega) (by omega), show 0 + (6 * cm - 6 * cm) = 0 by omega]
    rfl
  have n7_1 : arn 7 (6 * cm + 1) = b := by
    rw [earn]
    show va_cpy (q_sh [a, b, w, h]) (ar 7) 0 (6 * cm) 4 (6 * cm + 1) = b
    rw [pk_cpy_in (by omega) (by omega), show 0 + (6 * cm + 1 - 6 * cm) = 1 by omega]
    rfl
  have n7_2 : arn 7 (6 * cm + 2) = w := by
    rw [earn]
    show va_cpy (q_sh [a, b, w, h]) (ar 7) 0 (6 * cm) 4 (6 * cm + 2) = w
    rw [pk_cpy_in (by omega) (by omega), show 0 + (6 * cm + 2 - 6 * cm) = 2 by omega]
    rfl
  have n7_3 : arn 7 (6 * cm + 3) = h := by
    rw [earn]
    show va_cpy (q_sh [a, b, w, h]) (ar 7) 0 (6 * cm) 4 (6 * cm + 3) = h
    rw [pk_cpy_in (by omega) (by omega), show 0 + (6 * cm + 3 - 6 * cm) = 3 by omega]
    rfl
  have n14 : ¬ 0 < arn 14 (4 * cm + 2) := by
    rw [earn]
    show ¬ 0 < ar 14 (4 * cm + 2)
    rw [(hw.2.2.2.2.2 cm (Nat.le_refl _)).2.2.2.2.2.2 2 (by decide)]
    decide
  have hx9 : sFx Z' arn cm F' := by
    unfold sFx
    rw [n3, z400, z500, n7_0, n7_1, n7_2, n7_3]
    exact ⟨fun _ => ⟨f_q_1, f_q_2⟩, fun z => absurd z (by decide), fun z => absurd z (by decide), fun z => absurd z n14⟩
  rw [earn] at hx9
  have hap := c_X7_append_s D A l hw hc40 hR9 hj h3 (so := 1) (by decide) hx9
  rw [z0, zj, z400] at hap
  have hme9 := hR9.me
  rw [z0] at hme9
  refine m_callVi (As := [.ref (Z (100 + j)), .ref q_1]) (st := []) C hme9 rfl hap (cwV 2 C.1.2.2.2.2 gX7_addRectangle_X7_append rfl rfl rfl (by decide +kernel) ⟨Nat.le_of_ble_eq_true rfl, Nat.le_of_ble_eq_true rfl⟩) rfl rfl (Nat.le_of_ble_eq_true rfl) dX7_addRectangle_57 ⟨Nat.le_of_ble_eq_true rfl, Nat.le_of_ble_eq_true rfl⟩ (fun r9 M9 hq9 => ?_)
  obtain ⟨hr9, Z2, hZ2, hI2⟩ := hq9
  exact m_iretX C (Nat.le_of_ble_eq_true rfl) (Nat.le_of_ble_eq_true rfl) dX7_addRectangle_60 (⟨hk0, hr9, Z2, F', hF2, hZ2, hI2⟩)
set_option maxHeartbeats 4000000 in
set_option maxRecDepth 100000 in
theorem c_X7_addDisc (D : mD) (A : Nat → Prop) (l : Launch) (hst : l.stackTraces = false) {Z : Nat → Nat} {F : Mm} {cm : Nat} {g : Int32} {ar : rA} {M : Mm} (hI : cI D Z F cm g ar M) (hw : wf ar cm) (hb : BD ar cm) {v a b w : Int32} : mXi D A l yX7_addDisc wsX7_addDisc ({ frames := 10, cells := 52, slots := 2540, locals := 900 } : Room) [.ref (Z 0), .int v, .int a, .int b, .int w] M (fun r M' => q_addk cm ar v 2 (q_okD a b w) = 0 ∧ r = nI cm ∧ ∃ (Z' : Nat → Nat) (F' : Mm), FX F F' ∧ Z' 0 = Z 0 ∧ cI D Z' F' (cm + 1) g (q_addS cm ar v 2 (q_sh [a, b, w]) 3) M') (fun E M' => cI D Z F cm g ar M' ∧ ((q_addk cm ar v 2 (q_okD a b w) = 1 ∧ E = xIO) ∨ (q_addk cm ar v 2 (q_okD a b w) = 2 ∧ E = xIA) ∨ (q_addk cm ar v 2 (q_okD a b w) = 3 ∧ E = xIS))) 52 2540 := by
  refine m_startX (cc := cX7_addDisc) (maxL := 6) (ret := (some .int)) (by decide) rfl (Nat.le_of_ble_eq_true rfl) ?_
  intro p e s m args below meth c C hE
  have i_X7 : ∀ w ∈ wsX70, w ∈ wsX7_addDisc := by decide +kernel
  have i_X3 : ∀ w ∈ wsX30, w ∈ wsX7_addDisc := by decide +kernel
  have iL : ∀ w ∈ wsJx4a65c0, w ∈ wsX7_addDisc := by decide +kernel
  have i_X2 : ∀ w ∈ wsX20, w ∈ wsX7_addDisc := by decide +kernel
  refine m_sub (L' := [(0, .ref (Z 0)), (1, .int v), (2, .int a), (3, .int b), (4, .int w)]) [0, 1, 2, 3, 4] rfl ?_
  have hcm := hw.1.2
  have hI9 := hI
  obtain ⟨fi, nl, rw, hfv, hR⟩ := hI9
  refine m_aload_n C dX7_addDisc_0 rfl 0 rfl ?_
  refine m_iload_n C dX7_addDisc_1 rfl 1 rfl ?_
  refine m_callVXq (As := [.int v]) (st := []) C hR.me rfl (c_X7_find D A l hst hR hcm) (cwV 1 C.1.2.2.2.2 gX7_addDisc_X7_find rfl rfl rfl (by decide +kernel) ⟨Nat.le_of_ble_eq_true rfl, Nat.le_of_ble_eq_true rfl⟩) rfl rfl (Nat.le_of_ble_eq_true rfl) dX7_addDisc_2 ⟨Nat.le_of_ble_eq_true rfl, Nat.le_of_ble_eq_true rfl⟩ hE (fun E M9 z9 => ⟨by rw [z9.2.1]; exact hI, Or.inl (⟨by unfold q_addk; rw [if_pos z9.2.2], z9.1⟩)⟩) (Nat.le_of_ble_eq_true rfl) (Nat.le_of_ble_eq_true rfl) (fun r9 M9 hq9 => ?_)
  obtain ⟨e9, j, rfl, hj, rfl⟩ := hq9
  subst e9
  rename Mm => M
  have qj := q_node_t hcm hj
  have cj : jN (nI j) = j := nI_clamp (by have := hj.1; omega)
  refine m_astore (L' := [(5, .ref (Z (100 + j))), (0, .ref (Z 0)), (1, .int (nI j)), (2, .int a), (3, .int b), (4, .int w)]) C dX7_addDisc_5 (by decide) rfl ?_
  refine m_iload_n C dX7_addDisc_7 rfl 3 rfl ?_
  refine m_iload_n C dX7_addDisc_8 rfl 4 rfl ?_
  refine m_callSXv (As := [.int a, .int b]) (st := []) C (c_X7_checkPoint D A l hst) (va_cwS 2 C.1.2.2.2.2 gX7_addDisc_X7_checkPoint rfl rfl rfl (by decide +kernel) ⟨Nat.le_of_ble_eq_true rfl, Nat.le_of_ble_eq_true rfl⟩) rfl rfl (Nat.le_of_ble_eq_true rfl) dX7_addDisc_9 ⟨Nat.le_of_ble_eq_true rfl, Nat.le_of_ble_eq_true rfl⟩ hE (fun E M9 z9 => ⟨by rw [z9.2.1]; exact hI, Or.inr (Or.inl (⟨by unfold q_addk; rw [qj, if_neg (by decide), show q_okD a b w = false by unfold q_okD; have z8 := z9.2.2; rw [okP_far, Bool.not_eq_false', Bool.or_eq_true] at z8; rcases z8 with u | u <;> rw [u] <;> simp]; rfl, z9.1⟩))⟩) (Nat.le_of_ble_eq_true rfl) (Nat.le_of_ble_eq_true rfl) (fun M9 hq9 => ?_)
  obtain ⟨e9, ok1⟩ := hq9
  subst e9
  rename Mm => M
  refine m_iload C dX7_addDisc_12 5 rfl ?_
  refine m_iconst (v := 1) C dX7_addDisc_14 (by decide) ?_
  refine m_bipush (v := 60) C dX7_addDisc_15 (by decide) ?_
  refine m_callSXv (As := [.int w, .int 1, .int 60]) (st := []) C (c_X7_checkRange D A l hst) (va_cwS 3 C.1.2.2.2.2 gX7_addDisc_X7_checkRange rfl rfl rfl (by decide +kernel) ⟨Nat.le_of_ble_eq_true rfl, Nat.le_of_ble_eq_true rfl⟩) rfl rfl (Nat.le_of_ble_eq_true rfl) dX7_addDisc_17 ⟨Nat.le_of_ble_eq_true rfl, Nat.le_of_ble_eq_true rfl⟩ hE (fun E M9 z9 => ⟨by rw [z9.2.1]; exact hI, Or.inr (Or.inl (⟨by unfold q_addk; rw [qj, if_neg (by decide), show q_okD a b w = false by unfold q_okD; rw [← okR_in w, z9.2.2]; simp]; rfl, z9.1⟩))⟩) (Nat.le_of_ble_eq_true rfl) (Nat.le_of_ble_eq_true rfl) (fun M9 hq9 => ?_)
  obtain ⟨e9, ok2⟩ := hq9
  subst e9
  rename Mm => M
  have hok : q_okD a b w = true := by
    rw [okP_far, Bool.not_eq_true', Bool.or_eq_false_iff] at ok1
    rw [okR_in] at ok2
    unfold q_okD
    rw [ok1.1, ok1.2, ok2]
    rfl
  refine m_aload_n C dX7_addDisc_20 rfl 1 rfl ?_
  refine m_aload C dX7_addDisc_21 0 rfl ?_
  refine m_callVXv (As := [.ref (Z (100 + j))]) (st := []) C hR.me rfl (c_X7_checkTakesMore D A l hst hR hcm hj) (cwV 1 C.1.2.2.2.2 gX7_addDisc_X7_checkTakesMore rfl rfl rfl (by decide +kernel) ⟨Nat.le_of_ble_eq_true rfl, Nat.le_of_ble_eq_true rfl⟩) rfl rfl (Nat.le_of_ble_eq_true rfl) dX7_addDisc_23 ⟨Nat.le_of_ble_eq_true rfl, Nat.le_of_ble_eq_true rfl⟩ hE (fun E M9 z9 => ⟨by rw [z9.2.1]; exact hI, Or.inr (Or.inr (⟨by unfold q_addk; rw [qj, if_neg (by decide), hok, if_neg (by decide), if_pos (by rcases z9.2.2 with u | u; exact Or.inl (by rw [show (nI j).toNatClampNeg = j from cj]; exact u); exact Or.inr (by rw [u]; rfl))]; rfl, z9.1⟩))⟩) (Nat.le_of_ble_eq_true rfl) (Nat.le_of_ble_eq_true rfl) (fun M9 hq9 => ?_)
  obtain ⟨e9, h3, hc40⟩ := hq9
  subst e9
  rename Mm => M
  have hk0 : q_addk cm ar (nI j) 2 (q_okD a b w) = 0 := by
    unfold q_addk
    rw [qj, if_neg (by decide), hok, if_neg (by decide), show (nI j).toNatClampNeg = j from cj]
    refine if_neg ?_
    rintro (u | u)
    · exact u h3
    · have := congrArg Int32.toNatClampNeg u
      rw [nI_clamp (show cm < 2 ^ 31 by omega)] at this
      have e40 : (40 : Int32).toNatClampNeg = 40 := rfl
      omega
  obtain ⟨M0, eM0⟩ : ∃ z : Mm, z = M := ⟨_, rfl⟩
  have hX : mX [] M0 M := by rw [eM0]; exact mX.rf
  have hR0 : cS D Z F cm g ar fi nl (pre9 ar 0) rw M0 := by rw [eM0]; exact hR
  clear eM0
  refine m_aload_n C dX7_addDisc_26 rfl 1 rfl ?_
  refine m_aload C dX7_addDisc_27 0 rfl ?_
  refine m_new (ci := 5) (fs := [.int 0, .null, .int 0, .int 0, .int 0]) C rfl i_X2 tyX2 tyX2_ok (by decide +kernel) (by decide +kernel) (by decide +kernel) (fun j hj => by match j, hj with | 0, _ => rfl | 1, _ => rfl | 2, _ => rfl | 3, _ => rfl | 4, _ => rfl | k + 5, h => omega) (Nat.le_of_ble_eq_true rfl) (Nat.le_of_ble_eq_true rfl) dX7_addDisc_29 (fun q_1 hq_q_1 => ?_)
  have hq0_q_1 : M0 q_1 = none := hX.none hq_q_1 (by simp)
  have g_q_1 : (m_up M q_1 (.inr (5, [.int 0, .null, .int 0, .int 0, .int 0]))) q_1 = some (.inr (5, [.int 0, .null, .int 0, .int 0, .int 0])) := m_up_s
  have gX := hX.new (q := q_1) (e := .inr (5, [.int 0, .null, .int 0, .int 0, .int 0]))
  revert g_q_1 gX
  generalize m_up M q_1 (.inr (5, [.int 0, .null, .int 0, .int 0, .int 0])) = M
  intro h_q_1 hX
  refine m_dup C dX7_addDisc_32 rfl ?_
  refine m_iload_n C dX7_addDisc_33 rfl 3 rfl ?_
  refine m_iload_n C dX7_addDisc_34 rfl 4 rfl ?_
  refine m_iload C dX7_addDisc_35 5 rfl ?_
  refine m_callIv (ret1 := none) (As := [.int a, .int b, .int w]) (st := [.ref q_1, .ref (Z (100 + j)), .ref (Z 0)]) C (c_X2_init D A l h_q_1) ⟨callB_of 3 C.1.2.2.2.2 gX7_addDisc_X2_init rfl rfl rfl (C.1.2.2.2.2 _ (by decide +kernel)) (C.1.2.2.2.2 _ (by decide +kernel)) (by decide +kernel) ⟨Nat.le_of_ble_eq_true rfl, Nat.le_of_ble_eq_true rfl⟩, rfl, C.1.2.2.2.2 _ (by decide +kernel)⟩ rfl rfl (Nat.le_of_ble_eq_true rfl) dX7_addDisc_37 ⟨Nat.le_of_ble_eq_true rfl, Nat.le_of_ble_eq_true rfl⟩ (fun M9 hq9 => ?_)
  obtain ⟨qb, hqb, hX9, h_q_19, rt9, bt9, h_qb9, hrt, hbt⟩ := hq9
  have hnb : qb ≠ q_1 := fun z => by rw [z, h_q_1] at hqb; cases hqb
  have hne_qb_q_1 : qb ≠ q_1 := hnb
  have hne_q_1_qb : q_1 ≠ qb := fun z => hnb z.symm
  have hq0_qb : M0 qb = none := hX.none hqb (by simp; exact hnb)
  have gX : mX [qb, q_1] M0 M9 := (hX.sub (by simp)).tr hX9
  clear hX h_q_1 hX9 hqb
  revert h_q_19 h_qb9 gX
  generalize M9 = M
  intro h_q_1 h_qb hX
  have hj1 := hj.1
  have hmm := hm_of hX (by intro a ha; simp at ha; rcases ha with rfl | rfl <;> assumption)
  obtain ⟨F', eF⟩ : ∃ z : Mm, z = (m_up (m_up F q_1 (.inr (5, [.int 2, .ref qb, .int a, .int b, .int w]))) qb (.inr (3, [.int (a - w), .int (b - w), .int rt9, .int bt9]))) := ⟨_, rfl⟩
  have hF1 : ∀ (a : Nat) (x : va_E), F' a = some x → F a = some x ∨ (M0 a = none ∧ M a = some x) := by
    intro a x hx
    rw [eF] at hx
    by_cases z_qb : a = qb
    · rw [z_qb, m_up_s] at hx; rw [z_qb]; exact Or.inr ⟨hq0_qb, by rw [h_qb]; exact hx⟩
    rw [m_up_n z_qb] at hx
    by_cases z_q_1 : a = q_1
    · rw [z_q_1, m_up_s] at hx; rw [z_q_1]; exact Or.inr ⟨hq0_q_1, by rw [h_q_1]; exact hx⟩
    rw [m_up_n z_q_1] at hx
    exact Or.inl hx
  have hF2 : FX F F' := by
    intro a x hx
    have h9 := hR0.1.fr hx
    rw [eF, m_up_n (m_neN h9 hq0_qb), m_up_n (m_neN h9 hq0_q_1)]
    exact hx
  obtain ⟨Z', eZ⟩ : ∃ z : Nat → Nat, z = (upA (upA Z (400 + cm) q_1) (500 + cm) qb) := ⟨_, rfl⟩
  have zk : ∀ k, k ≠ 400 + cm → k ≠ 500 + cm → k ≠ 600 + cm → k ≠ 700 + cm → k ≠ 800 + cm → Z' k = Z k := fun k h4 h5 h6 h7 h8 => by rw [eZ, upA_n h5, upA_n h4]
  have z400 : Z' (400 + cm) = q_1 := by rw [eZ, upA_n (by omega), upA_s]
  have z500 : Z' (500 + cm) = qb := by rw [eZ, upA_s]
  clear eZ
  have f_q_1 : F' q_1 = some (.inr (5, [.int 2, .ref qb, .int a, .int b, .int w])) := by rw [eF, m_up_n hne_q_1_qb, m_up_s]
  have f_qb : F' qb = some (.inr (3, [.int (a - w), .int (b - w), .int rt9, .int bt9])) := by rw [eF, m_up_s]
  clear eF
  have hR9 := cS.ext hw hc40 hR0 hmm hF1 hF2 zk
  have z0 : Z' 0 = Z 0 := zk _ (by omega) (by omega) (by omega) (by omega) (by omega)
  have zj : Z' (100 + j) = Z (100 + j) := zk _ (by omega) (by omega) (by omega) (by omega) (by omega)
  obtain ⟨arn, earn⟩ : ∃ z : rA, z = q_new ar cm 2 (q_sh [a, b, w]) 3 := ⟨_, rfl⟩
  have n3 : arn 3 cm = 2 := by rw [earn]; exact upd_s
  have n7_0 : arn 7 (6 * cm) = a := by
    rw [earn]
    show va_cpy (q_sh [a, b, w]) (ar 7) 0 (6 * cm) 3 (6 * cm) = a
    rw [pk_cpy_in (by omega) (by omega), show 0 + (6 * cm - 6 * cm) = 0 by omega]
    rfl
  have n7_1 : arn 7 (6 * cm + 1) = b := by
    rw [earn]
    show va_cpy (q_sh [a, b, w]) (ar 7) 0 (6 * cm) 3 (6 * cm + 1) = b
    rw [pk_cpy_in (by omega) (by omega), show 0 + (6 * cm + 1 - 6 * cm) = 1 by omega]
    rfl
  have n7_2 : arn 7 (6 * cm + 2) = w := by
    rw [earn]
    show va_cpy (q_sh [a, b, w]) (ar 7) 0 (6 * cm) 3 (6 * cm + 2) = w
    rw [pk_cpy_in (by omega) (by omega), show 0 + (6 * cm + 2 - 6 * cm) = 2 by omega]
    rfl
  have n14 : ¬ 0 < arn 14 (4 * cm + 2) := by
    rw [earn]
    show ¬ 0 < ar 14 (4 * cm + 2)
    rw [(hw.2.2.2.2.2 cm (Nat.le_refl _)).2.2.2.2.2.2 2 (by decide)]
    decide
  have hx9 : sFx Z' arn cm F' := by
    unfold sFx
    rw [n3, z400, z500, n7_0, n7_1, n7_2]
    exact ⟨fun z => absurd z (by decide), fun _ => ⟨f_q_1, _, _, _, _, f_qb, rfl, rfl, hrt, hbt⟩, fun z => absurd z (by decide), fun z => absurd z n14⟩
  rw [earn] at hx9
  have hap := c_X7_append_s D A l hw hc40 hR9 hj h3 (so := 2) (by decide) hx9
  rw [z0, zj, z400] at hap
  have hme9 := hR9.me
  rw [z0] at hme9
  refine m_callVi (As := [.ref (Z (100 + j)), .ref q_1]) (st := []) C hme9 rfl hap (cwV 2 C.1.2.2.2.2 gX7_addDisc_X7_append rfl rfl rfl (by decide +kernel) ⟨Nat.le_of_ble_eq_true rfl, Nat.le_of_ble_eq_true rfl⟩) rfl rfl (Nat.le_of_ble_eq_true rfl) dX7_addDisc_40 ⟨Nat.le_of_ble_eq_true rfl, Nat.le_of_ble_eq_true rfl⟩ (fun r9 M9 hq9 => ?_)
  obtain ⟨hr9, Z2, hZ2, hI2⟩ := hq9
  exact m_iretX C (Nat.le_of_ble_eq_true rfl) (Nat.le_of_ble_eq_true rfl) dX7_addDisc_43 (⟨hk0, hr9, Z2, F', hF2, hZ2, hI2⟩)
theorem mn_i {a b : Int32} : (if b < a then b else a).toInt = min a.toInt b.toInt := by
  by_cases h : b < a
  · rw [if_pos h]
    rw [Int32.lt_iff_toInt_lt] at h
    omega
  · rw [if_neg h]
    rw [Int32.lt_iff_toInt_lt] at h
    omega
theorem mx_i {a b : Int32} : (if a < b then b else a).toInt = max a.toInt b.toInt := by
  by_cases h : a < b
  · rw [if_pos h]
    rw [Int32.lt_iff_toInt_lt] at h
    omega
  · rw [if_neg h]
    rw [Int32.lt_iff_toInt_lt] at h
    omega
set_option maxHeartbeats 4000000 in
set_option maxRecDepth 100000 in
theorem c_X7_addTriangle (D : mD) (A : Nat → Prop) (l : Launch) (hst : l.stackTraces = false) {Z : Nat → Nat} {F : Mm} {cm : Nat} {g : Int32} {ar : rA} {M : Mm} (hI : cI D Z F cm g ar M) (hw : wf ar cm) (hb : BD ar cm) {v a b a2 b2 a3 b3 : Int32} : mXi D A l yX7_addTriangle wsX7_addTriangle ({ frames := 10, cells := 58, slots := 2560, locals := 900 } : Room) [.ref (Z 0), .int v, .int a, .int b, .int a2, .int b2, .int a3, .int b3] M (fun r M' => q_addk cm ar v 3 (q_okT a b a2 b2 a3 b3) = 0 ∧ r = nI cm ∧ ∃ (Z' : Nat → Nat) (F' : Mm), FX F F' ∧ Z' 0 = Z 0 ∧ cI D Z' F' (cm + 1) g (q_addS cm ar v 3 (q_sh [a, b, a2, b2, a3, b3]) 6) M') (fun E M' => cI D Z F cm g ar M' ∧ ((q_addk cm ar v 3 (q_okT a b a2 b2 a3 b3) = 1 ∧ E = xIO) ∨ (q_addk cm ar v 3 (q_okT a b a2 b2 a3 b3) = 2 ∧ E = xIA) ∨ (q_addk cm ar v 3 (q_okT a b a2 b2 a3 b3) = 3 ∧ E = xIS))) 58 2560 := by
  refine m_startX (cc := cX7_addTriangle) (maxL := 10) (ret := (some .int)) (by decide) rfl (Nat.le_of_ble_eq_true rfl) ?_
  intro p e s m args below meth c C hE
  have i_X7 : ∀ w ∈ wsX70, w ∈ wsX7_addTriangle := by decide +kernel
  have i_X3 : ∀ w ∈ wsX30, w ∈ wsX7_addTriangle := by decide +kernel
  have iL : ∀ w ∈ wsJx4a65c0, w ∈ wsX7_addTriangle := by decide +kernel
  have i_X6 : ∀ w ∈ wsX60, w ∈ wsX7_addTriangle := by decide +kernel
  have i_X1 : ∀ w ∈ wsX10, w ∈ wsX7_addTriangle := by decide +kernel
  refine m_sub (L' := [(0, .ref (Z 0)), (1, .int v), (2, .int a), (3, .int b), (4, .int a2), (5, .int b2), (6, .int a3), (7, .int b3)]) [0, 1, 2, 3, 4, 5, 6, 7] rfl ?_
  have hcm := hw.1.2
  have hI9 := hI
  obtain ⟨fi, nl, rw, hfv, hR⟩ := hI9
  refine m_aload_n C dX7_addTriangle_0 rfl 0 rfl ?_
  refine m_iload_n C dX7_addTriangle_1 rfl 1 rfl ?_
  refine m_callVXq (As := [.int v]) (st := []) C hR.me rfl (c_X7_find D A l hst hR hcm) (cwV 1 C.1.2.2.2.2 gX7_addTriangle_X7_find rfl rfl rfl (by decide +kernel) ⟨Nat.le_of_ble_eq_true rfl, Nat.le_of_ble_eq_true rfl⟩) rfl rfl (Nat.le_of_ble_eq_true rfl) dX7_addTriangle_2 ⟨Nat.le_of_ble_eq_true rfl, Nat.le_of_ble_eq_true rfl⟩ hE (fun E M9 z9 => ⟨by rw [z9.2.1]; exact hI, Or.inl (⟨by unfold q_addk; rw [if_pos z9.2.2], z9.1⟩)⟩) (Nat.le_of_ble_eq_true rfl) (Nat.le_of_ble_eq_true rfl) (fun r9 M9 hq9 => ?_)
  obtain ⟨e9, j, rfl, hj, rfl⟩ := hq9
  subst e9
  rename Mm => M
  have qj := q_node_t hcm hj
  have cj : jN (nI j) = j := nI_clamp (by have := hj.1; omega)
  refine m_astore (L' := [(8, .ref (Z (100 + j))), (0, .ref (Z 0)), (1, .int (nI j)), (2, .int a), (3, .int b), (4, .int a2), (5, .int b2), (6, .int a3), (7, .int b3)]) C dX7_addTriangle_5 (by decide) rfl ?_
  refine m_iload_n C dX7_addTriangle_7 rfl 3 rfl ?_
  refine m_iload_n C dX7_addTriangle_8 rfl 4 rfl ?_
  refine m_callSXv (As := [.int a, .int b]) (st := []) C (c_X7_checkPoint D A l hst) (va_cwS 2 C.1.2.2.2.2 gX7_addTriangle_X7_checkPoint rfl rfl rfl (by decide +kernel) ⟨Nat.le_of_ble_eq_true rfl, Nat.le_of_ble_eq_true rfl⟩) rfl rfl (Nat.le_of_ble_eq_true rfl) dX7_addTriangle_9 ⟨Nat.le_of_ble_eq_true rfl, Nat.le_of_ble_eq_true rfl⟩ hE (fun E M9 z9 => ⟨by rw [z9.2.1]; exact hI, Or.inr (Or.inl (⟨by unfold q_addk; rw [qj, if_neg (by decide), show q_okT a b a2 b2 a3 b3 = false by unfold q_okT; have z8 := z9.2.2; rw [okP_far, Bool.not_eq_false', Bool.or_eq_true] at z8; rcases z8 with u | u <;> rw [u] <;> simp]; rfl, z9.1⟩))⟩) (Nat.le_of_ble_eq_true rfl) (Nat.le_of_ble_eq_true rfl) (fun M9 hq9 => ?_)
  obtain ⟨e9, ok1⟩ := hq9
  subst e9
  rename Mm => M
  refine m_iload C dX7_addTriangle_12 5 rfl ?_
  refine m_iload C dX7_addTriangle_14 6 rfl ?_
  refine m_callSXv (As := [.int a2, .int b2]) (st := []) C (c_X7_checkPoint D A l hst) (va_cwS 2 C.1.2.2.2.2 gX7_addTriangle_X7_checkPoint rfl rfl rfl (by decide +kernel) ⟨Nat.le_of_ble_eq_true rfl, Nat.le_of_ble_eq_true rfl⟩) rfl rfl (Nat.le_of_ble_eq_true rfl) dX7_addTriangle_16 ⟨Nat.le_of_ble_eq_true rfl, Nat.le_of_ble_eq_true rfl⟩ hE (fun E M9 z9 => ⟨by rw [z9.2.1]; exact hI, Or.inr (Or.inl (⟨by unfold q_addk; rw [qj, if_neg (by decide), show q_okT a b a2 b2 a3 b3 = false by unfold q_okT; have z8 := z9.2.2; rw [okP_far, Bool.not_eq_false', Bool.or_eq_true] at z8; rcases z8 with u | u <;> rw [u] <;> simp]; rfl, z9.1⟩))⟩) (Nat.le_of_ble_eq_true rfl) (Nat.le_of_ble_eq_true rfl) (fun M9 hq9 => ?_)
  obtain ⟨e9, ok2⟩ := hq9
  subst e9
  rename Mm => M
  refine m_iload C dX7_addTriangle_19 7 rfl ?_
  refine m_iload C dX7_addTriangle_21 8 rfl ?_
  refine m_callSXv (As := [.int a3, .int b3]) (st := []) C (c_X7_checkPoint D A l hst) (va_cwS 2 C.1.2.2.2.2 gX7_addTriangle_X7_checkPoint rfl rfl rfl (by decide +kernel) ⟨Nat.le_of_ble_eq_true rfl, Nat.le_of_ble_eq_true rfl⟩) rfl rfl (Nat.le_of_ble_eq_true rfl) dX7_addTriangle_23 ⟨Nat.le_of_ble_eq_true rfl, Nat.le_of_ble_eq_true rfl⟩ hE (fun E M9 z9 => ⟨by rw [z9.2.1]; exact hI, Or.inr (Or.inl (⟨by unfold q_addk; rw [qj, if_neg (by decide), show q_okT a b a2 b2 a3 b3 = false by unfold q_okT; have z8 := z9.2.2; rw [okP_far, Bool.not_eq_false', Bool.or_eq_true] at z8; rcases z8 with u | u <;> rw [u] <;> simp]; rfl, z9.1⟩))⟩) (Nat.le_of_ble_eq_true rfl) (Nat.le_of_ble_eq_true rfl) (fun M9 hq9 => ?_)
  obtain ⟨e9, ok3⟩ := hq9
  subst e9
  rename Mm => M
  rw [okP_far, Bool.not_eq_true', Bool.or_eq_false_iff] at ok1
  rw [okP_far, Bool.not_eq_true', Bool.or_eq_false_iff] at ok2
  rw [okP_far, Bool.not_eq_true', Bool.or_eq_false_iff] at ok3
  have hok : q_okT a b a2 b2 a3 b3 = true := by
    unfold q_okT
    rw [ok1.1, ok1.2, ok2.1, ok2.2, ok3.1, ok3.2]
    rfl
  refine m_aload_n C dX7_addTriangle_26 rfl 1 rfl ?_
  refine m_aload C dX7_addTriangle_27 0 rfl ?_
  refine m_callVXv (As := [.ref (Z (100 + j))]) (st := []) C hR.me rfl (c_X7_checkTakesMore D A l hst hR hcm hj) (cwV 1 C.1.2.2.2.2 gX7_addTriangle_X7_checkTakesMore rfl rfl rfl (by decide +kernel) ⟨Nat.le_of_ble_eq_true rfl, Nat.le_of_ble_eq_true rfl⟩) rfl rfl (Nat.le_of_ble_eq_true rfl) dX7_addTriangle_29 ⟨Nat.le_of_ble_eq_true rfl, Nat.le_of_ble_eq_true rfl⟩ hE (fun E M9 z9 => ⟨by rw [z9.2.1]; exact hI, Or.inr (Or.inr (⟨by unfold q_addk; rw [qj, if_neg (by decide), hok, if_neg (by decide), if_pos (by rcases z9.2.2 with u | u; exact Or.inl (by rw [show (nI j).toNatClampNeg = j from cj]; exact u); exact Or.inr (by rw [u]; rfl))]; rfl, z9.1⟩))⟩) (Nat.le_of_ble_eq_true rfl) (Nat.le_of_ble_eq_true rfl) (fun M9 hq9 => ?_)
  obtain ⟨e9, h3, hc40⟩ := hq9
  subst e9
  rename Mm => M
  have hk0 : q_addk cm ar (nI j) 3 (q_okT a b a2 b2 a3 b3) = 0 := by
    unfold q_addk
    rw [qj, if_neg (by decide), hok, if_neg (by decide), show (nI j).toNatClampNeg = j from cj]
    refine if_neg ?_
    rintro (u | u)
    · exact u h3
    · have := congrArg Int32.toNatClampNeg u
      rw [nI_clamp (show cm < 2 ^ 31 by omega)] at this
      have e40 : (40 : Int32).toNatClampNeg = 40 := rfl
      omega
  refine m_iload_n C dX7_addTriangle_32 rfl 3 rfl ?_
  refine m_iload C dX7_addTriangle_33 5 rfl ?_
  refine m_iload C dX7_addTriangle_35 7 rfl ?_
  refine m_mmin (x := a2) (y := a3) (index := 80) C (by decide +kernel) (by decide +kernel) (by decide +kernel) (by decide +kernel) (Nat.le_of_ble_eq_true rfl) (Nat.le_of_ble_eq_true rfl) (Nat.le_of_ble_eq_true rfl) (Nat.le_of_ble_eq_true rfl) dX7_addTriangle_37 ?_
  refine m_mmin (x := a) (y := (if a3 < a2 then a3 else a2)) (index := 80) C (by decide +kernel) (by decide +kernel) (by decide +kernel) (by decide +kernel) (Nat.le_of_ble_eq_true rfl) (Nat.le_of_ble_eq_true rfl) (Nat.le_of_ble_eq_true rfl) (Nat.le_of_ble_eq_true rfl) dX7_addTriangle_40 ?_
  refine m_topi (fun lf elf => ?_)
  have bx1 : lf.toInt = min a.toInt (min a2.toInt a3.toInt) := by rw [elf, mn_i, mn_i]
  clear elf
  refine m_iload_n C dX7_addTriangle_43 rfl 4 rfl ?_
  refine m_iload C dX7_addTriangle_44 6 rfl ?_
  refine m_iload C dX7_addTriangle_46 8 rfl ?_
  refine m_mmin (x := b2) (y := b3) (index := 80) C (by decide +kernel) (by decide +kernel) (by decide +kernel) (by decide +kernel) (Nat.le_of_ble_eq_true rfl) (Nat.le_of_ble_eq_true rfl) (Nat.le_of_ble_eq_true rfl) (Nat.le_of_ble_eq_true rfl) dX7_addTriangle_48 ?_
  refine m_mmin (x := b) (y := (if b3 < b2 then b3 else b2)) (index := 80) C (by decide +kernel) (by decide +kernel) (by decide +kernel) (by decide +kernel) (Nat.le_of_ble_eq_true rfl) (Nat.le_of_ble_eq_true rfl) (Nat.le_of_ble_eq_true rfl) (Nat.le_of_ble_eq_true rfl) dX7_addTriangle_51 ?_
  refine m_topi (fun tp etp => ?_)
  have bx2 : tp.toInt = min b.toInt (min b2.toInt b3.toInt) := by rw [etp, mn_i, mn_i]
  clear etp
  refine m_iload_n C dX7_addTriangle_54 rfl 3 rfl ?_
  refine m_iload C dX7_addTriangle_55 5 rfl ?_
  refine m_iload C dX7_addTriangle_57 7 rfl ?_
  refine m_mmax (x := a2) (y := a3) (index := 86) C (by decide +kernel) (by decide +kernel) (by decide +kernel) (by decide +kernel) (Nat.le_of_ble_eq_true rfl) (Nat.le_of_ble_eq_true rfl) (Nat.le_of_ble_eq_true rfl) (Nat.le_of_ble_eq_true rfl) dX7_addTriangle_59 ?_
  refine m_mmax (x := a) (y := (if a2 < a3 then a3 else a2)) (index := 86) C (by decide +kernel) (by decide +kernel) (by decide +kernel) (by decide +kernel) (Nat.le_of_ble_eq_true rfl) (Nat.le_of_ble_eq_true rfl) (Nat.le_of_ble_eq_true rfl) (Nat.le_of_ble_eq_true rfl) dX7_addTriangle_62 ?_
  refine m_topi (fun rt ert => ?_)
  have bx3 : rt.toInt = max a.toInt (max a2.toInt a3.toInt) := by rw [ert, mx_i, mx_i]
  clear ert
  refine m_iload_n C dX7_addTriangle_65 rfl 4 rfl ?_
  refine m_iload C dX7_addTriangle_66 6 rfl ?_
  refine m_iload C dX7_addTriangle_68 8 rfl ?_
  refine m_mmax (x := b2) (y := b3) (index := 86) C (by decide +kernel) (by decide +kernel) (by decide +kernel) (by decide +kernel) (Nat.le_of_ble_eq_true rfl) (Nat.le_of_ble_eq_true rfl) (Nat.le_of_ble_eq_true rfl) (Nat.le_of_ble_eq_true rfl) dX7_addTriangle_70 ?_
  refine m_mmax (x := b) (y := (if b2 < b3 then b3 else b2)) (index := 86) C (by decide +kernel) (by decide +kernel) (by decide +kernel) (by decide +kernel) (Nat.le_of_ble_eq_true rfl) (Nat.le_of_ble_eq_true rfl) (Nat.le_of_ble_eq_true rfl) (Nat.le_of_ble_eq_true rfl) dX7_addTriangle_73 ?_
  refine m_topi (fun bt ebt => ?_)
  have bx4 : bt.toInt = max b.toInt (max b2.toInt b3.toInt) := by rw [ebt, mx_i, mx_i]
  clear ebt
  obtain ⟨M0, eM0⟩ : ∃ z : Mm, z = M := ⟨_, rfl⟩
  have hX : mX [] M0 M := by rw [eM0]; exact mX.rf
  have hR0 : cS D Z F cm g ar fi nl (pre9 ar 0) rw M0 := by rw [eM0]; exact hR
  clear eM0
  refine m_callSq (As := [.int lf, .int tp, .int rt, .int bt]) (st := []) C (c_X7_boxRound D A l) (va_cwS 4 C.1.2.2.2.2 gX7_addTriangle_X7_boxRound rfl rfl rfl (by decide +kernel) ⟨Nat.le_of_ble_eq_true rfl, Nat.le_of_ble_eq_true rfl⟩) rfl rfl (Nat.le_of_ble_eq_true rfl) dX7_addTriangle_76 ⟨Nat.le_of_ble_eq_true rfl, Nat.le_of_ble_eq_true rfl⟩ (fun r9 M9 hq9 => ?_)
  obtain ⟨q_0, rfl, hn9, hX9, h_q_09⟩ := hq9
  rw [e_dd, e_dd] at h_q_09
  have hq0_q_0 : M0 q_0 = none := hX.none hn9 (by simp)
  have gX : mX [q_0] M0 M9 := (hX.sub (by simp)).tr hX9
  clear hX hX9 hn9
  revert h_q_09 gX
  generalize M9 = M
  intro h_q_0 hX
  refine m_astore (L' := [(9, .ref q_0), (8, .ref (Z (100 + j))), (0, .ref (Z 0)), (1, .int (nI j)), (2, .int a), (3, .int b), (4, .int a2), (5, .int b2), (6, .int a3), (7, .int b3)]) C dX7_addTriangle_79 (by decide) rfl ?_
  refine m_aload_n C dX7_addTriangle_81 rfl 2 rfl ?_
  refine m_aload C dX7_addTriangle_82 1 rfl ?_
  refine m_new (ci := 8) (fs := [.int 0, .null, .null, .null, .null]) C rfl i_X6 tyX6 tyX6_ok (by decide +kernel) (by decide +kernel) (by decide +kernel) (fun j hj => by match j, hj with | 0, _ => rfl | 1, _ => rfl | 2, _ => rfl | 3, _ => rfl | 4, _ => rfl | k + 5, h => omega) (Nat.le_of_ble_eq_true rfl) (Nat.le_of_ble_eq_true rfl) dX7_addTriangle_84 (fun q_1 hq_q_1 => ?_)
  have hnn_q_1_q_0 : q_1 ≠ q_0 := fun z => by rw [z, h_q_0] at hq_q_1; cases hq_q_1
  have hq0_q_1 : M0 q_1 = none := hX.none hq_q_1 (by simp; exact fun z => by rw [z, h_q_0] at hq_q_1; cases hq_q_1)
  have g_q_0 : (m_up M q_1 (.inr (8, [.int 0, .null, .null, .null, .null]))) q_0 = some (.inr (3, [.int lf, .int tp, .int rt, .int bt])) := (m_up_n (m_neN h_q_0 hq_q_1)).trans h_q_0
  have g_q_1 : (m_up M q_1 (.inr (8, [.int 0, .null, .null, .null, .null]))) q_1 = some (.inr (8, [.int 0, .null, .null, .null, .null])) := m_up_s
  have gX := hX.new (q := q_1) (e := .inr (8, [.int 0, .null, .null, .null, .null]))
  revert g_q_0 g_q_1 gX
  generalize m_up M q_1 (.inr (8, [.int 0, .null, .null, .null, .null])) = M
  intro h_q_0 h_q_1 hX
  have hne_q_1_q_0 : q_1 ≠ q_0 := hnn_q_1_q_0
  have hne_q_0_q_1 : q_0 ≠ q_1 := fun z => hnn_q_1_q_0 z.symm
  refine m_dup C dX7_addTriangle_87 rfl ?_
  refine m_aload C dX7_addTriangle_88 0 rfl ?_
  refine m_new (ci := 4) (fs := [.int 0, .int 0]) C rfl i_X1 tyX1 tyX1_ok (by decide +kernel) (by decide +kernel) (by decide +kernel) (fun j hj => by match j, hj with | 0, _ => rfl | 1, _ => rfl | k + 2, h => omega) (Nat.le_of_ble_eq_true rfl) (Nat.le_of_ble_eq_true rfl) dX7_addTriangle_90 (fun q_2 hq_q_2 => ?_)
  have hnn_q_2_q_0 : q_2 ≠ q_0 := fun z => by rw [z, h_q_0] at hq_q_2; cases hq_q_2
  have hnn_q_2_q_1 : q_2 ≠ q_1 := fun z => by rw [z, h_q_1] at hq_q_2; cases hq_q_2
  have hq0_q_2 : M0 q_2 = none := hX.none hq_q_2 (by simp; exact ⟨fun z => (by rw [z, h_q_1] at hq_q_2; cases hq_q_2), fun z => (by rw [z, h_q_0] at hq_q_2; cases hq_q_2)⟩)
  have g_q_0 : (m_up M q_2 (.inr (4, [.int 0, .int 0]))) q_0 = some (.inr (3, [.int lf, .int tp, .int rt, .int bt])) := (m_up_n (m_neN h_q_0 hq_q_2)).trans h_q_0
  have g_q_1 : (m_up M q_2 (.inr (4, [.int 0, .int 0]))) q_1 = some (.inr (8, [.int 0, .null, .null, .null, .null])) := (m_up_n (m_neN h_q_1 hq_q_2)).trans h_q_1
  have g_q_2 : (m_up M q_2 (.inr (4, [.int 0, .int 0]))) q_2 = some (.inr (4, [.int 0, .int 0])) := m_up_s
  have gX := hX.new (q := q_2) (e := .inr (4, [.int 0, .int 0]))
  revert g_q_0 g_q_1 g_q_2 gX
  generalize m_up M q_2 (.inr (4, [.int 0, .int 0])) = M
  intro h_q_0 h_q_1 h_q_2 hX
  have hne_q_2_q_0 : q_2 ≠ q_0 := hnn_q_2_q_0
  have hne_q_0_q_2 : q_0 ≠ q_2 := fun z => hnn_q_2_q_0 z.symm
  have hne_q_2_q_1 : q_2 ≠ q_1 := hnn_q_2_q_1
  have hne_q_1_q_2 : q_1 ≠ q_2 := fun z => hnn_q_2_q_1 z.symm
  refine m_dup C dX7_addTriangle_93 rfl ?_
  refine m_iload_n C dX7_addTriangle_94 rfl 4 rfl ?_
  refine m_iload_n C dX7_addTriangle_95 rfl 5 rfl ?_
  refine m_callIv (ret1 := none) (As := [.int a, .int b]) (st := [.ref q_2, .ref q_0, .ref q_1, .ref q_1, .ref (Z (100 + j)), .ref (Z 0)]) C (c_X1_init D A l h_q_2) ⟨callB_of 2 C.1.2.2.2.2 gX7_addTriangle_X1_init rfl rfl rfl (C.1.2.2.2.2 _ (by decide +kernel)) (C.1.2.2.2.2 _ (by decide +kernel)) (by decide +kernel) ⟨Nat.le_of_ble_eq_true rfl, Nat.le_of_ble_eq_true rfl⟩, rfl, C.1.2.2.2.2 _ (by decide +kernel)⟩ rfl rfl (Nat.le_of_ble_eq_true rfl) dX7_addTriangle_96 ⟨Nat.le_of_ble_eq_true rfl, Nat.le_of_ble_eq_true rfl⟩ (fun M9 hq9 => ?_)
  have g_q_0 : M9 q_0 = some (.inr (3, [.int lf, .int tp, .int rt, .int bt])) := (hq9.1 q_0 (by simp; exact hne_q_0_q_2)).trans h_q_0
  have g_q_1 : M9 q_1 = some (.inr (8, [.int 0, .null, .null, .null, .null])) := (hq9.1 q_1 (by simp; exact hne_q_1_q_2)).trans h_q_1
  have g_q_2 : M9 q_2 = some (.inr (4, [.int a, .int b])) := hq9.2
  have gX : mX [q_2, q_1, q_0] M0 M9 := hX.tr (hq9.1.sub (by simp))
  clear hX hq9 h_q_0 h_q_1 h_q_2
  revert g_q_0 g_q_1 g_q_2 gX
  generalize M9 = M
  intro h_q_0 h_q_1 h_q_2 hX
  refine m_new (ci := 4) (fs := [.int 0, .int 0]) C rfl i_X1 tyX1 tyX1_ok (by decide +kernel) (by decide +kernel) (by decide +kernel) (fun j hj => by match j, hj with | 0, _ => rfl | 1, _ => rfl | k + 2, h => omega) (Nat.le_of_ble_eq_true rfl) (Nat.le_of_ble_eq_true rfl) dX7_addTriangle_99 (fun q_3 hq_q_3 => ?_)
  have hnn_q_3_q_0 : q_3 ≠ q_0 := fun z => by rw [z, h_q_0] at hq_q_3; cases hq_q_3
  have hnn_q_3_q_1 : q_3 ≠ q_1 := fun z => by rw [z, h_q_1] at hq_q_3; cases hq_q_3
  have hnn_q_3_q_2 : q_3 ≠ q_2 := fun z => by rw [z, h_q_2] at hq_q_3; cases hq_q_3
  have hq0_q_3 : M0 q_3 = none := hX.none hq_q_3 (by simp; exact ⟨fun z => (by rw [z, h_q_2] at hq_q_3; cases hq_q_3), fun z => (by rw [z, h_q_1] at hq_q_3; cases hq_q_3), fun z => (by rw [z, h_q_0] at hq_q_3; cases hq_q_3)⟩)
  have g_q_0 : (m_up M q_3 (.inr (4, [.int 0, .int 0]))) q_0 = some (.inr (3, [.int lf, .int tp, .int rt, .int bt])) := (m_up_n (m_neN h_q_0 hq_q_3)).trans h_q_0
  have g_q_1 : (m_up M q_3 (.inr (4, [.int 0, .int 0]))) q_1 = some (.inr (8, [.int 0, .null, .null, .null, .null])) := (m_up_n (m_neN h_q_1 hq_q_3)).trans h_q_1
  have g_q_2 : (m_up M q_3 (.inr (4, [.int 0, .int 0]))) q_2 = some (.inr (4, [.int a, .int b])) := (m_up_n (m_neN h_q_2 hq_q_3)).trans h_q_2
  have g_q_3 : (m_up M q_3 (.inr (4, [.int 0, .int 0]))) q_3 = some (.inr (4, [.int 0, .int 0])) := m_up_s
  have gX := hX.new (q := q_3) (e := .inr (4, [.int 0, .int 0]))
  revert g_q_0 g_q_1 g_q_2 g_q_3 gX
  generalize m_up M q_3 (.inr (4, [.int 0, .int 0])) = M
  intro h_q_0 h_q_1 h_q_2 h_q_3 hX
  have hne_q_3_q_0 : q_3 ≠ q_0 := hnn_q_3_q_0
  have hne_q_0_q_3 : q_0 ≠ q_3 := fun z => hnn_q_3_q_0 z.symm
  have hne_q_3_q_1 : q_3 ≠ q_1 := hnn_q_3_q_1
  have hne_q_1_q_3 : q_1 ≠ q_3 := fun z => hnn_q_3_q_1 z.symm
  have hne_q_3_q_2 : q_3 ≠ q_2 := hnn_q_3_q_2
  have hne_q_2_q_3 : q_2 ≠ q_3 := fun z => hnn_q_3_q_2 z.symm
  refine m_dup C dX7_addTriangle_102 rfl ?_
  refine m_iload C dX7_addTriangle_103 6 rfl ?_
  refine m_iload C dX7_addTriangle_105 7 rfl ?_
  refine m_callIv (ret1 := none) (As := [.int a2, .int b2]) (st := [.ref q_3, .ref q_2, .ref q_0, .ref q_1, .ref q_1, .ref (Z (100 + j)), .ref (Z 0)]) C (c_X1_init D A l h_q_3) ⟨callB_of 2 C.1.2.2.2.2 gX7_addTriangle_X1_init rfl rfl rfl (C.1.2.2.2.2 _ (by decide +kernel)) (C.1.2.2.2.2 _ (by decide +kernel)) (by decide +kernel) ⟨Nat.le_of_ble_eq_true rfl, Nat.le_of_ble_eq_true rfl⟩, rfl, C.1.2.2.2.2 _ (by decide +kernel)⟩ rfl rfl (Nat.le_of_ble_eq_true rfl) dX7_addTriangle_107 ⟨Nat.le_of_ble_eq_true rfl, Nat.le_of_ble_eq_true rfl⟩ (fun M9 hq9 => ?_)
  have g_q_0 : M9 q_0 = some (.inr (3, [.int lf, .int tp, .int rt, .int bt])) := (hq9.1 q_0 (by simp; exact hne_q_0_q_3)).trans h_q_0
  have g_q_1 : M9 q_1 = some (.inr (8, [.int 0, .null, .null, .null, .null])) := (hq9.1 q_1 (by simp; exact hne_q_1_q_3)).trans h_q_1
  have g_q_2 : M9 q_2 = some (.inr (4, [.int a, .int b])) := (hq9.1 q_2 (by simp; exact hne_q_2_q_3)).trans h_q_2
  have g_q_3 : M9 q_3 = some (.inr (4, [.int a2, .int b2])) := hq9.2
  have gX : mX [q_3, q_2, q_1, q_0] M0 M9 := hX.tr (hq9.1.sub (by simp))
  clear hX hq9 h_q_0 h_q_1 h_q_2 h_q_3
  revert g_q_0 g_q_1 g_q_2 g_q_3 gX
  generalize M9 = M
  intro h_q_0 h_q_1 h_q_2 h_q_3 hX
  refine m_new (ci := 4) (fs := [.int 0, .int 0]) C rfl i_X1 tyX1 tyX1_ok (by decide +kernel) (by decide +kernel) (by decide +kernel) (fun j hj => by match j, hj with | 0, _ => rfl | 1, _ => rfl | k + 2, h => omega) (Nat.le_of_ble_eq_true rfl) (Nat.le_of_ble_eq_true rfl) dX7_addTriangle_110 (fun q_4 hq_q_4 => ?_)
  have hnn_q_4_q_0 : q_4 ≠ q_0 := fun z => by rw [z, h_q_0] at hq_q_4; cases hq_q_4
  have hnn_q_4_q_1 : q_4 ≠ q_1 := fun z => by rw [z, h_q_1] at hq_q_4; cases hq_q_4
  have hnn_q_4_q_2 : q_4 ≠ q_2 := fun z => by rw [z, h_q_2] at hq_q_4; cases hq_q_4
  have hnn_q_4_q_3 : q_4 ≠ q_3 := fun z => by rw [z, h_q_3] at hq_q_4; cases hq_q_4
  have hq0_q_4 : M0 q_4 = none := hX.none hq_q_4 (by simp; exact ⟨fun z => (by rw [z, h_q_3] at hq_q_4; cases hq_q_4), fun z => (by rw [z, h_q_2] at hq_q_4; cases hq_q_4), fun z => (by rw [z, h_q_1] at hq_q_4; cases hq_q_4), fun z => (by rw [z, h_q_0] at hq_q_4; cases hq_q_4)⟩)
  have g_q_0 : (m_up M q_4 (.inr (4, [.int 0, .int 0]))) q_0 = some (.inr (3, [.int lf, .int tp, .int rt, .int bt])) := (m_up_n (m_neN h_q_0 hq_q_4)).trans h_q_0
  have g_q_1 : (m_up M q_4 (.inr (4, [.int 0, .int 0]))) q_1 = some (.inr (8, [.int 0, .null, .null, .null, .null])) := (m_up_n (m_neN h_q_1 hq_q_4)).trans h_q_1
  have g_q_2 : (m_up M q_4 (.inr (4, [.int 0, .int 0]))) q_2 = some (.inr (4, [.int a, .int b])) := (m_up_n (m_neN h_q_2 hq_q_4)).trans h_q_2
  have g_q_3 : (m_up M q_4 (.inr (4, [.int 0, .int 0]))) q_3 = some (.inr (4, [.int a2, .int b2])) := (m_up_n (m_neN h_q_3 hq_q_4)).trans h_q_3
  have g_q_4 : (m_up M q_4 (.inr (4, [.int 0, .int 0]))) q_4 = some (.inr (4, [.int 0, .int 0])) := m_up_s
  have gX := hX.new (q := q_4) (e := .inr (4, [.int 0, .int 0]))
  revert g_q_0 g_q_1 g_q_2 g_q_3 g_q_4 gX
  generalize m_up M q_4 (.inr (4, [.int 0, .int 0])) = M
  intro h_q_0 h_q_1 h_q_2 h_q_3 h_q_4 hX
  have hne_q_4_q_0 : q_4 ≠ q_0 := hnn_q_4_q_0
  have hne_q_0_q_4 : q_0 ≠ q_4 := fun z => hnn_q_4_q_0 z.symm
  have hne_q_4_q_1 : q_4 ≠ q_1 := hnn_q_4_q_1
  have hne_q_1_q_4 : q_1 ≠ q_4 := fun z => hnn_q_4_q_1 z.symm
  have hne_q_4_q_2 : q_4 ≠ q_2 := hnn_q_4_q_2
  have hne_q_2_q_4 : q_2 ≠ q_4 := fun z => hnn_q_4_q_2 z.symm
  have hne_q_4_q_3 : q_4 ≠ q_3 := hnn_q_4_q_3
  have hne_q_3_q_4 : q_3 ≠ q_4 := fun z => hnn_q_4_q_3 z.symm
  refine m_dup C dX7_addTriangle_113 rfl ?_
  refine m_iload C dX7_addTriangle_114 8 rfl ?_
  refine m_iload C dX7_addTriangle_116 9 rfl ?_
  refine m_callIv (ret1 := none) (As := [.int a3, .int b3]) (st := [.ref q_4, .ref q_3, .ref q_2, .ref q_0, .ref q_1, .ref q_1, .ref (Z (100 + j)), .ref (Z 0)]) C (c_X1_init D A l h_q_4) ⟨callB_of 2 C.1.2.2.2.2 gX7_addTriangle_X1_init rfl rfl rfl (C.1.2.2.2.2 _ (by decide +kernel)) (C.1.2.2.2.2 _ (by decide +kernel)) (by decide +kernel) ⟨Nat.le_of_ble_eq_true rfl, Nat.le_of_ble_eq_true rfl⟩, rfl, C.1.2.2.2.2 _ (by decide +kernel)⟩ rfl rfl (Nat.le_of_ble_eq_true rfl) dX7_addTriangle_118 ⟨Nat.le_of_ble_eq_true rfl, Nat.le_of_ble_eq_true rfl⟩ (fun M9 hq9 => ?_)
  have g_q_0 : M9 q_0 = some (.inr (3, [.int lf, .int tp, .int rt, .int bt])) := (hq9.1 q_0 (by simp; exact hne_q_0_q_4)).trans h_q_0
  have g_q_1 : M9 q_1 = some (.inr (8, [.int 0, .null, .null, .null, .null])) := (hq9.1 q_1 (by simp; exact hne_q_1_q_4)).trans h_q_1
  have g_q_2 : M9 q_2 = some (.inr (4, [.int a, .int b])) := (hq9.1 q_2 (by simp; exact hne_q_2_q_4)).trans h_q_2
  have g_q_3 : M9 q_3 = some (.inr (4, [.int a2, .int b2])) := (hq9.1 q_3 (by simp; exact hne_q_3_q_4)).trans h_q_3
  have g_q_4 : M9 q_4 = some (.inr (4, [.int a3, .int b3])) := hq9.2
  have gX : mX [q_4, q_3, q_2, q_1, q_0] M0 M9 := hX.tr (hq9.1.sub (by simp))
  clear hX hq9 h_q_0 h_q_1 h_q_2 h_q_3 h_q_4
  revert g_q_0 g_q_1 g_q_2 g_q_3 g_q_4 gX
  generalize M9 = M
  intro h_q_0 h_q_1 h_q_2 h_q_3 h_q_4 hX
  refine m_callIv (ret1 := none) (As := [.ref q_0, .ref q_2, .ref q_3, .ref q_4]) (st := [.ref q_1, .ref (Z (100 + j)), .ref (Z 0)]) C (c_X6_init D A l h_q_1) ⟨callB_of 4 C.1.2.2.2.2 gX7_addTriangle_X6_init rfl rfl rfl (C.1.2.2.2.2 _ (by decide +kernel)) (C.1.2.2.2.2 _ (by decide +kernel)) (by decide +kernel) ⟨Nat.le_of_ble_eq_true rfl, Nat.le_of_ble_eq_true rfl⟩, rfl, C.1.2.2.2.2 _ (by decide +kernel)⟩ rfl rfl (Nat.le_of_ble_eq_true rfl) dX7_addTriangle_121 ⟨Nat.le_of_ble_eq_true rfl, Nat.le_of_ble_eq_true rfl⟩ (fun M9 hq9 => ?_)
  have g_q_0 : M9 q_0 = some (.inr (3, [.int lf, .int tp, .int rt, .int bt])) := (hq9.1 q_0 (by simp; exact hne_q_0_q_1)).trans h_q_0
  have g_q_2 : M9 q_2 = some (.inr (4, [.int a, .int b])) := (hq9.1 q_2 (by simp; exact hne_q_2_q_1)).trans h_q_2
  have g_q_3 : M9 q_3 = some (.inr (4, [.int a2, .int b2])) := (hq9.1 q_3 (by simp; exact hne_q_3_q_1)).trans h_q_3
  have g_q_4 : M9 q_4 = some (.inr (4, [.int a3, .int b3])) := (hq9.1 q_4 (by simp; exact hne_q_4_q_1)).trans h_q_4
  have g_q_1 : M9 q_1 = some (.inr (8, [.int 3, .ref q_0, .ref q_2, .ref q_3, .ref q_4])) := hq9.2
  have gX : mX [q_4, q_3, q_2, q_1, q_0] M0 M9 := hX.tr (hq9.1.sub (by simp))
  clear hX hq9 h_q_0 h_q_1 h_q_2 h_q_3 h_q_4
  revert g_q_0 g_q_2 g_q_3 g_q_4 g_q_1 gX
  generalize M9 = M
  intro h_q_0 h_q_2 h_q_3 h_q_4 h_q_1 hX
  have hj1 := hj.1
  have hmm := hm_of hX (by intro a ha; simp at ha; rcases ha with rfl | rfl | rfl | rfl | rfl <;> assumption)
  obtain ⟨F', eF⟩ : ∃ z : Mm, z = (m_up (m_up (m_up (m_up (m_up F q_0 (.inr (3, [.int lf, .int tp, .int rt, .int bt]))) q_1 (.inr (8, [.int 3, .ref q_0, .ref q_2, .ref q_3, .ref q_4]))) q_2 (.inr (4, [.int a, .int b]))) q_3 (.inr (4, [.int a2, .int b2]))) q_4 (.inr (4, [.int a3, .int b3]))) := ⟨_, rfl⟩
  have hF1 : ∀ (a : Nat) (x : va_E), F' a = some x → F a = some x ∨ (M0 a = none ∧ M a = some x) := by
    intro a x hx
    rw [eF] at hx
    by_cases z_q_4 : a = q_4
    · rw [z_q_4, m_up_s] at hx; rw [z_q_4]; exact Or.inr ⟨hq0_q_4, by rw [h_q_4]; exact hx⟩
    rw [m_up_n z_q_4] at hx
    by_cases z_q_3 : a = q_3
    · rw [z_q_3, m_up_s] at hx; rw [z_q_3]; exact Or.inr ⟨hq0_q_3, by rw [h_q_3]; exact hx⟩
    rw [m_up_n z_q_3] at hx
    by_cases z_q_2 : a = q_2
    · rw [z_q_2, m_up_s] at hx; rw [z_q_2]; exact Or.inr ⟨hq0_q_2, by rw [h_q_2]; exact hx⟩
    rw [m_up_n z_q_2] at hx
    by_cases z_q_1 : a = q_1
    · rw [z_q_1, m_up_s] at hx; rw [z_q_1]; exact Or.inr ⟨hq0_q_1, by rw [h_q_1]; exact hx⟩
    rw [m_up_n z_q_1] at hx
    by_cases z_q_0 : a = q_0
    · rw [z_q_0, m_up_s] at hx; rw [z_q_0]; exact Or.inr ⟨hq0_q_0, by rw [h_q_0]; exact hx⟩
    rw [m_up_n z_q_0] at hx
    exact Or.inl hx
  have hF2 : FX F F' := by
    intro a x hx
    have h9 := hR0.1.fr hx
    rw [eF, m_up_n (m_neN h9 hq0_q_4), m_up_n (m_neN h9 hq0_q_3), m_up_n (m_neN h9 hq0_q_2), m_up_n (m_neN h9 hq0_q_1), m_up_n (m_neN h9 hq0_q_0)]
    exact hx
  obtain ⟨Z', eZ⟩ : ∃ z : Nat → Nat, z = (upA (upA (upA (upA (upA Z (400 + cm) q_1) (500 + cm) q_0) (600 + cm) q_2) (700 + cm) q_3) (800 + cm) q_4) := ⟨_, rfl⟩
  have zk : ∀ k, k ≠ 400 + cm → k ≠ 500 + cm → k ≠ 600 + cm → k ≠ 700 + cm → k ≠ 800 + cm → Z' k = Z k := fun k h4 h5 h6 h7 h8 => by rw [eZ, upA_n h8, upA_n h7, upA_n h6, upA_n h5, upA_n h4]
  have z400 : Z' (400 + cm) = q_1 := by rw [eZ, upA_n (by omega), upA_n (by omega), upA_n (by omega), upA_n (by omega), upA_s]
  have z500 : Z' (500 + cm) = q_0 := by rw [eZ, upA_n (by omega), upA_n (by omega), upA_n (by omega), upA_s]
  have z600 : Z' (600 + cm) = q_2 := by rw [eZ, upA_n (by omega), upA_n (by omega), upA_s]
  have z700 : Z' (700 + cm) = q_3 := by rw [eZ, upA_n (by omega), upA_s]
  have z800 : Z' (800 + cm) = q_4 := by rw [eZ, upA_s]
  clear eZ
  have f_q_0 : F' q_0 = some (.inr (3, [.int lf, .int tp, .int rt, .int bt])) := by rw [eF, m_up_n hne_q_0_q_4, m_up_n hne_q_0_q_3, m_up_n hne_q_0_q_2, m_up_n hne_q_0_q_1, m_up_s]
  have f_q_1 : F' q_1 = some (.inr (8, [.int 3, .ref q_0, .ref q_2, .ref q_3, .ref q_4])) := by rw [eF, m_up_n hne_q_1_q_4, m_up_n hne_q_1_q_3, m_up_n hne_q_1_q_2, m_up_s]
  have f_q_2 : F' q_2 = some (.inr (4, [.int a, .int b])) := by rw [eF, m_up_n hne_q_2_q_4, m_up_n hne_q_2_q_3, m_up_s]
  have f_q_3 : F' q_3 = some (.inr (4, [.int a2, .int b2])) := by rw [eF, m_up_n hne_q_3_q_4, m_up_s]
  have f_q_4 : F' q_4 = some (.inr (4, [.int a3, .int b3])) := by rw [eF, m_up_s]
  clear eF
  have hR9 := cS.ext hw hc40 hR0 hmm hF1 hF2 zk
  have z0 : Z' 0 = Z 0 := zk _ (by omega) (by omega) (by omega) (by omega) (by omega)
  have zj : Z' (100 + j) = Z (100 + j) := zk _ (by omega) (by omega) (by omega) (by omega) (by omega)
  obtain ⟨arn, earn⟩ : ∃ z : rA, z = q_new ar cm 3 (q_sh [a, b, a2, b2, a3, b3]) 6 := ⟨_, rfl⟩
  have n3 : arn 3 cm = 3 := by rw [earn]; exact upd_s
  have n7_0 : arn 7 (6 * cm) = a := by
    rw [earn]
    show va_cpy (q_sh [a, b, a2, b2, a3, b3]) (ar 7) 0 (6 * cm) 6 (6 * cm) = a
    rw [pk_cpy_in (by omega) (by omega), show 0 + (6 * cm - 6 * cm) = 0 by omega]
    rfl
  have n7_1 : arn 7 (6 * cm + 1) = b := by
    rw [earn]
    show va_cpy (q_sh [a, b, a2, b2, a3, b3]) (ar 7) 0 (6 * cm) 6 (6 * cm + 1) = b
    rw [pk_cpy_in (by omega) (by omega), show 0 + (6 * cm + 1 - 6 * cm) = 1 by omega]
    rfl
  have n7_2 : arn 7 (6 * cm + 2) = a2 := by
    rw [earn]
    show va_cpy (q_sh [a, b, a2, b2, a3, b3]) (ar 7) 0 (6 * cm) 6 (6 * cm + 2) = a2
    rw [pk_cpy_in (by omega) (by omega), show 0 + (6 * cm + 2 - 6 * cm) = 2 by omega]
    rfl
  have n7_3 : arn 7 (6 * cm + 3) = b2 := by
    rw [earn]
    show va_cpy (q_sh [a, b, a2, b2, a3, b3]) (ar 7) 0 (6 * cm) 6 (6 * cm + 3) = b2
    rw [pk_cpy_in (by omega) (by omega), show 0 + (6 * cm + 3 - 6 * cm) = 3 by omega]
    rfl
  have n7_4 : arn 7 (6 * cm + 4) = a3 := by
    rw [earn]
    show va_cpy (q_sh [a, b, a2, b2, a3, b3]) (ar 7) 0 (6 * cm) 6 (6 * cm + 4) = a3
    rw [pk_cpy_in (by omega) (by omega), show 0 + (6 * cm + 4 - 6 * cm) = 4 by omega]
    rfl
  have n7_5 : arn 7 (6 * cm + 5) = b3 := by
    rw [earn]
    show va_cpy (q_sh [a, b, a2, b2, a3, b3]) (ar 7) 0 (6 * cm) 6 (6 * cm + 5) = b3
    rw [pk_cpy_in (by omega) (by omega), show 0 + (6 * cm + 5 - 6 * cm) = 5 by omega]
    rfl
  have n14 : ¬ 0 < arn 14 (4 * cm + 2) := by
    rw [earn]
    show ¬ 0 < ar 14 (4 * cm + 2)
    rw [(hw.2.2.2.2.2 cm (Nat.le_refl _)).2.2.2.2.2.2 2 (by decide)]
    decide
  have hx9 : sFx Z' arn cm F' := by
    unfold sFx
    rw [n3, z400, z500, z600, z700, z800, n7_0, n7_1, n7_2, n7_3, n7_4, n7_5]
    exact ⟨fun z => absurd z (by decide), fun z => absurd z (by decide), fun _ => ⟨f_q_1, f_q_2, f_q_3, f_q_4, _, _, _, _, f_q_0, bx1, bx2, bx3, bx4⟩, fun z => absurd z n14⟩
  rw [earn] at hx9
  have hap := c_X7_append_s D A l hw hc40 hR9 hj h3 (so := 3) (by decide) hx9
  rw [z0, zj, z400] at hap
  have hme9 := hR9.me
  rw [z0] at hme9
  refine m_callVi (As := [.ref (Z (100 + j)), .ref q_1]) (st := []) C hme9 rfl hap (cwV 2 C.1.2.2.2.2 gX7_addTriangle_X7_append rfl rfl rfl (by decide +kernel) ⟨Nat.le_of_ble_eq_true rfl, Nat.le_of_ble_eq_true rfl⟩) rfl rfl (Nat.le_of_ble_eq_true rfl) dX7_addTriangle_124 ⟨Nat.le_of_ble_eq_true rfl, Nat.le_of_ble_eq_true rfl⟩ (fun r9 M9 hq9 => ?_)
  obtain ⟨hr9, Z2, hZ2, hI2⟩ := hq9
  exact m_iretX C (Nat.le_of_ble_eq_true rfl) (Nat.le_of_ble_eq_true rfl) dX7_addTriangle_127 (⟨hk0, hr9, Z2, F', hF2, hZ2, hI2⟩)

