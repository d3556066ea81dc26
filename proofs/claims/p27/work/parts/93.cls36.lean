/-! ===== the class: setClip, its constructor ===== -/
set_option maxHeartbeats 4000000 in
set_option maxRecDepth 100000 in
theorem c_X7_setClip (D : mD) (A : Nat → Prop) (l : Launch) (hst : l.stackTraces = false) {Z : Nat → Nat} {F : Mm} {cm : Nat} {g : Int32} {ar : rA} {M : Mm} (hI : cI D Z F cm g ar M) (hw : wf ar cm) (hb : BD ar cm) {v a b w h : Int32} : mXi D A l yX7_setClip wsX7_setClip ({ frames := 9, cells := 8, slots := 60, locals := 460 } : Room) [.ref (Z 0), .int v, .int a, .int b, .int w, .int h] M (fun r M' => k_setClip cm ar v a b w h = 0 ∧ r = (if 0 < ar 14 (4 * jN v + 2) then 1 else 0) ∧ ∃ (Z' : Nat → Nat) (F' : Mm), FX F F' ∧ Z' 0 = Z 0 ∧ cI D Z' F' cm g (s_setClip ar v a b w h) M') (fun E M' => cI D Z F cm g ar M' ∧ ((k_setClip cm ar v a b w h = 1 ∧ E = xIO) ∨ (k_setClip cm ar v a b w h = 2 ∧ E = xIA))) 8 60 := by
  refine m_startX (cc := cX7_setClip) (maxL := 8) (ret := (some .boolean)) (by decide) rfl (Nat.le_of_ble_eq_true rfl) ?_
  intro p e s m args below meth c C hE
  have i_X7 : ∀ w ∈ wsX70, w ∈ wsX7_setClip := by decide +kernel
  have i_X3 : ∀ w ∈ wsX30, w ∈ wsX7_setClip := by decide +kernel
  have i_X0 : ∀ w ∈ wsX00, w ∈ wsX7_setClip := by decide +kernel
  refine m_sub (L' := [(0, .ref (Z 0)), (1, .int v), (2, .int a), (3, .int b), (4, .int w), (5, .int h)]) [0, 1, 2, 3, 4, 5] rfl ?_
  have hcm := hw.1.2
  have hI9 := hI
  obtain ⟨fi, nl, rw, hfv, hR⟩ := hI9
  refine m_aload_n C dX7_setClip_0 rfl 0 rfl ?_
  refine m_iload_n C dX7_setClip_1 rfl 1 rfl ?_
  refine m_callVXq (As := [.int v]) (st := []) C hR.me rfl (c_X7_find D A l hst hR hcm) (cwV 1 C.1.2.2.2.2 gX7_setClip_X7_find rfl rfl rfl (by decide +kernel) ⟨Nat.le_of_ble_eq_true rfl, Nat.le_of_ble_eq_true rfl⟩) rfl rfl (Nat.le_of_ble_eq_true rfl) dX7_setClip_2 ⟨Nat.le_of_ble_eq_true rfl, Nat.le_of_ble_eq_true rfl⟩ hE (fun E M9 z9 => ⟨by rw [z9.2.1]; exact hI, Or.inl (⟨by unfold k_setClip; rw [if_pos z9.2.2], z9.1⟩)⟩) (Nat.le_of_ble_eq_true rfl) (Nat.le_of_ble_eq_true rfl) (fun r9 M9 hq9 => ?_)
  obtain ⟨e9, j, rfl, hj, rfl⟩ := hq9
  subst e9
  rename Mm => M
  have qj := q_node_t hcm hj
  have cj : jN (nI j) = j := nI_clamp (by have := hj.1; omega)
  refine m_astore (L' := [(6, .ref (Z (100 + j))), (0, .ref (Z 0)), (1, .int (nI j)), (2, .int a), (3, .int b), (4, .int w), (5, .int h)]) C dX7_setClip_5 (by decide) rfl ?_
  refine m_iload_n C dX7_setClip_7 rfl 3 rfl ?_
  refine m_iload_n C dX7_setClip_8 rfl 4 rfl ?_
  refine m_callSXv (As := [.int a, .int b]) (st := []) C (c_X7_checkPoint D A l hst) (va_cwS 2 C.1.2.2.2.2 gX7_setClip_X7_checkPoint rfl rfl rfl (by decide +kernel) ⟨Nat.le_of_ble_eq_true rfl, Nat.le_of_ble_eq_true rfl⟩) rfl rfl (Nat.le_of_ble_eq_true rfl) dX7_setClip_9 ⟨Nat.le_of_ble_eq_true rfl, Nat.le_of_ble_eq_true rfl⟩ hE (fun E M9 z9 => ⟨by rw [z9.2.1]; exact hI, Or.inr (⟨by unfold k_setClip; rw [qj, if_neg (by decide)]; have z8 := z9.2.2; rw [okP_far, Bool.not_eq_false', Bool.or_eq_true] at z8; rcases z8 with u | u <;> rw [u] <;> simp, z9.1⟩)⟩) (Nat.le_of_ble_eq_true rfl) (Nat.le_of_ble_eq_true rfl) (fun M9 hq9 => ?_)
  obtain ⟨e9, ok1⟩ := hq9
  subst e9
  rename Mm => M
  refine m_iload C dX7_setClip_12 5 rfl ?_
  refine m_iconst (v := 0) C dX7_setClip_14 (by decide) ?_
  refine m_bipush (v := 100) C dX7_setClip_15 (by decide) ?_
  refine m_callSXv (As := [.int w, .int 0, .int 100]) (st := []) C (c_X7_checkRange D A l hst) (va_cwS 3 C.1.2.2.2.2 gX7_setClip_X7_checkRange rfl rfl rfl (by decide +kernel) ⟨Nat.le_of_ble_eq_true rfl, Nat.le_of_ble_eq_true rfl⟩) rfl rfl (Nat.le_of_ble_eq_true rfl) dX7_setClip_17 ⟨Nat.le_of_ble_eq_true rfl, Nat.le_of_ble_eq_true rfl⟩ hE (fun E M9 z9 => ⟨by rw [z9.2.1]; exact hI, Or.inr (⟨by unfold k_setClip; rw [qj, if_neg (by decide)]; rw [← okR_in w, z9.2.2]; simp, z9.1⟩)⟩) (Nat.le_of_ble_eq_true rfl) (Nat.le_of_ble_eq_true rfl) (fun M9 hq9 => ?_)
  obtain ⟨e9, ok2⟩ := hq9
  subst e9
  rename Mm => M
  refine m_iload C dX7_setClip_20 6 rfl ?_
  refine m_iconst (v := 0) C dX7_setClip_22 (by decide) ?_
  refine m_bipush (v := 100) C dX7_setClip_23 (by decide) ?_
  refine m_callSXv (As := [.int h, .int 0, .int 100]) (st := []) C (c_X7_checkRange D A l hst) (va_cwS 3 C.1.2.2.2.2 gX7_setClip_X7_checkRange rfl rfl rfl (by decide +kernel) ⟨Nat.le_of_ble_eq_true rfl, Nat.le_of_ble_eq_true rfl⟩) rfl rfl (Nat.le_of_ble_eq_true rfl) dX7_setClip_25 ⟨Nat.le_of_ble_eq_true rfl, Nat.le_of_ble_eq_true rfl⟩ hE (fun E M9 z9 => ⟨by rw [z9.2.1]; exact hI, Or.inr (⟨by unfold k_setClip; rw [qj, if_neg (by decide)]; rw [← okR_in h, z9.2.2]; simp, z9.1⟩)⟩) (Nat.le_of_ble_eq_true rfl) (Nat.le_of_ble_eq_true rfl) (fun M9 hq9 => ?_)
  obtain ⟨e9, ok3⟩ := hq9
  subst e9
  rename Mm => M
  rw [okP_far, Bool.not_eq_true', Bool.or_eq_false_iff] at ok1
  have ok2a := ok2
  rw [okR_in] at ok2 ok3
  have hk0 : k_setClip cm ar (nI j) a b w h = 0 := by
    unfold k_setClip
    rw [qj, if_neg (by decide), ok1.1, ok1.2, ok2, ok3]
    rfl
  have e9 : s_setClip ar (nI j) a b w h = clpA ar j a b w h := by unfold s_setClip clpA; rw [cj]
  refine m_aload C dX7_setClip_28 0 rfl ?_
  refine m_get (ref := "PaintLayers$Node") C (hR.nd hj) rfl i_X3 10 (by decide) (by decide +kernel) (fun x h => h) (v := va_rf (nCl Z ar j)) rfl dX7_setClip_30 ?_
  by_cases hcl : 0 < ar 14 (4 * j + 2)
  · rw [show nCl Z ar j = some (Z (900 + j)) from if_pos hcl]
    refine m_ifnull (x := some (Z (900 + j))) (tgt := 40) C dX7_setClip_33 (by decide) (fun h => absurd h (by simp)) (fun _ _ => ?_)
    refine m_iconst (v := 1) C dX7_setClip_36 (by decide) ?_
    refine m_goto (tgt := 41) C dX7_setClip_37 (by decide) ?_
    refine m_istore (L' := [(7, .int 1), (6, .ref (Z (100 + j))), (0, .ref (Z 0)), (1, .int (nI j)), (2, .int a), (3, .int b), (4, .int w), (5, .int h)]) C dX7_setClip_41 (by decide) rfl ?_
    refine m_aload C dX7_setClip_43 1 rfl ?_
    refine m_iload C dX7_setClip_45 6 rfl ?_
    refine m_if_ne (tgt := 54) C dX7_setClip_47 (by decide) (fun h_1 => ?_) (fun h_1 => ?_)
    · have hw0 : 0 < w := by
        simp [okR] at ok2a
        have hz9 : ¬ w = 0 := h_1
        rw [← Int32.toInt_inj] at hz9
        rw [Int32.lt_iff_toInt_lt]
        have h8 := ok2a.1
        rw [Int32.le_iff_toInt_le] at h8
        have e0 : (0 : Int32).toInt = 0 := rfl
        omega
      obtain ⟨M0, eM0⟩ : ∃ z : Mm, z = M := ⟨_, rfl⟩
      have hX : mX [] M0 M := by rw [eM0]; exact mX.rf
      have hR0 : cS D Z F cm g ar fi nl (pre9 ar 0) rw M0 := by rw [eM0]; exact hR
      clear eM0
      refine m_new (ci := 3) (fs := [.int 0, .int 0, .int 0, .int 0]) C rfl i_X0 tyX0 tyX0_ok (by decide +kernel) (by decide +kernel) (by decide +kernel) (fun j hj => by match j, hj with | 0, _ => rfl | 1, _ => rfl | 2, _ => rfl | 3, _ => rfl | k + 4, h => omega) (Nat.le_of_ble_eq_true rfl) (Nat.le_of_ble_eq_true rfl) dX7_setClip_54 (fun q_2 hq_q_2 => ?_)
      have hq0_q_2 : M0 q_2 = none := hX.none hq_q_2 (by simp)
      have g_q_2 : (m_up M q_2 (.inr (3, [.int 0, .int 0, .int 0, .int 0]))) q_2 = some (.inr (3, [.int 0, .int 0, .int 0, .int 0])) := m_up_s
      have gX := hX.new (q := q_2) (e := .inr (3, [.int 0, .int 0, .int 0, .int 0]))
      revert g_q_2 gX
      generalize m_up M q_2 (.inr (3, [.int 0, .int 0, .int 0, .int 0])) = M
      intro h_q_2 hX
      refine m_dup C dX7_setClip_57 rfl ?_
      refine m_iload_n C dX7_setClip_58 rfl 4 rfl ?_
      refine m_iload_n C dX7_setClip_59 rfl 5 rfl ?_
      refine m_iload C dX7_setClip_60 6 rfl ?_
      refine m_iload C dX7_setClip_62 7 rfl ?_
      refine m_callIv (ret1 := none) (As := [.int a, .int b, .int w, .int h]) (st := [.ref q_2, .ref (Z (100 + j))]) C (c_X0_init D A l h_q_2) ⟨callB_of 4 C.1.2.2.2.2 gX7_setClip_X0_init rfl rfl rfl (C.1.2.2.2.2 _ (by decide +kernel)) (C.1.2.2.2.2 _ (by decide +kernel)) (by decide +kernel) ⟨Nat.le_of_ble_eq_true rfl, Nat.le_of_ble_eq_true rfl⟩, rfl, C.1.2.2.2.2 _ (by decide +kernel)⟩ rfl rfl (Nat.le_of_ble_eq_true rfl) dX7_setClip_64 ⟨Nat.le_of_ble_eq_true rfl, Nat.le_of_ble_eq_true rfl⟩ (fun M9 hq9 => ?_)
      have g_q_2 : M9 q_2 = some (.inr (3, [.int a, .int b, .int (a + w), .int (b + h)])) := hq9.2
      have gX : mX [q_2] M0 M9 := hX.tr (hq9.1.sub (by simp))
      clear hX hq9 h_q_2
      revert g_q_2 gX
      generalize M9 = M
      intro h_q_2 hX
      have hmm := hm_of hX (by intro a ha; simp at ha; rw [ha]; assumption)
      refine m_put (ref := "PaintLayers$Node") C (hmm _ _ (hR0.nd hj)) rfl i_X3 tyX3 tyX3_ok nmX3 10 (by decide) (by decide +kernel) (fun x h => h) rfl rfl rfl (Nat.le_of_ble_eq_true rfl) (e' := .inr (6, (nF Z ar fi nl j).set 10 (.ref q_2))) rfl dX7_setClip_67 ?_
      have hR9 := cS.clp1 hw hR0 hj hw0 (hh := h) hmm hq0_q_2 h_q_2
      revert hR9
      generalize m_up M _ _ = M9
      intro hR9
      have hz0 : upA Z (900 + j) q_2 0 = Z 0 := upA_n (by omega)
      have hF2 : FX F (m_up F q_2 (.inr (3, [.int a, .int b, .int (a + w), .int (b + h)]))) := fun c x hx => by
        rw [m_up_n (m_neN (hR0.1.fr hx) hq0_q_2)]
        exact hx
      refine m_iload C dX7_setClip_70 0 rfl ?_
      exact m_zretX C (Nat.le_of_ble_eq_true rfl) (Nat.le_of_ble_eq_true rfl) dX7_setClip_72 (Or.inr rfl) (⟨hk0, by rw [cj]; exact (if_pos hcl).symm, _, _, hF2, hz0, by rw [e9]; exact cI.of14 hfv hR9⟩)
    · have hw0 : w = 0 := by first | exact h_1 | exact Decidable.not_not.mp h_1
      subst hw0
      refine m_null C dX7_setClip_50 ?_
      refine m_goto (tgt := 67) C dX7_setClip_51 (by decide) ?_
      refine m_put (ref := "PaintLayers$Node") C (hR.nd hj) rfl i_X3 tyX3 tyX3_ok nmX3 10 (by decide) (by decide +kernel) (fun x h => h) rfl rfl rfl (Nat.le_of_ble_eq_true rfl) (e' := .inr (6, (nF Z ar fi nl j).set 10 .null)) rfl dX7_setClip_67 ?_
      have hR9 := hR.clp0 hj a b h
      revert hR9
      generalize m_up M _ _ = M9
      intro hR9
      refine m_iload C dX7_setClip_70 0 rfl ?_
      exact m_zretX C (Nat.le_of_ble_eq_true rfl) (Nat.le_of_ble_eq_true rfl) dX7_setClip_72 (Or.inr rfl) (⟨hk0, by rw [cj]; exact (if_pos hcl).symm, Z, F, fun a x h => h, rfl, by rw [e9]; exact cI.of14 hfv hR9⟩)
  · rw [show nCl Z ar j = none from if_neg hcl]
    refine m_ifnull (x := none) (tgt := 40) C dX7_setClip_33 (by decide) (fun _ => ?_) (fun q h => absurd h (by simp))
    refine m_iconst (v := 0) C dX7_setClip_40 (by decide) ?_
    refine m_istore (L' := [(7, .int 0), (6, .ref (Z (100 + j))), (0, .ref (Z 0)), (1, .int (nI j)), (2, .int a), (3, .int b), (4, .int w), (5, .int h)]) C dX7_setClip_41 (by decide) rfl ?_
    refine m_aload C dX7_setClip_43 1 rfl ?_
    refine m_iload C dX7_setClip_45 6 rfl ?_
    refine m_if_ne (tgt := 54) C dX7_setClip_47 (by decide) (fun h_3 => ?_) (fun h_3 => ?_)
    · have hw0 : 0 < w := by
        simp [okR] at ok2a
        have hz9 : ¬ w = 0 := h_3
        rw [← Int32.toInt_inj] at hz9
        rw [Int32.lt_iff_toInt_lt]
        have h8 := ok2a.1
        rw [Int32.le_iff_toInt_le] at h8
        have e0 : (0 : Int32).toInt = 0 := rfl
        omega
      obtain ⟨M0, eM0⟩ : ∃ z : Mm, z = M := ⟨_, rfl⟩
      have hX : mX [] M0 M := by rw [eM0]; exact mX.rf
      have hR0 : cS D Z F cm g ar fi nl (pre9 ar 0) rw M0 := by rw [eM0]; exact hR
      clear eM0
      refine m_new (ci := 3) (fs := [.int 0, .int 0, .int 0, .int 0]) C rfl i_X0 tyX0 tyX0_ok (by decide +kernel) (by decide +kernel) (by decide +kernel) (fun j hj => by match j, hj with | 0, _ => rfl | 1, _ => rfl | 2, _ => rfl | 3, _ => rfl | k + 4, h => omega) (Nat.le_of_ble_eq_true rfl) (Nat.le_of_ble_eq_true rfl) dX7_setClip_54 (fun q_4 hq_q_4 => ?_)
      have hq0_q_4 : M0 q_4 = none := hX.none hq_q_4 (by simp)
      have g_q_4 : (m_up M q_4 (.inr (3, [.int 0, .int 0, .int 0, .int 0]))) q_4 = some (.inr (3, [.int 0, .int 0, .int 0, .int 0])) := m_up_s
      have gX := hX.new (q := q_4) (e := .inr (3, [.int 0, .int 0, .int 0, .int 0]))
      revert g_q_4 gX
      generalize m_up M q_4 (.inr (3, [.int 0, .int 0, .int 0, .int 0])) = M
      intro h_q_4 hX
      refine m_dup C dX7_setClip_57 rfl ?_
      refine m_iload_n C dX7_setClip_58 rfl 4 rfl ?_
      refine m_iload_n C dX7_setClip_59 rfl 5 rfl ?_
      refine m_iload C dX7_setClip_60 6 rfl ?_
      refine m_iload C dX7_setClip_62 7 rfl ?_
      refine m_callIv (ret1 := none) (As := [.int a, .int b, .int w, .int h]) (st := [.ref q_4, .ref (Z (100 + j))]) C (c_X0_init D A l h_q_4) ⟨callB_of 4 C.1.2.2.2.2 gX7_setClip_X0_init rfl rfl rfl (C.1.2.2.2.2 _ (by decide +kernel)) (C.1.2.2.2.2 _ (by decide +kernel)) (by decide +kernel) ⟨Nat.le_of_ble_eq_true rfl, Nat.le_of_ble_eq_true rfl⟩, rfl, C.1.2.2.2.2 _ (by decide +kernel)⟩ rfl rfl (Nat.le_of_ble_eq_true rfl) dX7_setClip_64 ⟨Nat.le_of_ble_eq_true rfl, Nat.le_of_ble_eq_true rfl⟩ (fun M9 hq9 => ?_)
      have g_q_4 : M9 q_4 = some (.inr (3, [.int a, .int b, .int (a + w), .int (b + h)])) := hq9.2
      have gX : mX [q_4] M0 M9 := hX.tr (hq9.1.sub (by simp))
      clear hX hq9 h_q_4
      revert g_q_4 gX
      generalize M9 = M
      intro h_q_4 hX
      have hmm := hm_of hX (by intro a ha; simp at ha; rw [ha]; assumption)
      refine m_put (ref := "PaintLayers$Node") C (hmm _ _ (hR0.nd hj)) rfl i_X3 tyX3 tyX3_ok nmX3 10 (by decide) (by decide +kernel) (fun x h => h) rfl rfl rfl (Nat.le_of_ble_eq_true rfl) (e' := .inr (6, (nF Z ar fi nl j).set 10 (.ref q_4))) rfl dX7_setClip_67 ?_
      have hR9 := cS.clp1 hw hR0 hj hw0 (hh := h) hmm hq0_q_4 h_q_4
      revert hR9
      generalize m_up M _ _ = M9
      intro hR9
      have hz0 : upA Z (900 + j) q_4 0 = Z 0 := upA_n (by omega)
      have hF2 : FX F (m_up F q_4 (.inr (3, [.int a, .int b, .int (a + w), .int (b + h)]))) := fun c x hx => by
        rw [m_up_n (m_neN (hR0.1.fr hx) hq0_q_4)]
        exact hx
      refine m_iload C dX7_setClip_70 0 rfl ?_
      exact m_zretX C (Nat.le_of_ble_eq_true rfl) (Nat.le_of_ble_eq_true rfl) dX7_setClip_72 (Or.inl rfl) (⟨hk0, by rw [cj]; exact (if_neg hcl).symm, _, _, hF2, hz0, by rw [e9]; exact cI.of14 hfv hR9⟩)
    · have hw0 : w = 0 := by first | exact h_3 | exact Decidable.not_not.mp h_3
      subst hw0
      refine m_null C dX7_setClip_50 ?_
      refine m_goto (tgt := 67) C dX7_setClip_51 (by decide) ?_
      refine m_put (ref := "PaintLayers$Node") C (hR.nd hj) rfl i_X3 tyX3 tyX3_ok nmX3 10 (by decide) (by decide +kernel) (fun x h => h) rfl rfl rfl (Nat.le_of_ble_eq_true rfl) (e' := .inr (6, (nF Z ar fi nl j).set 10 .null)) rfl dX7_setClip_67 ?_
      have hR9 := hR.clp0 hj a b h
      revert hR9
      generalize m_up M _ _ = M9
      intro hR9
      refine m_iload C dX7_setClip_70 0 rfl ?_
      exact m_zretX C (Nat.le_of_ble_eq_true rfl) (Nat.le_of_ble_eq_true rfl) dX7_setClip_72 (Or.inl rfl) (⟨hk0, by rw [cj]; exact (if_neg hcl).symm, Z, F, fun a x h => h, rfl, by rw [e9]; exact cI.of14 hfv hR9⟩)
theorem wf_0 : wf q_ar0 1 := by
  refine ⟨⟨by decide, by decide⟩, ⟨by decide, by decide, by decide⟩, fun n hn hp h0 => by omega, fun n hn hp => ?_, ⟨fun _ => 0, fun n hn hp h0 => by omega⟩, fun n hn => ?_⟩
  · exact ⟨0, by decide, rfl, fun _ => rfl, fun k hk => absurd hk (Nat.not_lt_zero k), fun i k hi => absurd hi (Nat.not_lt_zero i)⟩
  · have h0 : n ≠ 0 := by omega
    exact ⟨(show upd (fun _ => (0 : Int32)) 0 1 n = 0 from upd_o h0), rfl, rfl, rfl, rfl, rfl, fun j hj => rfl⟩
theorem BD_0 : BD q_ar0 1 := by
  intro n hn
  have h0 : n = 0 := by have := hn.1; omega
  subst h0
  exact ⟨⟨by decide, by decide⟩, Or.inl rfl, fun z => absurd z (by decide), fun z => absurd z (by decide), fun z => absurd z (by decide), fun z => absurd z (by decide)⟩
theorem cP_0 {n : Nat} : cP q_ar0 1 n ↔ n = 0 := ⟨fun h => by have := h.1; omega, fun h => by rw [h]; exact ⟨by decide, by decide⟩⟩
set_option maxHeartbeats 4000000 in
set_option maxRecDepth 100000 in
theorem c_X7_init (D : mD) (A : Nat → Prop) (l : Launch) {o : Nat} {F M0 : Mm} (h_o0 : M0 o = some (.inr (9, [.null, .null, .null, .null, .null, .int 0, .int 0]))) (hF : ∀ (a : Nat) (x : va_E), F a = some x → M0 a = some x ∧ a ≠ o) : mMv D A l yX7_init wsX7_init ({ frames := 9, cells := 46, slots := 5601, locals := 780 } : Room) [.ref o] M0 (fun M' => ∃ Z : Nat → Nat, Z 0 = o ∧ cI D Z F 1 0 q_ar0 M') 46 5601 := by
  refine m_start (cc := cX7_init) (maxL := 1) (ret := none) (by decide) rfl (Nat.le_of_ble_eq_true rfl) ?_
  intro p e s m args below meth c C
  have i_X7 : ∀ w ∈ wsX70, w ∈ wsX7_init := by decide +kernel
  have i_X3 : ∀ w ∈ wsX30, w ∈ wsX7_init := by decide +kernel
  have iL : ∀ w ∈ wsJx4a65c0, w ∈ wsX7_init := by decide +kernel
  refine m_sub (L' := [(0, .ref o)]) [0] rfl ?_
  obtain ⟨M, eM⟩ : ∃ z : Mm, z = M0 := ⟨_, rfl⟩
  refine m_mem (M' := M) (by rw [eM]; exact fun _ _ h => h) ?_
  have h_o : M o = some (.inr (9, [.null, .null, .null, .null, .null, .int 0, .int 0])) := by rw [eM]; exact h_o0
  have hX : mX [o] M0 M := by rw [eM]; exact mX.rf
  clear eM
  refine m_aload_n C dX7_init_0 rfl 0 rfl ?_
  refine m_objInit C (by decide +kernel) (by decide +kernel) (by decide +kernel) (Nat.le_of_ble_eq_true rfl) (Nat.le_of_ble_eq_true rfl) dX7_init_1 ?_
  refine m_aload_n C dX7_init_4 rfl 0 rfl ?_
  refine m_bipush (v := 40) C dX7_init_5 (by decide) ?_
  refine m_newq (N := 40) C (by decide +kernel) C.2.1.2.2.2.2.2.1.1.1 2 rfl rfl (by decide) (Nat.le_of_ble_eq_true rfl) (Nat.le_of_ble_eq_true rfl) dX7_init_7 (fun q_n hq_q_n => ?_)
  have hne_q_n_o : q_n ≠ o := fun z => by rw [z, h_o] at hq_q_n; cases hq_q_n
  have hne_o_q_n : o ≠ q_n := fun z => hne_q_n_o z.symm
  have hq0_q_n : M0 q_n = none := hX.none hq_q_n (by simp; exact fun z => by rw [z, h_o] at hq_q_n; cases hq_q_n)
  have g_o : (m_up M q_n (jNs D 40 (fun _ => none))) o = some (.inr (9, [.null, .null, .null, .null, .null, .int 0, .int 0])) := (m_up_n (m_neN h_o hq_q_n)).trans h_o
  have g_q_n : (m_up M q_n (jNs D 40 (fun _ => none))) q_n = some (jNs D 40 (fun _ => none)) := m_up_s
  have gX := hX.new (q := q_n) (e := jNs D 40 (fun _ => none))
  revert g_o g_q_n gX
  generalize m_up M q_n (jNs D 40 (fun _ => none)) = M
  intro h_o h_q_n hX
  refine m_putF (ref := "PaintLayers") C h_o rfl i_X7 tyX7 tyX7_ok nmX7 0 (by decide) (by decide +kernel) (fun x h => h) rfl rfl rfl rfl rfl (Nat.le_of_ble_eq_true rfl) (e' := .inr (9, [.ref q_n, .null, .null, .null, .null, .int 0, .int 0])) rfl dX7_init_10 ?_
  have g_q_n : (m_up M o (.inr (9, [.ref q_n, .null, .null, .null, .null, .int 0, .int 0]))) q_n = some (jNs D 40 (fun _ => none)) := (m_up_n (hne_q_n_o)).trans h_q_n
  have g_o : (m_up M o (.inr (9, [.ref q_n, .null, .null, .null, .null, .int 0, .int 0]))) o = some (.inr (9, [.ref q_n, .null, .null, .null, .null, .int 0, .int 0])) := m_up_s
  have gX := hX.put (a := o) (e := .inr (9, [.ref q_n, .null, .null, .null, .null, .int 0, .int 0])) (by simp)
  revert g_q_n g_o gX
  generalize m_up M o (.inr (9, [.ref q_n, .null, .null, .null, .null, .int 0, .int 0])) = M
  intro h_q_n h_o hX
  refine m_aload_n C dX7_init_13 rfl 0 rfl ?_
  refine m_new (ci := 6) (fs := [.int 0, .null, .null, .null, .int 0, .int 0, .int 0, .int 0, .int 0, .int 0, .null, .int 0, .int 0, .int 0, .int 0, .int 0, .long 0, .long 0, .long 0]) C rfl i_X3 tyX3 tyX3_ok (by decide +kernel) (by decide +kernel) (by decide +kernel) (fun j hj => by match j, hj with | 0, _ => rfl | 1, _ => rfl | 2, _ => rfl | 3, _ => rfl | 4, _ => rfl | 5, _ => rfl | 6, _ => rfl | 7, _ => rfl | 8, _ => rfl | 9, _ => rfl | 10, _ => rfl | 11, _ => rfl | 12, _ => rfl | 13, _ => rfl | 14, _ => rfl | 15, _ => rfl | 16, _ => rfl | 17, _ => rfl | 18, _ => rfl | k + 19, h => omega) (Nat.le_of_ble_eq_true rfl) (Nat.le_of_ble_eq_true rfl) dX7_init_14 (fun q_r hq_q_r => ?_)
  have hne_q_r_o : q_r ≠ o := fun z => by rw [z, h_o] at hq_q_r; cases hq_q_r
  have hne_o_q_r : o ≠ q_r := fun z => hne_q_r_o z.symm
  have hne_q_r_q_n : q_r ≠ q_n := fun z => by rw [z, h_q_n] at hq_q_r; cases hq_q_r
  have hne_q_n_q_r : q_n ≠ q_r := fun z => hne_q_r_q_n z.symm
  have hq0_q_r : M0 q_r = none := hX.none hq_q_r (by simp; exact ⟨fun z => (by rw [z, h_q_n] at hq_q_r; cases hq_q_r), fun z => (by rw [z, h_o] at hq_q_r; cases hq_q_r)⟩)
  have g_o : (m_up M q_r (.inr (6, [.int 0, .null, .null, .null, .int 0, .int 0, .int 0, .int 0, .int 0, .int 0, .null, .int 0, .int 0, .int 0, .int 0, .int 0, .long 0, .long 0, .long 0]))) o = some (.inr (9, [.ref q_n, .null, .null, .null, .null, .int 0, .int 0])) := (m_up_n (m_neN h_o hq_q_r)).trans h_o
  have g_q_n : (m_up M q_r (.inr (6, [.int 0, .null, .null, .null, .int 0, .int 0, .int 0, .int 0, .int 0, .int 0, .null, .int 0, .int 0, .int 0, .int 0, .int 0, .long 0, .long 0, .long 0]))) q_n = some (jNs D 40 (fun _ => none)) := (m_up_n (m_neN h_q_n hq_q_r)).trans h_q_n
  have g_q_r : (m_up M q_r (.inr (6, [.int 0, .null, .null, .null, .int 0, .int 0, .int 0, .int 0, .int 0, .int 0, .null, .int 0, .int 0, .int 0, .int 0, .int 0, .long 0, .long 0, .long 0]))) q_r = some (.inr (6, [.int 0, .null, .null, .null, .int 0, .int 0, .int 0, .int 0, .int 0, .int 0, .null, .int 0, .int 0, .int 0, .int 0, .int 0, .long 0, .long 0, .long 0])) := m_up_s
  have gX := hX.new (q := q_r) (e := .inr (6, [.int 0, .null, .null, .null, .int 0, .int 0, .int 0, .int 0, .int 0, .int 0, .null, .int 0, .int 0, .int 0, .int 0, .int 0, .long 0, .long 0, .long 0]))
  revert g_o g_q_n g_q_r gX
  generalize m_up M q_r (.inr (6, [.int 0, .null, .null, .null, .int 0, .int 0, .int 0, .int 0, .int 0, .int 0, .null, .int 0, .int 0, .int 0, .int 0, .int 0, .long 0, .long 0, .long 0])) = M
  intro h_o h_q_n h_q_r hX
  refine m_dup C dX7_init_17 rfl ?_
  refine m_iconst (v := 0) C dX7_init_18 (by decide) ?_
  refine m_null C dX7_init_19 ?_
  refine m_null C dX7_init_20 ?_
  refine m_callIv (ret1 := none) (As := [.int 0, .null, .null]) (st := [.ref q_r, .ref o]) C (c_X3_init_r D A l h_q_r (nn := 0)) ⟨callB_of 3 C.1.2.2.2.2 gX7_init_X3_init rfl rfl rfl (C.1.2.2.2.2 _ (by decide +kernel)) (C.1.2.2.2.2 _ (by decide +kernel)) (by decide +kernel) ⟨Nat.le_of_ble_eq_true rfl, Nat.le_of_ble_eq_true rfl⟩, rfl, C.1.2.2.2.2 _ (by decide +kernel)⟩ rfl rfl (Nat.le_of_ble_eq_true rfl) dX7_init_21 ⟨Nat.le_of_ble_eq_true rfl, Nat.le_of_ble_eq_true rfl⟩ (fun M9 hq9 => ?_)
  obtain ⟨q_l, hq_q_l, hX9, h_q_l9, h_q_r9⟩ := hq9
  have hne_q_l_o : q_l ≠ o := fun z => by rw [z, h_o] at hq_q_l; cases hq_q_l
  have hne_o_q_l : o ≠ q_l := fun z => hne_q_l_o z.symm
  have hne_q_l_q_n : q_l ≠ q_n := fun z => by rw [z, h_q_n] at hq_q_l; cases hq_q_l
  have hne_q_n_q_l : q_n ≠ q_l := fun z => hne_q_l_q_n z.symm
  have hne_q_l_q_r : q_l ≠ q_r := fun z => by rw [z, h_q_r] at hq_q_l; cases hq_q_l
  have hne_q_r_q_l : q_r ≠ q_l := fun z => hne_q_l_q_r z.symm
  have hq0_q_l : M0 q_l = none := hX.none hq_q_l (by simp; exact ⟨fun z => (by rw [z, h_q_r] at hq_q_l; cases hq_q_l), fun z => (by rw [z, h_q_n] at hq_q_l; cases hq_q_l), fun z => (by rw [z, h_o] at hq_q_l; cases hq_q_l)⟩)
  have g_o : M9 o = some (.inr (9, [.ref q_n, .null, .null, .null, .null, .int 0, .int 0])) := (hX9 o (by simp; exact ⟨hne_o_q_l, hne_o_q_r⟩)).trans h_o
  have g_q_n : M9 q_n = some (jNs D 40 (fun _ => none)) := (hX9 q_n (by simp; exact ⟨hne_q_n_q_l, hne_q_n_q_r⟩)).trans h_q_n
  have gX : mX [q_l, q_r, q_n, o] M0 M9 := (hX.sub (by simp +contextual)).tr (hX9.sub (by simp))
  clear hX hX9 hq_q_l h_o h_q_n h_q_r
  revert h_q_l9 h_q_r9 g_o g_q_n gX
  generalize M9 = M
  intro h_q_l h_q_r h_o h_q_n hX
  refine m_putF (ref := "PaintLayers") C h_o rfl i_X7 tyX7 tyX7_ok nmX7 1 (by decide) (by decide +kernel) (fun x h => h) rfl rfl rfl rfl rfl (Nat.le_of_ble_eq_true rfl) (e' := .inr (9, [.ref q_n, .ref q_r, .null, .null, .null, .int 0, .int 0])) rfl dX7_init_24 ?_
  have g_q_n : (m_up M o (.inr (9, [.ref q_n, .ref q_r, .null, .null, .null, .int 0, .int 0]))) q_n = some (jNs D 40 (fun _ => none)) := (m_up_n (hne_q_n_o)).trans h_q_n
  have g_q_r : (m_up M o (.inr (9, [.ref q_n, .ref q_r, .null, .null, .null, .int 0, .int 0]))) q_r = some (.inr (6, [.int 0, .null, .ref q_l, .null, .int 0, .int 0, .int (-1), .int 8, .int 0, .int 0, .null, .int 0, .int 0, .int 0, .int 0, .int 0, .long 0, .long 0, .long 0])) := (m_up_n (hne_q_r_o)).trans h_q_r
  have g_q_l : (m_up M o (.inr (9, [.ref q_n, .ref q_r, .null, .null, .null, .int 0, .int 0]))) q_l = some (jLs 0 (D.2.2 0) 0) := (m_up_n (hne_q_l_o)).trans h_q_l
  have g_o : (m_up M o (.inr (9, [.ref q_n, .ref q_r, .null, .null, .null, .int 0, .int 0]))) o = some (.inr (9, [.ref q_n, .ref q_r, .null, .null, .null, .int 0, .int 0])) := m_up_s
  have gX := hX.put (a := o) (e := .inr (9, [.ref q_n, .ref q_r, .null, .null, .null, .int 0, .int 0])) (by simp)
  revert g_q_n g_q_r g_q_l g_o gX
  generalize m_up M o (.inr (9, [.ref q_n, .ref q_r, .null, .null, .null, .int 0, .int 0])) = M
  intro h_q_n h_q_r h_q_l h_o hX
  refine m_aload_n C dX7_init_27 rfl 0 rfl ?_
  refine m_new (ci := 2) (fs := [.int 0, .null, .int 0]) C rfl iL tyJx4a65c tyJx4a65c_ok (by decide +kernel) (by decide +kernel) (by decide +kernel) (fun j hj => by match j, hj with | 0, _ => rfl | 1, _ => rfl | 2, _ => rfl | k + 3, h => omega) (Nat.le_of_ble_eq_true rfl) (Nat.le_of_ble_eq_true rfl) dX7_init_28 (fun q_o hq_q_o => ?_)
  have hne_q_o_o : q_o ≠ o := fun z => by rw [z, h_o] at hq_q_o; cases hq_q_o
  have hne_o_q_o : o ≠ q_o := fun z => hne_q_o_o z.symm
  have hne_q_o_q_n : q_o ≠ q_n := fun z => by rw [z, h_q_n] at hq_q_o; cases hq_q_o
  have hne_q_n_q_o : q_n ≠ q_o := fun z => hne_q_o_q_n z.symm
  have hne_q_o_q_r : q_o ≠ q_r := fun z => by rw [z, h_q_r] at hq_q_o; cases hq_q_o
  have hne_q_r_q_o : q_r ≠ q_o := fun z => hne_q_o_q_r z.symm
  have hne_q_o_q_l : q_o ≠ q_l := fun z => by rw [z, h_q_l] at hq_q_o; cases hq_q_o
  have hne_q_l_q_o : q_l ≠ q_o := fun z => hne_q_o_q_l z.symm
  have hq0_q_o : M0 q_o = none := hX.none hq_q_o (by simp; exact ⟨fun z => (by rw [z, h_q_l] at hq_q_o; cases hq_q_o), fun z => (by rw [z, h_q_r] at hq_q_o; cases hq_q_o), fun z => (by rw [z, h_q_n] at hq_q_o; cases hq_q_o), fun z => (by rw [z, h_o] at hq_q_o; cases hq_q_o)⟩)
  have g_o : (m_up M q_o (.inr (2, [.int 0, .null, .int 0]))) o = some (.inr (9, [.ref q_n, .ref q_r, .null, .null, .null, .int 0, .int 0])) := (m_up_n (m_neN h_o hq_q_o)).trans h_o
  have g_q_n : (m_up M q_o (.inr (2, [.int 0, .null, .int 0]))) q_n = some (jNs D 40 (fun _ => none)) := (m_up_n (m_neN h_q_n hq_q_o)).trans h_q_n
  have g_q_r : (m_up M q_o (.inr (2, [.int 0, .null, .int 0]))) q_r = some (.inr (6, [.int 0, .null, .ref q_l, .null, .int 0, .int 0, .int (-1), .int 8, .int 0, .int 0, .null, .int 0, .int 0, .int 0, .int 0, .int 0, .long 0, .long 0, .long 0])) := (m_up_n (m_neN h_q_r hq_q_o)).trans h_q_r
  have g_q_l : (m_up M q_o (.inr (2, [.int 0, .null, .int 0]))) q_l = some (jLs 0 (D.2.2 0) 0) := (m_up_n (m_neN h_q_l hq_q_o)).trans h_q_l
  have g_q_o : (m_up M q_o (.inr (2, [.int 0, .null, .int 0]))) q_o = some (.inr (2, [.int 0, .null, .int 0])) := m_up_s
  have gX := hX.new (q := q_o) (e := .inr (2, [.int 0, .null, .int 0]))
  revert g_o g_q_n g_q_r g_q_l g_q_o gX
  generalize m_up M q_o (.inr (2, [.int 0, .null, .int 0])) = M
  intro h_o h_q_n h_q_r h_q_l h_q_o hX
  refine m_dup C dX7_init_31 rfl ?_
  refine m_callIv (ret1 := none) (As := []) (st := [.ref q_o, .ref o]) C (c_Jx4a65c_init_da8c8 D A l h_q_o) ⟨callB_of 0 C.1.2.2.2.2 gX7_init_Jx4a65c_init_da8c8 rfl rfl rfl (C.1.2.2.2.2 _ (by decide +kernel)) (C.1.2.2.2.2 _ (by decide +kernel)) (by decide +kernel) ⟨Nat.le_of_ble_eq_true rfl, Nat.le_of_ble_eq_true rfl⟩, rfl, C.1.2.2.2.2 _ (by decide +kernel)⟩ rfl rfl (Nat.le_of_ble_eq_true rfl) dX7_init_32 ⟨Nat.le_of_ble_eq_true rfl, Nat.le_of_ble_eq_true rfl⟩ (fun M9 hq9 => ?_)
  rw [hq9]
  clear hq9
  have g_o : (m_up M q_o (jLs 0 (D.2.2 0) 0)) o = some (.inr (9, [.ref q_n, .ref q_r, .null, .null, .null, .int 0, .int 0])) := (m_up_n (hne_o_q_o)).trans h_o
  have g_q_n : (m_up M q_o (jLs 0 (D.2.2 0) 0)) q_n = some (jNs D 40 (fun _ => none)) := (m_up_n (hne_q_n_q_o)).trans h_q_n
  have g_q_r : (m_up M q_o (jLs 0 (D.2.2 0) 0)) q_r = some (.inr (6, [.int 0, .null, .ref q_l, .null, .int 0, .int 0, .int (-1), .int 8, .int 0, .int 0, .null, .int 0, .int 0, .int 0, .int 0, .int 0, .long 0, .long 0, .long 0])) := (m_up_n (hne_q_r_q_o)).trans h_q_r
  have g_q_l : (m_up M q_o (jLs 0 (D.2.2 0) 0)) q_l = some (jLs 0 (D.2.2 0) 0) := (m_up_n (hne_q_l_q_o)).trans h_q_l
  have g_q_o : (m_up M q_o (jLs 0 (D.2.2 0) 0)) q_o = some (jLs 0 (D.2.2 0) 0) := m_up_s
  have gX := hX.put (a := q_o) (e := jLs 0 (D.2.2 0) 0) (by simp)
  revert g_o g_q_n g_q_r g_q_l g_q_o gX
  generalize m_up M q_o (jLs 0 (D.2.2 0) 0) = M
  intro h_o h_q_n h_q_r h_q_l h_q_o hX
  refine m_putF (ref := "PaintLayers") C h_o rfl i_X7 tyX7 tyX7_ok nmX7 2 (by decide) (by decide +kernel) (fun x h => h) rfl rfl rfl rfl rfl (Nat.le_of_ble_eq_true rfl) (e' := .inr (9, [.ref q_n, .ref q_r, .ref q_o, .null, .null, .int 0, .int 0])) rfl dX7_init_35 ?_
  have g_q_n : (m_up M o (.inr (9, [.ref q_n, .ref q_r, .ref q_o, .null, .null, .int 0, .int 0]))) q_n = some (jNs D 40 (fun _ => none)) := (m_up_n (hne_q_n_o)).trans h_q_n
  have g_q_r : (m_up M o (.inr (9, [.ref q_n, .ref q_r, .ref q_o, .null, .null, .int 0, .int 0]))) q_r = some (.inr (6, [.int 0, .null, .ref q_l, .null, .int 0, .int 0, .int (-1), .int 8, .int 0, .int 0, .null, .int 0, .int 0, .int 0, .int 0, .int 0, .long 0, .long 0, .long 0])) := (m_up_n (hne_q_r_o)).trans h_q_r
  have g_q_l : (m_up M o (.inr (9, [.ref q_n, .ref q_r, .ref q_o, .null, .null, .int 0, .int 0]))) q_l = some (jLs 0 (D.2.2 0) 0) := (m_up_n (hne_q_l_o)).trans h_q_l
  have g_q_o : (m_up M o (.inr (9, [.ref q_n, .ref q_r, .ref q_o, .null, .null, .int 0, .int 0]))) q_o = some (jLs 0 (D.2.2 0) 0) := (m_up_n (hne_q_o_o)).trans h_q_o
  have g_o : (m_up M o (.inr (9, [.ref q_n, .ref q_r, .ref q_o, .null, .null, .int 0, .int 0]))) o = some (.inr (9, [.ref q_n, .ref q_r, .ref q_o, .null, .null, .int 0, .int 0])) := m_up_s
  have gX := hX.put (a := o) (e := .inr (9, [.ref q_n, .ref q_r, .ref q_o, .null, .null, .int 0, .int 0])) (by simp)
  revert g_q_n g_q_r g_q_l g_q_o g_o gX
  generalize m_up M o (.inr (9, [.ref q_n, .ref q_r, .ref q_o, .null, .null, .int 0, .int 0])) = M
  intro h_q_n h_q_r h_q_l h_q_o h_o hX
  refine m_aload_n C dX7_init_38 rfl 0 rfl ?_
  refine m_sipush (v := 3072) C dX7_init_39 (by decide) ?_
  refine m_newI C (by decide +kernel) (N := 3072) rfl (by decide) (Nat.le_of_ble_eq_true rfl) (Nat.le_of_ble_eq_true rfl) dX7_init_42 (fun q_c hq_q_c => ?_)
  have hne_q_c_o : q_c ≠ o := fun z => by rw [z, h_o] at hq_q_c; cases hq_q_c
  have hne_o_q_c : o ≠ q_c := fun z => hne_q_c_o z.symm
  have hne_q_c_q_n : q_c ≠ q_n := fun z => by rw [z, h_q_n] at hq_q_c; cases hq_q_c
  have hne_q_n_q_c : q_n ≠ q_c := fun z => hne_q_c_q_n z.symm
  have hne_q_c_q_r : q_c ≠ q_r := fun z => by rw [z, h_q_r] at hq_q_c; cases hq_q_c
  have hne_q_r_q_c : q_r ≠ q_c := fun z => hne_q_c_q_r z.symm
  have hne_q_c_q_l : q_c ≠ q_l := fun z => by rw [z, h_q_l] at hq_q_c; cases hq_q_c
  have hne_q_l_q_c : q_l ≠ q_c := fun z => hne_q_c_q_l z.symm
  have hne_q_c_q_o : q_c ≠ q_o := fun z => by rw [z, h_q_o] at hq_q_c; cases hq_q_c
  have hne_q_o_q_c : q_o ≠ q_c := fun z => hne_q_c_q_o z.symm
  have hq0_q_c : M0 q_c = none := hX.none hq_q_c (by simp; exact ⟨fun z => (by rw [z, h_q_o] at hq_q_c; cases hq_q_c), fun z => (by rw [z, h_q_l] at hq_q_c; cases hq_q_c), fun z => (by rw [z, h_q_r] at hq_q_c; cases hq_q_c), fun z => (by rw [z, h_q_n] at hq_q_c; cases hq_q_c), fun z => (by rw [z, h_o] at hq_q_c; cases hq_q_c)⟩)
  have g_o : (m_up M q_c (jI D 3072 (fun _ => 0))) o = some (.inr (9, [.ref q_n, .ref q_r, .ref q_o, .null, .null, .int 0, .int 0])) := (m_up_n (m_neN h_o hq_q_c)).trans h_o
  have g_q_n : (m_up M q_c (jI D 3072 (fun _ => 0))) q_n = some (jNs D 40 (fun _ => none)) := (m_up_n (m_neN h_q_n hq_q_c)).trans h_q_n
  have g_q_r : (m_up M q_c (jI D 3072 (fun _ => 0))) q_r = some (.inr (6, [.int 0, .null, .ref q_l, .null, .int 0, .int 0, .int (-1), .int 8, .int 0, .int 0, .null, .int 0, .int 0, .int 0, .int 0, .int 0, .long 0, .long 0, .long 0])) := (m_up_n (m_neN h_q_r hq_q_c)).trans h_q_r
  have g_q_l : (m_up M q_c (jI D 3072 (fun _ => 0))) q_l = some (jLs 0 (D.2.2 0) 0) := (m_up_n (m_neN h_q_l hq_q_c)).trans h_q_l
  have g_q_o : (m_up M q_c (jI D 3072 (fun _ => 0))) q_o = some (jLs 0 (D.2.2 0) 0) := (m_up_n (m_neN h_q_o hq_q_c)).trans h_q_o
  have g_q_c : (m_up M q_c (jI D 3072 (fun _ => 0))) q_c = some (jI D 3072 (fun _ => 0)) := m_up_s
  have gX := hX.new (q := q_c) (e := jI D 3072 (fun _ => 0))
  revert g_o g_q_n g_q_r g_q_l g_q_o g_q_c gX
  generalize m_up M q_c (jI D 3072 (fun _ => 0)) = M
  intro h_o h_q_n h_q_r h_q_l h_q_o h_q_c hX
  refine m_putF (ref := "PaintLayers") C h_o rfl i_X7 tyX7 tyX7_ok nmX7 3 (by decide) (by decide +kernel) (fun x h => h) rfl rfl rfl rfl rfl (Nat.le_of_ble_eq_true rfl) (e' := .inr (9, [.ref q_n, .ref q_r, .ref q_o, .ref q_c, .null, .int 0, .int 0])) rfl dX7_init_44 ?_
  have g_q_n : (m_up M o (.inr (9, [.ref q_n, .ref q_r, .ref q_o, .ref q_c, .null, .int 0, .int 0]))) q_n = some (jNs D 40 (fun _ => none)) := (m_up_n (hne_q_n_o)).trans h_q_n
  have g_q_r : (m_up M o (.inr (9, [.ref q_n, .ref q_r, .ref q_o, .ref q_c, .null, .int 0, .int 0]))) q_r = some (.inr (6, [.int 0, .null, .ref q_l, .null, .int 0, .int 0, .int (-1), .int 8, .int 0, .int 0, .null, .int 0, .int 0, .int 0, .int 0, .int 0, .long 0, .long 0, .long 0])) := (m_up_n (hne_q_r_o)).trans h_q_r
  have g_q_l : (m_up M o (.inr (9, [.ref q_n, .ref q_r, .ref q_o, .ref q_c, .null, .int 0, .int 0]))) q_l = some (jLs 0 (D.2.2 0) 0) := (m_up_n (hne_q_l_o)).trans h_q_l
  have g_q_o : (m_up M o (.inr (9, [.ref q_n, .ref q_r, .ref q_o, .ref q_c, .null, .int 0, .int 0]))) q_o = some (jLs 0 (D.2.2 0) 0) := (m_up_n (hne_q_o_o)).trans h_q_o
  have g_q_c : (m_up M o (.inr (9, [.ref q_n, .ref q_r, .ref q_o, .ref q_c, .null, .int 0, .int 0]))) q_c = some (jI D 3072 (fun _ => 0)) := (m_up_n (hne_q_c_o)).trans h_q_c
  have g_o : (m_up M o (.inr (9, [.ref q_n, .ref q_r, .ref q_o, .ref q_c, .null, .int 0, .int 0]))) o = some (.inr (9, [.ref q_n, .ref q_r, .ref q_o, .ref q_c, .null, .int 0, .int 0])) := m_up_s
  have gX := hX.put (a := o) (e := .inr (9, [.ref q_n, .ref q_r, .ref q_o, .ref q_c, .null, .int 0, .int 0])) (by simp)
  revert g_q_n g_q_r g_q_l g_q_o g_q_c g_o gX
  generalize m_up M o (.inr (9, [.ref q_n, .ref q_r, .ref q_o, .ref q_c, .null, .int 0, .int 0])) = M
  intro h_q_n h_q_r h_q_l h_q_o h_q_c h_o hX
  refine m_aload_n C dX7_init_47 rfl 0 rfl ?_
  refine m_bipush (v := 64) C dX7_init_48 (by decide) ?_
  refine m_newI C (by decide +kernel) (N := 64) rfl (by decide) (Nat.le_of_ble_eq_true rfl) (Nat.le_of_ble_eq_true rfl) dX7_init_50 (fun q_w hq_q_w => ?_)
  have hne_q_w_o : q_w ≠ o := fun z => by rw [z, h_o] at hq_q_w; cases hq_q_w
  have hne_o_q_w : o ≠ q_w := fun z => hne_q_w_o z.symm
  have hne_q_w_q_n : q_w ≠ q_n := fun z => by rw [z, h_q_n] at hq_q_w; cases hq_q_w
  have hne_q_n_q_w : q_n ≠ q_w := fun z => hne_q_w_q_n z.symm
  have hne_q_w_q_r : q_w ≠ q_r := fun z => by rw [z, h_q_r] at hq_q_w; cases hq_q_w
  have hne_q_r_q_w : q_r ≠ q_w := fun z => hne_q_w_q_r z.symm
  have hne_q_w_q_l : q_w ≠ q_l := fun z => by rw [z, h_q_l] at hq_q_w; cases hq_q_w
  have hne_q_l_q_w : q_l ≠ q_w := fun z => hne_q_w_q_l z.symm
  have hne_q_w_q_o : q_w ≠ q_o := fun z => by rw [z, h_q_o] at hq_q_w; cases hq_q_w
  have hne_q_o_q_w : q_o ≠ q_w := fun z => hne_q_w_q_o z.symm
  have hne_q_w_q_c : q_w ≠ q_c := fun z => by rw [z, h_q_c] at hq_q_w; cases hq_q_w
  have hne_q_c_q_w : q_c ≠ q_w := fun z => hne_q_w_q_c z.symm
  have hq0_q_w : M0 q_w = none := hX.none hq_q_w (by simp; exact ⟨fun z => (by rw [z, h_q_c] at hq_q_w; cases hq_q_w), fun z => (by rw [z, h_q_o] at hq_q_w; cases hq_q_w), fun z => (by rw [z, h_q_l] at hq_q_w; cases hq_q_w), fun z => (by rw [z, h_q_r] at hq_q_w; cases hq_q_w), fun z => (by rw [z, h_q_n] at hq_q_w; cases hq_q_w), fun z => (by rw [z, h_o] at hq_q_w; cases hq_q_w)⟩)
  have g_o : (m_up M q_w (jI D 64 (fun _ => 0))) o = some (.inr (9, [.ref q_n, .ref q_r, .ref q_o, .ref q_c, .null, .int 0, .int 0])) := (m_up_n (m_neN h_o hq_q_w)).trans h_o
  have g_q_n : (m_up M q_w (jI D 64 (fun _ => 0))) q_n = some (jNs D 40 (fun _ => none)) := (m_up_n (m_neN h_q_n hq_q_w)).trans h_q_n
  have g_q_r : (m_up M q_w (jI D 64 (fun _ => 0))) q_r = some (.inr (6, [.int 0, .null, .ref q_l, .null, .int 0, .int 0, .int (-1), .int 8, .int 0, .int 0, .null, .int 0, .int 0, .int 0, .int 0, .int 0, .long 0, .long 0, .long 0])) := (m_up_n (m_neN h_q_r hq_q_w)).trans h_q_r
  have g_q_l : (m_up M q_w (jI D 64 (fun _ => 0))) q_l = some (jLs 0 (D.2.2 0) 0) := (m_up_n (m_neN h_q_l hq_q_w)).trans h_q_l
  have g_q_o : (m_up M q_w (jI D 64 (fun _ => 0))) q_o = some (jLs 0 (D.2.2 0) 0) := (m_up_n (m_neN h_q_o hq_q_w)).trans h_q_o
  have g_q_c : (m_up M q_w (jI D 64 (fun _ => 0))) q_c = some (jI D 3072 (fun _ => 0)) := (m_up_n (m_neN h_q_c hq_q_w)).trans h_q_c
  have g_q_w : (m_up M q_w (jI D 64 (fun _ => 0))) q_w = some (jI D 64 (fun _ => 0)) := m_up_s
  have gX := hX.new (q := q_w) (e := jI D 64 (fun _ => 0))
  revert g_o g_q_n g_q_r g_q_l g_q_o g_q_c g_q_w gX
  generalize m_up M q_w (jI D 64 (fun _ => 0)) = M
  intro h_o h_q_n h_q_r h_q_l h_q_o h_q_c h_q_w hX
  refine m_putF (ref := "PaintLayers") C h_o rfl i_X7 tyX7 tyX7_ok nmX7 4 (by decide) (by decide +kernel) (fun x h => h) rfl rfl rfl rfl rfl (Nat.le_of_ble_eq_true rfl) (e' := .inr (9, [.ref q_n, .ref q_r, .ref q_o, .ref q_c, .ref q_w, .int 0, .int 0])) rfl dX7_init_52 ?_
  have g_q_n : (m_up M o (.inr (9, [.ref q_n, .ref q_r, .ref q_o, .ref q_c, .ref q_w, .int 0, .int 0]))) q_n = some (jNs D 40 (fun _ => none)) := (m_up_n (hne_q_n_o)).trans h_q_n
  have g_q_r : (m_up M o (.inr (9, [.ref q_n, .ref q_r, .ref q_o, .ref q_c, .ref q_w, .int 0, .int 0]))) q_r = some (.inr (6, [.int 0, .null, .ref q_l, .null, .int 0, .int 0, .int (-1), .int 8, .int 0, .int 0, .null, .int 0, .int 0, .int 0, .int 0, .int 0, .long 0, .long 0, .long 0])) := (m_up_n (hne_q_r_o)).trans h_q_r
  have g_q_l : (m_up M o (.inr (9, [.ref q_n, .ref q_r, .ref q_o, .ref q_c, .ref q_w, .int 0, .int 0]))) q_l = some (jLs 0 (D.2.2 0) 0) := (m_up_n (hne_q_l_o)).trans h_q_l
  have g_q_o : (m_up M o (.inr (9, [.ref q_n, .ref q_r, .ref q_o, .ref q_c, .ref q_w, .int 0, .int 0]))) q_o = some (jLs 0 (D.2.2 0) 0) := (m_up_n (hne_q_o_o)).trans h_q_o
  have g_q_c : (m_up M o (.inr (9, [.ref q_n, .ref q_r, .ref q_o, .ref q_c, .ref q_w, .int 0, .int 0]))) q_c = some (jI D 3072 (fun _ => 0)) := (m_up_n (hne_q_c_o)).trans h_q_c
  have g_q_w : (m_up M o (.inr (9, [.ref q_n, .ref q_r, .ref q_o, .ref q_c, .ref q_w, .int 0, .int 0]))) q_w = some (jI D 64 (fun _ => 0)) := (m_up_n (hne_q_w_o)).trans h_q_w
  have g_o : (m_up M o (.inr (9, [.ref q_n, .ref q_r, .ref q_o, .ref q_c, .ref q_w, .int 0, .int 0]))) o = some (.inr (9, [.ref q_n, .ref q_r, .ref q_o, .ref q_c, .ref q_w, .int 0, .int 0])) := m_up_s
  have gX := hX.put (a := o) (e := .inr (9, [.ref q_n, .ref q_r, .ref q_o, .ref q_c, .ref q_w, .int 0, .int 0])) (by simp)
  revert g_q_n g_q_r g_q_l g_q_o g_q_c g_q_w g_o gX
  generalize m_up M o (.inr (9, [.ref q_n, .ref q_r, .ref q_o, .ref q_c, .ref q_w, .int 0, .int 0])) = M
  intro h_q_n h_q_r h_q_l h_q_o h_q_c h_q_w h_o hX
  refine m_aload_n C dX7_init_55 rfl 0 rfl ?_
  refine m_iconst (v := 1) C dX7_init_56 (by decide) ?_
  refine m_put (ref := "PaintLayers") C h_o rfl i_X7 tyX7 tyX7_ok nmX7 5 (by decide) (by decide +kernel) (fun x h => h) rfl rfl rfl (Nat.le_of_ble_eq_true rfl) (e' := .inr (9, [.ref q_n, .ref q_r, .ref q_o, .ref q_c, .ref q_w, .int 1, .int 0])) rfl dX7_init_57 ?_
  have g_q_n : (m_up M o (.inr (9, [.ref q_n, .ref q_r, .ref q_o, .ref q_c, .ref q_w, .int 1, .int 0]))) q_n = some (jNs D 40 (fun _ => none)) := (m_up_n (hne_q_n_o)).trans h_q_n
  have g_q_r : (m_up M o (.inr (9, [.ref q_n, .ref q_r, .ref q_o, .ref q_c, .ref q_w, .int 1, .int 0]))) q_r = some (.inr (6, [.int 0, .null, .ref q_l, .null, .int 0, .int 0, .int (-1), .int 8, .int 0, .int 0, .null, .int 0, .int 0, .int 0, .int 0, .int 0, .long 0, .long 0, .long 0])) := (m_up_n (hne_q_r_o)).trans h_q_r
  have g_q_l : (m_up M o (.inr (9, [.ref q_n, .ref q_r, .ref q_o, .ref q_c, .ref q_w, .int 1, .int 0]))) q_l = some (jLs 0 (D.2.2 0) 0) := (m_up_n (hne_q_l_o)).trans h_q_l
  have g_q_o : (m_up M o (.inr (9, [.ref q_n, .ref q_r, .ref q_o, .ref q_c, .ref q_w, .int 1, .int 0]))) q_o = some (jLs 0 (D.2.2 0) 0) := (m_up_n (hne_q_o_o)).trans h_q_o
  have g_q_c : (m_up M o (.inr (9, [.ref q_n, .ref q_r, .ref q_o, .ref q_c, .ref q_w, .int 1, .int 0]))) q_c = some (jI D 3072 (fun _ => 0)) := (m_up_n (hne_q_c_o)).trans h_q_c
  have g_q_w : (m_up M o (.inr (9, [.ref q_n, .ref q_r, .ref q_o, .ref q_c, .ref q_w, .int 1, .int 0]))) q_w = some (jI D 64 (fun _ => 0)) := (m_up_n (hne_q_w_o)).trans h_q_w
  have g_o : (m_up M o (.inr (9, [.ref q_n, .ref q_r, .ref q_o, .ref q_c, .ref q_w, .int 1, .int 0]))) o = some (.inr (9, [.ref q_n, .ref q_r, .ref q_o, .ref q_c, .ref q_w, .int 1, .int 0])) := m_up_s
  have gX := hX.put (a := o) (e := .inr (9, [.ref q_n, .ref q_r, .ref q_o, .ref q_c, .ref q_w, .int 1, .int 0])) (by simp)
  revert g_q_n g_q_r g_q_l g_q_o g_q_c g_q_w g_o gX
  generalize m_up M o (.inr (9, [.ref q_n, .ref q_r, .ref q_o, .ref q_c, .ref q_w, .int 1, .int 0])) = M
  intro h_q_n h_q_r h_q_l h_q_o h_q_c h_q_w h_o hX
  refine m_aload_n C dX7_init_60 rfl 0 rfl ?_
  refine m_iconst (v := 0) C dX7_init_61 (by decide) ?_
  refine m_put (ref := "PaintLayers") C h_o rfl i_X7 tyX7 tyX7_ok nmX7 6 (by decide) (by decide +kernel) (fun x h => h) rfl rfl rfl (Nat.le_of_ble_eq_true rfl) (e' := .inr (9, [.ref q_n, .ref q_r, .ref q_o, .ref q_c, .ref q_w, .int 1, .int 0])) rfl dX7_init_62 ?_
  have g_q_n : (m_up M o (.inr (9, [.ref q_n, .ref q_r, .ref q_o, .ref q_c, .ref q_w, .int 1, .int 0]))) q_n = some (jNs D 40 (fun _ => none)) := (m_up_n (hne_q_n_o)).trans h_q_n
  have g_q_r : (m_up M o (.inr (9, [.ref q_n, .ref q_r, .ref q_o, .ref q_c, .ref q_w, .int 1, .int 0]))) q_r = some (.inr (6, [.int 0, .null, .ref q_l, .null, .int 0, .int 0, .int (-1), .int 8, .int 0, .int 0, .null, .int 0, .int 0, .int 0, .int 0, .int 0, .long 0, .long 0, .long 0])) := (m_up_n (hne_q_r_o)).trans h_q_r
  have g_q_l : (m_up M o (.inr (9, [.ref q_n, .ref q_r, .ref q_o, .ref q_c, .ref q_w, .int 1, .int 0]))) q_l = some (jLs 0 (D.2.2 0) 0) := (m_up_n (hne_q_l_o)).trans h_q_l
  have g_q_o : (m_up M o (.inr (9, [.ref q_n, .ref q_r, .ref q_o, .ref q_c, .ref q_w, .int 1, .int 0]))) q_o = some (jLs 0 (D.2.2 0) 0) := (m_up_n (hne_q_o_o)).trans h_q_o
  have g_q_c : (m_up M o (.inr (9, [.ref q_n, .ref q_r, .ref q_o, .ref q_c, .ref q_w, .int 1, .int 0]))) q_c = some (jI D 3072 (fun _ => 0)) := (m_up_n (hne_q_c_o)).trans h_q_c
  have g_q_w : (m_up M o (.inr (9, [.ref q_n, .ref q_r, .ref q_o, .ref q_c, .ref q_w, .int 1, .int 0]))) q_w = some (jI D 64 (fun _ => 0)) := (m_up_n (hne_q_w_o)).trans h_q_w
  have g_o : (m_up M o (.inr (9, [.ref q_n, .ref q_r, .ref q_o, .ref q_c, .ref q_w, .int 1, .int 0]))) o = some (.inr (9, [.ref q_n, .ref q_r, .ref q_o, .ref q_c, .ref q_w, .int 1, .int 0])) := m_up_s
  have gX := hX.put (a := o) (e := .inr (9, [.ref q_n, .ref q_r, .ref q_o, .ref q_c, .ref q_w, .int 1, .int 0])) (by simp)
  revert g_q_n g_q_r g_q_l g_q_o g_q_c g_q_w g_o gX
  generalize m_up M o (.inr (9, [.ref q_n, .ref q_r, .ref q_o, .ref q_c, .ref q_w, .int 1, .int 0])) = M
  intro h_q_n h_q_r h_q_l h_q_o h_q_c h_q_w h_o hX
  refine m_aload_n C dX7_init_65 rfl 0 rfl ?_
  refine m_get (ref := "PaintLayers") C h_o rfl i_X7 0 (by decide) (by decide +kernel) (fun x h => h) (v := .ref q_n) rfl dX7_init_66 ?_
  refine m_iconst (v := 0) C dX7_init_69 (by decide) ?_
  refine m_aload_n C dX7_init_70 rfl 0 rfl ?_
  refine m_get (ref := "PaintLayers") C h_o rfl i_X7 1 (by decide) (by decide +kernel) (fun x h => h) (v := .ref q_r) rfl dX7_init_71 ?_
  refine m_aastS C h_q_n 2 (r := (RX3, TX3, 19)) rfl h_q_r rfl (vp_in_nI (n := 0) (by decide) (by decide)) dX7_init_74 ?_
  rw [show (0 : Int32).toNatClampNeg = 0 from rfl]
  have g_o : (m_up M q_n (jNs D 40 (va_up (fun _ => none) 0 (some q_r)))) o = some (.inr (9, [.ref q_n, .ref q_r, .ref q_o, .ref q_c, .ref q_w, .int 1, .int 0])) := (m_up_n (hne_o_q_n)).trans h_o
  have g_q_r : (m_up M q_n (jNs D 40 (va_up (fun _ => none) 0 (some q_r)))) q_r = some (.inr (6, [.int 0, .null, .ref q_l, .null, .int 0, .int 0, .int (-1), .int 8, .int 0, .int 0, .null, .int 0, .int 0, .int 0, .int 0, .int 0, .long 0, .long 0, .long 0])) := (m_up_n (hne_q_r_q_n)).trans h_q_r
  have g_q_l : (m_up M q_n (jNs D 40 (va_up (fun _ => none) 0 (some q_r)))) q_l = some (jLs 0 (D.2.2 0) 0) := (m_up_n (hne_q_l_q_n)).trans h_q_l
  have g_q_o : (m_up M q_n (jNs D 40 (va_up (fun _ => none) 0 (some q_r)))) q_o = some (jLs 0 (D.2.2 0) 0) := (m_up_n (hne_q_o_q_n)).trans h_q_o
  have g_q_c : (m_up M q_n (jNs D 40 (va_up (fun _ => none) 0 (some q_r)))) q_c = some (jI D 3072 (fun _ => 0)) := (m_up_n (hne_q_c_q_n)).trans h_q_c
  have g_q_w : (m_up M q_n (jNs D 40 (va_up (fun _ => none) 0 (some q_r)))) q_w = some (jI D 64 (fun _ => 0)) := (m_up_n (hne_q_w_q_n)).trans h_q_w
  have g_q_n : (m_up M q_n (jNs D 40 (va_up (fun _ => none) 0 (some q_r)))) q_n = some (jNs D 40 (va_up (fun _ => none) 0 (some q_r))) := m_up_s
  have gX := hX.put (a := q_n) (e := jNs D 40 (va_up (fun _ => none) 0 (some q_r))) (by simp)
  revert g_o g_q_r g_q_l g_q_o g_q_c g_q_w g_q_n gX
  generalize m_up M q_n (jNs D 40 (va_up (fun _ => none) 0 (some q_r))) = M
  intro h_o h_q_r h_q_l h_q_o h_q_c h_q_w h_q_n hX
  refine m_aload_n C dX7_init_75 rfl 0 rfl ?_
  obtain ⟨Z, eZ⟩ : ∃ z : Nat → Nat, z = fun k => if k = 0 then o else if k = 1 then q_n else if k = 2 then q_c else if k = 3 then q_w else if k = 100 then q_r else if k = 200 then q_l else if k = 240 then q_o else 0 := ⟨_, rfl⟩
  have z0 : Z 0 = o := by rw [eZ]; rfl
  have z1 : Z 1 = q_n := by rw [eZ]; rfl
  have z2 : Z 2 = q_c := by rw [eZ]; rfl
  have z3 : Z 3 = q_w := by rw [eZ]; rfl
  have z100 : Z 100 = q_r := by rw [eZ]; rfl
  have z200 : Z 200 = q_l := by rw [eZ]; rfl
  have z240 : Z 240 = q_o := by rw [eZ]; rfl
  clear eZ
  have hCW : cW D Z (cP q_ar0 1) (nF Z q_ar0 (fun _ _ => 0) (fun _ _ => 0)) (lsF q_ar0 []) (naF Z 1 q_ar0) (q_ar0 16) (fun _ => 0) (mfF Z 1 0) F M := by
    have hna : naF Z 1 q_ar0 = va_up (fun _ => none) 0 (some q_r) := by
      funext n
      unfold naF va_up
      by_cases h : n = 0
      · rw [if_pos h, h, if_pos ⟨by decide, by decide⟩, z100]
      · rw [if_neg h, if_neg (fun y => h (by omega))]
    have hk0 : kids q_ar0 0 = [] := rfl
    have hQ : ∀ i, cQ (cP q_ar0 1) i → (i = 40 ∨ i = 0) := fun i hi => hi.elim Or.inl (fun z => Or.inr (cP_0.mp z))
    have hls : ∀ i, cQ (cP q_ar0 1) i → lsF q_ar0 [] i = [] := fun i hi => by
      rcases hQ i hi with z | z
      · rw [z]; rfl
      · rw [z]; rfl
    refine ⟨fun _ => D.2.2 0, fun _ => 0, fun _ _ => none, fun _ => 0, ⟨?_, by rw [z1, hna]; exact h_q_n, by rw [z2]; exact h_q_c, by rw [z3]; exact h_q_w⟩, fun n hn => ?_, fun i hi => ?_, ⟨fun n m hn hm _ => by rw [cP_0.mp hn, cP_0.mp hm], fun i j hi hj e => ?_, fun i j _ _ c => absurd c (Nat.lt_irrefl 0), fun i _ c => absurd c (Nat.lt_irrefl 0)⟩, fun a x hx => ?_⟩
    · unfold mfF; rw [z0, z1, z100, z240, z2, z3]; exact h_o
    · rw [cP_0.mp hn]
      have e : nF Z q_ar0 (fun _ _ => 0) (fun _ _ => 0) 0 = [.int 0, .null, .ref q_l, .null, .int 0, .int 0, .int (-1), .int 8, .int 0, .int 0, .null, .int 0, .int 0, .int 0, .int 0, .int 0, .long 0, .long 0, .long 0] := by
        unfold nF
        rw [show 200 + 0 = 200 from rfl, z200]
        rfl
      rw [e, show 100 + 0 = 100 from rfl, z100]
      exact h_q_r
    · rw [hls i hi]
      refine ⟨⟨?_, Or.inl ⟨rfl, rfl⟩, Nat.le_refl _, fun k hk => absurd hk (Nat.not_lt_zero k)⟩, fun n hn => absurd hn List.not_mem_nil⟩
      rcases hQ i hi with z | z
      · rw [z, show 200 + 40 = 240 from rfl, z240]; exact h_q_o
      · rw [z, show 200 + 0 = 200 from rfl, z200]; exact h_q_l
    · rcases hQ i hi with z | z <;> rcases hQ j hj with y | y <;> rw [z, y] at e ⊢
      · rw [show 200 + 40 = 240 from rfl, show 200 + 0 = 200 from rfl, z240, z200] at e; exact absurd e hne_q_o_q_l
      · rw [show 200 + 40 = 240 from rfl, show 200 + 0 = 200 from rfl, z240, z200] at e; exact absurd e hne_q_l_q_o
    · obtain ⟨f1, f2⟩ := hF a x hx
      have n_q_n : a ≠ q_n := m_neN f1 hq0_q_n
      have n_q_r : a ≠ q_r := m_neN f1 hq0_q_r
      have n_q_l : a ≠ q_l := m_neN f1 hq0_q_l
      have n_q_o : a ≠ q_o := m_neN f1 hq0_q_o
      have n_q_c : a ≠ q_c := m_neN f1 hq0_q_c
      have n_q_w : a ≠ q_w := m_neN f1 hq0_q_w
      refine ⟨(hX a (by simp; exact ⟨n_q_w, n_q_c, n_q_o, n_q_l, n_q_r, n_q_n, f2⟩)).trans f1, ⟨by rw [z0]; exact f2, by rw [z1]; exact n_q_n, by rw [z2]; exact n_q_c, by rw [z3]; exact n_q_w⟩, fun n hn => ?_, fun i hi => ⟨?_, fun c => absurd c (Nat.lt_irrefl 0)⟩⟩
      · rw [cP_0.mp hn, show 100 + 0 = 100 from rfl, z100]; exact n_q_r
      · rcases hQ i hi with z | z
        · rw [z, show 200 + 40 = 240 from rfl, z240]; exact n_q_o
        · rw [z, show 200 + 0 = 200 from rfl, z200]; exact n_q_l
  have hsf : ∀ n, cP q_ar0 1 n → sFx Z q_ar0 n F := fun n hn => by
    rw [cP_0.mp hn]
    exact ⟨fun z => absurd z (by decide), fun z => absurd z (by decide), fun z => absurd z (by decide), fun z => absurd z (by decide)⟩
  have hR0 : cR D Z F 1 0 q_ar0 (fun _ _ => 0) (fun _ => 0) M := cS.toR ⟨hCW, hsf⟩ (by decide)
  have hset := c_X7_settle D A l wf_0 hR0
  rw [z0] at hset
  refine m_callVv (As := []) (st := []) C h_o rfl hset (cwV 0 C.1.2.2.2.2 gX7_init_X7_settle rfl rfl rfl (by decide +kernel) ⟨Nat.le_of_ble_eq_true rfl, Nat.le_of_ble_eq_true rfl⟩) rfl rfl (Nat.le_of_ble_eq_true rfl) dX7_init_76 ⟨Nat.le_of_ble_eq_true rfl, Nat.le_of_ble_eq_true rfl⟩ (fun M9 hq9 => ?_)
  obtain ⟨fi9, hfv9, hR9⟩ := hq9
  exact m_vret C (Nat.le_of_ble_eq_true rfl) (Nat.le_of_ble_eq_true rfl) dX7_init_79 (⟨Z, z0, fi9, _, _, hfv9, hR9⟩)

