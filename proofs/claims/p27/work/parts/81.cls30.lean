/-! ===== the class: its public methods, second part ===== -/
set_option maxHeartbeats 4000000 in
set_option maxRecDepth 100000 in
theorem c_X7_place (D : mD) (A : Nat → Prop) (l : Launch) (hst : l.stackTraces = false) {Z : Nat → Nat} {F : Mm} {cm : Nat} {g : Int32} {ar : rA} {M : Mm} (hI : cI D Z F cm g ar M) (hw : wf ar cm) (hb : BD ar cm) {v dx dy : Int32} : mXi D A l yX7_place wsX7_place ({ frames := 9, cells := 44, slots := 2430, locals := 700 } : Room) [.ref (Z 0), .int v, .int dx, .int dy] M (fun r M' => k_place cm ar v dx dy = 0 ∧ r = ar 8 (jN v) ∧ cI D Z F cm g (s_place ar v dx dy) M') (fun E M' => cI D Z F cm g ar M' ∧ ((k_place cm ar v dx dy = 1 ∧ E = xIO) ∨ (k_place cm ar v dx dy = 2 ∧ E = xIA))) 44 2430 := by
  refine m_startX (cc := cX7_place) (maxL := 6) (ret := (some .int)) (by decide) rfl (Nat.le_of_ble_eq_true rfl) ?_
  intro p e s m args below meth c C hE
  have i_X7 : ∀ w ∈ wsX70, w ∈ wsX7_place := by decide +kernel
  have i_X3 : ∀ w ∈ wsX30, w ∈ wsX7_place := by decide +kernel
  have iL : ∀ w ∈ wsJx4a65c0, w ∈ wsX7_place := by decide +kernel
  refine m_sub (L' := [(0, .ref (Z 0)), (1, .int v), (2, .int dx), (3, .int dy)]) [0, 1, 2, 3] rfl ?_
  have hcm := hw.1.2
  have hI9 := hI
  obtain ⟨fi, nl, rw, hfv, hR⟩ := hI9
  refine m_aload_n C dX7_place_0 rfl 0 rfl ?_
  refine m_iload_n C dX7_place_1 rfl 1 rfl ?_
  refine m_callVXq (As := [.int v]) (st := []) C hR.me rfl (c_X7_find D A l hst hR hcm) (cwV 1 C.1.2.2.2.2 gX7_place_X7_find rfl rfl rfl (by decide +kernel) ⟨Nat.le_of_ble_eq_true rfl, Nat.le_of_ble_eq_true rfl⟩) rfl rfl (Nat.le_of_ble_eq_true rfl) dX7_place_2 ⟨Nat.le_of_ble_eq_true rfl, Nat.le_of_ble_eq_true rfl⟩ hE (fun E M9 z9 => ⟨by rw [z9.2.1]; exact hI, Or.inl (⟨by unfold k_place; rw [z9.2.2]; rfl, z9.1⟩)⟩) (Nat.le_of_ble_eq_true rfl) (Nat.le_of_ble_eq_true rfl) (fun r9 M9 hq9 => ?_)
  obtain ⟨e9, j, rfl, hj, rfl⟩ := hq9
  subst e9
  rename Mm => M
  have qj := q_node_t hcm hj
  have cj : jN (nI j) = j := nI_clamp (by have := hj.1; omega)
  refine m_astore (L' := [(4, .ref (Z (100 + j))), (0, .ref (Z 0)), (1, .int (nI j)), (2, .int dx), (3, .int dy)]) C dX7_place_5 (by decide) rfl ?_
  refine m_iload_n C dX7_place_7 rfl 3 rfl ?_
  refine m_iload_n C dX7_place_8 rfl 4 rfl ?_
  refine m_callSXv (As := [.int dx, .int dy]) (st := []) C (c_X7_checkPoint D A l hst) (va_cwS 2 C.1.2.2.2.2 gX7_place_X7_checkPoint rfl rfl rfl (by decide +kernel) ⟨Nat.le_of_ble_eq_true rfl, Nat.le_of_ble_eq_true rfl⟩) rfl rfl (Nat.le_of_ble_eq_true rfl) dX7_place_9 ⟨Nat.le_of_ble_eq_true rfl, Nat.le_of_ble_eq_true rfl⟩ hE (fun E M9 z9 => ⟨by rw [z9.2.1]; exact hI, Or.inr (⟨by unfold k_place; rw [qj, ← Bool.not_not (q_far dx || q_far dy), ← okP_far, z9.2.2]; rfl, z9.1⟩)⟩) (Nat.le_of_ble_eq_true rfl) (Nat.le_of_ble_eq_true rfl) (fun M9 hq9 => ?_)
  obtain ⟨e9, hok⟩ := hq9
  subst e9
  rename Mm => M
  have hk0 : k_place cm ar (nI j) dx dy = 0 := by unfold k_place; rw [qj, ← Bool.not_not (q_far dx || q_far dy), ← okP_far, hok]; rfl
  refine m_aload C dX7_place_12 0 rfl ?_
  refine m_get (ref := "PaintLayers$Node") C (hR.nd hj) rfl i_X3 4 (by decide) (by decide +kernel) (fun x h => h) (v := .int (ar 8 j)) rfl dX7_place_14 ?_
  refine m_istore (L' := [(5, .int (ar 8 j)), (4, .ref (Z (100 + j))), (0, .ref (Z 0)), (1, .int (nI j)), (2, .int dx), (3, .int dy)]) C dX7_place_17 (by decide) rfl ?_
  refine m_aload C dX7_place_19 1 rfl ?_
  refine m_iload_n C dX7_place_21 rfl 4 rfl ?_
  refine m_put (ref := "PaintLayers$Node") C (hR.nd hj) rfl i_X3 tyX3 tyX3_ok nmX3 4 (by decide) (by decide +kernel) (fun x h => h) rfl rfl rfl (Nat.le_of_ble_eq_true rfl) (e' := .inr (6, (nF Z ar fi nl j).set 4 (.int dx))) rfl dX7_place_22 ?_
  have hR9 := hR.s8 hj dx
  revert hR9
  generalize m_up M _ _ = M
  intro hR
  obtain ⟨ar1, ear1⟩ : ∃ z : rA, z = upA ar 8 (upd (ar 8) j dx) := ⟨_, rfl⟩
  rw [← ear1] at hR
  have hj_ar1 : cP ar1 cm j := by rw [ear1]; exact hj
  have hw_ar1 : wf ar1 cm := by rw [ear1]; exact wf_s8 hw hj.1 dx
  refine m_aload C dX7_place_25 1 rfl ?_
  refine m_iload_n C dX7_place_27 rfl 5 rfl ?_
  refine m_put (ref := "PaintLayers$Node") C (hR.nd hj_ar1) rfl i_X3 tyX3 tyX3_ok nmX3 5 (by decide) (by decide +kernel) (fun x h => h) rfl rfl rfl (Nat.le_of_ble_eq_true rfl) (e' := .inr (6, (nF Z ar1 fi nl j).set 5 (.int dy))) rfl dX7_place_28 ?_
  have hR9 := hR.s9 hj_ar1 dy
  revert hR9
  generalize m_up M _ _ = M
  intro hR
  obtain ⟨ar2, ear2⟩ : ∃ z : rA, z = upA ar1 9 (upd (ar1 9) j dy) := ⟨_, rfl⟩
  rw [← ear2] at hR
  have hj_ar2 : cP ar2 cm j := by rw [ear2]; exact hj_ar1
  have hw_ar2 : wf ar2 cm := by rw [ear2]; exact wf_s9 hw_ar1 hj_ar1.1 dy
  refine m_aload_n C dX7_place_31 rfl 2 rfl ?_
  refine m_callVv (As := []) (st := []) C hR.me rfl (c_X7_settle D A l hw_ar2 (hR.toR hcm)) (cwV 0 C.1.2.2.2.2 gX7_place_X7_settle rfl rfl rfl (by decide +kernel) ⟨Nat.le_of_ble_eq_true rfl, Nat.le_of_ble_eq_true rfl⟩) rfl rfl (Nat.le_of_ble_eq_true rfl) dX7_place_32 ⟨Nat.le_of_ble_eq_true rfl, Nat.le_of_ble_eq_true rfl⟩ (fun M9 hq9 => ?_)
  obtain ⟨fi9, hfv9, hR9⟩ := hq9
  refine m_iload C dX7_place_35 0 rfl ?_
  exact m_iretX C (Nat.le_of_ble_eq_true rfl) (Nat.le_of_ble_eq_true rfl) dX7_place_37 (⟨hk0, by rw [cj], by have e9 : ar2 = s_place ar (nI j) dx dy := by { rw [ear2, ear1]; unfold s_place; rw [cj]; try rfl }; rw [← e9]; exact ⟨fi9, nl, rw, hfv9, hR9⟩⟩)
set_option maxHeartbeats 4000000 in
set_option maxRecDepth 100000 in
theorem c_X7_setFill (D : mD) (A : Nat → Prop) (l : Launch) (hst : l.stackTraces = false) {Z : Nat → Nat} {F : Mm} {cm : Nat} {g : Int32} {ar : rA} {M : Mm} (hI : cI D Z F cm g ar M) (hw : wf ar cm) (hb : BD ar cm) {v f : Int32} : mXi D A l yX7_setFill wsX7_setFill ({ frames := 9, cells := 43, slots := 2420, locals := 700 } : Room) [.ref (Z 0), .int v, .int f] M (fun r M' => k_setFill cm ar v f = 0 ∧ r = ar 10 (jN v) ∧ cI D Z F cm g (s_setFill ar v f) M') (fun E M' => cI D Z F cm g ar M' ∧ ((k_setFill cm ar v f = 1 ∧ E = xIO) ∨ (k_setFill cm ar v f = 2 ∧ E = xIA))) 43 2420 := by
  refine m_startX (cc := cX7_setFill) (maxL := 5) (ret := (some .int)) (by decide) rfl (Nat.le_of_ble_eq_true rfl) ?_
  intro p e s m args below meth c C hE
  have i_X7 : ∀ w ∈ wsX70, w ∈ wsX7_setFill := by decide +kernel
  have i_X3 : ∀ w ∈ wsX30, w ∈ wsX7_setFill := by decide +kernel
  have iL : ∀ w ∈ wsJx4a65c0, w ∈ wsX7_setFill := by decide +kernel
  refine m_sub (L' := [(0, .ref (Z 0)), (1, .int v), (2, .int f)]) [0, 1, 2] rfl ?_
  have hcm := hw.1.2
  have hI9 := hI
  obtain ⟨fi, nl, rw, hfv, hR⟩ := hI9
  refine m_aload_n C dX7_setFill_0 rfl 0 rfl ?_
  refine m_iload_n C dX7_setFill_1 rfl 1 rfl ?_
  refine m_callVXq (As := [.int v]) (st := []) C hR.me rfl (c_X7_find D A l hst hR hcm) (cwV 1 C.1.2.2.2.2 gX7_setFill_X7_find rfl rfl rfl (by decide +kernel) ⟨Nat.le_of_ble_eq_true rfl, Nat.le_of_ble_eq_true rfl⟩) rfl rfl (Nat.le_of_ble_eq_true rfl) dX7_setFill_2 ⟨Nat.le_of_ble_eq_true rfl, Nat.le_of_ble_eq_true rfl⟩ hE (fun E M9 z9 => ⟨by rw [z9.2.1]; exact hI, Or.inl (⟨by unfold k_setFill; rw [z9.2.2]; rfl, z9.1⟩)⟩) (Nat.le_of_ble_eq_true rfl) (Nat.le_of_ble_eq_true rfl) (fun r9 M9 hq9 => ?_)
  obtain ⟨e9, j, rfl, hj, rfl⟩ := hq9
  subst e9
  rename Mm => M
  have qj := q_node_t hcm hj
  have cj : jN (nI j) = j := nI_clamp (by have := hj.1; omega)
  refine m_astore_n (L' := [(3, .ref (Z (100 + j))), (0, .ref (Z 0)), (1, .int (nI j)), (2, .int f)]) C dX7_setFill_5 rfl (by decide) rfl ?_
  refine m_iload_n C dX7_setFill_6 rfl 3 rfl ?_
  refine m_iconst (v := (-1)) C dX7_setFill_7 (by decide) ?_
  refine m_sipush (v := 255) C dX7_setFill_8 (by decide) ?_
  refine m_callSXv (As := [.int f, .int ((-1)), .int 255]) (st := []) C (c_X7_checkRange D A l hst) (va_cwS 3 C.1.2.2.2.2 gX7_setFill_X7_checkRange rfl rfl rfl (by decide +kernel) ⟨Nat.le_of_ble_eq_true rfl, Nat.le_of_ble_eq_true rfl⟩) rfl rfl (Nat.le_of_ble_eq_true rfl) dX7_setFill_11 ⟨Nat.le_of_ble_eq_true rfl, Nat.le_of_ble_eq_true rfl⟩ hE (fun E M9 z9 => ⟨by rw [z9.2.1]; exact hI, Or.inr (⟨by unfold k_setFill; rw [qj, ← okR_in, z9.2.2]; rfl, z9.1⟩)⟩) (Nat.le_of_ble_eq_true rfl) (Nat.le_of_ble_eq_true rfl) (fun M9 hq9 => ?_)
  obtain ⟨e9, hok⟩ := hq9
  subst e9
  rename Mm => M
  have hk0 : k_setFill cm ar (nI j) f = 0 := by unfold k_setFill; rw [qj, ← okR_in, hok]; rfl
  refine m_aload_n C dX7_setFill_14 rfl 0 rfl ?_
  refine m_get (ref := "PaintLayers$Node") C (hR.nd hj) rfl i_X3 6 (by decide) (by decide +kernel) (fun x h => h) (v := .int (ar 10 j)) rfl dX7_setFill_15 ?_
  refine m_istore (L' := [(4, .int (ar 10 j)), (3, .ref (Z (100 + j))), (0, .ref (Z 0)), (1, .int (nI j)), (2, .int f)]) C dX7_setFill_18 (by decide) rfl ?_
  refine m_aload_n C dX7_setFill_20 rfl 1 rfl ?_
  refine m_iload_n C dX7_setFill_21 rfl 4 rfl ?_
  refine m_put (ref := "PaintLayers$Node") C (hR.nd hj) rfl i_X3 tyX3 tyX3_ok nmX3 6 (by decide) (by decide +kernel) (fun x h => h) rfl rfl rfl (Nat.le_of_ble_eq_true rfl) (e' := .inr (6, (nF Z ar fi nl j).set 6 (.int f))) rfl dX7_setFill_22 ?_
  have hR9 := hR.s10 hj f
  revert hR9
  generalize m_up M _ _ = M
  intro hR
  obtain ⟨ar1, ear1⟩ : ∃ z : rA, z = upA ar 10 (upd (ar 10) j f) := ⟨_, rfl⟩
  rw [← ear1] at hR
  have hj_ar1 : cP ar1 cm j := by rw [ear1]; exact hj
  have hw_ar1 : wf ar1 cm := by rw [ear1]; exact wf_s10 hw f
  refine m_aload_n C dX7_setFill_25 rfl 2 rfl ?_
  refine m_callVv (As := []) (st := []) C hR.me rfl (c_X7_settle D A l hw_ar1 (hR.toR hcm)) (cwV 0 C.1.2.2.2.2 gX7_setFill_X7_settle rfl rfl rfl (by decide +kernel) ⟨Nat.le_of_ble_eq_true rfl, Nat.le_of_ble_eq_true rfl⟩) rfl rfl (Nat.le_of_ble_eq_true rfl) dX7_setFill_26 ⟨Nat.le_of_ble_eq_true rfl, Nat.le_of_ble_eq_true rfl⟩ (fun M9 hq9 => ?_)
  obtain ⟨fi9, hfv9, hR9⟩ := hq9
  refine m_iload C dX7_setFill_29 0 rfl ?_
  exact m_iretX C (Nat.le_of_ble_eq_true rfl) (Nat.le_of_ble_eq_true rfl) dX7_setFill_31 (⟨hk0, by rw [cj], by have e9 : ar1 = s_setFill ar (nI j) f := by { rw [ear1]; unfold s_setFill; rw [cj]; try rfl }; rw [← e9]; exact ⟨fi9, nl, rw, hfv9, hR9⟩⟩)
set_option maxHeartbeats 4000000 in
set_option maxRecDepth 100000 in
theorem c_X7_setOpacity (D : mD) (A : Nat → Prop) (l : Launch) (hst : l.stackTraces = false) {Z : Nat → Nat} {F : Mm} {cm : Nat} {g : Int32} {ar : rA} {M : Mm} (hI : cI D Z F cm g ar M) (hw : wf ar cm) (hb : BD ar cm) {v f : Int32} {h : Bool} : mXi D A l yX7_setOpacity wsX7_setOpacity ({ frames := 9, cells := 43, slots := 2420, locals := 700 } : Room) [.ref (Z 0), .int v, .int f, .int (bI h)] M (fun r M' => k_setOpacity cm ar v f = 0 ∧ r = ar 11 (jN v) ∧ cI D Z F cm g (s_setOpacity ar v f h) M') (fun E M' => cI D Z F cm g ar M' ∧ ((k_setOpacity cm ar v f = 1 ∧ E = xIO) ∨ (k_setOpacity cm ar v f = 2 ∧ E = xIA))) 43 2420 := by
  refine m_startX (cc := cX7_setOpacity) (maxL := 6) (ret := (some .int)) (by decide) rfl (Nat.le_of_ble_eq_true rfl) ?_
  intro p e s m args below meth c C hE
  have i_X7 : ∀ w ∈ wsX70, w ∈ wsX7_setOpacity := by decide +kernel
  have i_X3 : ∀ w ∈ wsX30, w ∈ wsX7_setOpacity := by decide +kernel
  have iL : ∀ w ∈ wsJx4a65c0, w ∈ wsX7_setOpacity := by decide +kernel
  refine m_sub (L' := [(0, .ref (Z 0)), (1, .int v), (2, .int f), (3, .int (bI h))]) [0, 1, 2, 3] rfl ?_
  have hcm := hw.1.2
  have hI9 := hI
  obtain ⟨fi, nl, rw, hfv, hR⟩ := hI9
  refine m_aload_n C dX7_setOpacity_0 rfl 0 rfl ?_
  refine m_iload_n C dX7_setOpacity_1 rfl 1 rfl ?_
  refine m_callVXq (As := [.int v]) (st := []) C hR.me rfl (c_X7_find D A l hst hR hcm) (cwV 1 C.1.2.2.2.2 gX7_setOpacity_X7_find rfl rfl rfl (by decide +kernel) ⟨Nat.le_of_ble_eq_true rfl, Nat.le_of_ble_eq_true rfl⟩) rfl rfl (Nat.le_of_ble_eq_true rfl) dX7_setOpacity_2 ⟨Nat.le_of_ble_eq_true rfl, Nat.le_of_ble_eq_true rfl⟩ hE (fun E M9 z9 => ⟨by rw [z9.2.1]; exact hI, Or.inl (⟨by unfold k_setOpacity; rw [z9.2.2]; rfl, z9.1⟩)⟩) (Nat.le_of_ble_eq_true rfl) (Nat.le_of_ble_eq_true rfl) (fun r9 M9 hq9 => ?_)
  obtain ⟨e9, j, rfl, hj, rfl⟩ := hq9
  subst e9
  rename Mm => M
  have qj := q_node_t hcm hj
  have cj : jN (nI j) = j := nI_clamp (by have := hj.1; omega)
  refine m_astore (L' := [(4, .ref (Z (100 + j))), (0, .ref (Z 0)), (1, .int (nI j)), (2, .int f), (3, .int (bI h))]) C dX7_setOpacity_5 (by decide) rfl ?_
  refine m_iload_n C dX7_setOpacity_7 rfl 3 rfl ?_
  refine m_iconst (v := 0) C dX7_setOpacity_8 (by decide) ?_
  refine m_bipush (v := 8) C dX7_setOpacity_9 (by decide) ?_
  refine m_callSXv (As := [.int f, .int 0, .int 8]) (st := []) C (c_X7_checkRange D A l hst) (va_cwS 3 C.1.2.2.2.2 gX7_setOpacity_X7_checkRange rfl rfl rfl (by decide +kernel) ⟨Nat.le_of_ble_eq_true rfl, Nat.le_of_ble_eq_true rfl⟩) rfl rfl (Nat.le_of_ble_eq_true rfl) dX7_setOpacity_11 ⟨Nat.le_of_ble_eq_true rfl, Nat.le_of_ble_eq_true rfl⟩ hE (fun E M9 z9 => ⟨by rw [z9.2.1]; exact hI, Or.inr (⟨by unfold k_setOpacity; rw [qj, ← okR_in, z9.2.2]; rfl, z9.1⟩)⟩) (Nat.le_of_ble_eq_true rfl) (Nat.le_of_ble_eq_true rfl) (fun M9 hq9 => ?_)
  obtain ⟨e9, hok⟩ := hq9
  subst e9
  rename Mm => M
  have hk0 : k_setOpacity cm ar (nI j) f = 0 := by unfold k_setOpacity; rw [qj, ← okR_in, hok]; rfl
  refine m_aload C dX7_setOpacity_14 0 rfl ?_
  refine m_get (ref := "PaintLayers$Node") C (hR.nd hj) rfl i_X3 7 (by decide) (by decide +kernel) (fun x h => h) (v := .int (ar 11 j)) rfl dX7_setOpacity_16 ?_
  refine m_istore (L' := [(5, .int (ar 11 j)), (4, .ref (Z (100 + j))), (0, .ref (Z 0)), (1, .int (nI j)), (2, .int f), (3, .int (bI h))]) C dX7_setOpacity_19 (by decide) rfl ?_
  refine m_aload C dX7_setOpacity_21 1 rfl ?_
  refine m_iload_n C dX7_setOpacity_23 rfl 4 rfl ?_
  refine m_put (ref := "PaintLayers$Node") C (hR.nd hj) rfl i_X3 tyX3 tyX3_ok nmX3 7 (by decide) (by decide +kernel) (fun x h => h) rfl rfl rfl (Nat.le_of_ble_eq_true rfl) (e' := .inr (6, (nF Z ar fi nl j).set 7 (.int f))) rfl dX7_setOpacity_24 ?_
  have hR9 := hR.s11 hj f
  revert hR9
  generalize m_up M _ _ = M
  intro hR
  obtain ⟨ar1, ear1⟩ : ∃ z : rA, z = upA ar 11 (upd (ar 11) j f) := ⟨_, rfl⟩
  rw [← ear1] at hR
  have hj_ar1 : cP ar1 cm j := by rw [ear1]; exact hj
  have hw_ar1 : wf ar1 cm := by rw [ear1]; exact wf_s11 hw f
  refine m_aload C dX7_setOpacity_27 1 rfl ?_
  refine m_iload_n C dX7_setOpacity_29 rfl 5 rfl ?_
  refine m_put (ref := "PaintLayers$Node") C (hR.nd hj_ar1) rfl i_X3 tyX3 tyX3_ok nmX3 8 (by decide) (by decide +kernel) (fun x h => h) rfl (by cases h <;> rfl) (by cases h <;> rfl) (Nat.le_of_ble_eq_true rfl) (e' := .inr (6, (nF Z ar1 fi nl j).set 8 (.int (bI h)))) rfl dX7_setOpacity_30 ?_
  have hR9 := hR.s12 hj_ar1 (bI h)
  revert hR9
  generalize m_up M _ _ = M
  intro hR
  obtain ⟨ar2, ear2⟩ : ∃ z : rA, z = upA ar1 12 (upd (ar1 12) j (bI h)) := ⟨_, rfl⟩
  rw [← ear2] at hR
  have hj_ar2 : cP ar2 cm j := by rw [ear2]; exact hj_ar1
  have hw_ar2 : wf ar2 cm := by rw [ear2]; exact wf_s12 hw_ar1 hj_ar1.1 (bI h)
  refine m_aload_n C dX7_setOpacity_33 rfl 2 rfl ?_
  refine m_callVv (As := []) (st := []) C hR.me rfl (c_X7_settle D A l hw_ar2 (hR.toR hcm)) (cwV 0 C.1.2.2.2.2 gX7_setOpacity_X7_settle rfl rfl rfl (by decide +kernel) ⟨Nat.le_of_ble_eq_true rfl, Nat.le_of_ble_eq_true rfl⟩) rfl rfl (Nat.le_of_ble_eq_true rfl) dX7_setOpacity_34 ⟨Nat.le_of_ble_eq_true rfl, Nat.le_of_ble_eq_true rfl⟩ (fun M9 hq9 => ?_)
  obtain ⟨fi9, hfv9, hR9⟩ := hq9
  refine m_iload C dX7_setOpacity_37 0 rfl ?_
  exact m_iretX C (Nat.le_of_ble_eq_true rfl) (Nat.le_of_ble_eq_true rfl) dX7_setOpacity_39 (⟨hk0, by rw [cj], by have e9 : ar2 = s_setOpacity ar (nI j) f h := by { rw [ear2, ear1]; unfold s_setOpacity; rw [cj]; try rfl }; rw [← e9]; exact ⟨fi9, nl, rw, hfv9, hR9⟩⟩)
set_option maxHeartbeats 4000000 in
set_option maxRecDepth 100000 in
theorem c_X7_setMask (D : mD) (A : Nat → Prop) (l : Launch) (hst : l.stackTraces = false) {Z : Nat → Nat} {F : Mm} {cm : Nat} {g : Int32} {ar : rA} {M : Mm} (hI : cI D Z F cm g ar M) (hw : wf ar cm) (hb : BD ar cm) (hz13 : ∀ n, ar 13 n = 0 ∨ ar 13 n = 1) {v : Int32} {h : Bool} : mXi D A l yX7_setMask wsX7_setMask ({ frames := 9, cells := 3, slots := 18, locals := 420 } : Room) [.ref (Z 0), .int v, .int (bI h)] M (fun r M' => k_setMask cm ar v = 0 ∧ r = ar 13 (jN v) ∧ cI D Z F cm g (s_setMask ar v h) M') (fun E M' => cI D Z F cm g ar M' ∧ ((k_setMask cm ar v = 1 ∧ E = xIO) ∨ (k_setMask cm ar v = 2 ∧ E = xIS))) 3 18 := by
  refine m_startX (cc := cX7_setMask) (maxL := 5) (ret := (some .boolean)) (by decide) rfl (Nat.le_of_ble_eq_true rfl) ?_
  intro p e s m args below meth c C hE
  have i_X7 : ∀ w ∈ wsX70, w ∈ wsX7_setMask := by decide +kernel
  have i_X3 : ∀ w ∈ wsX30, w ∈ wsX7_setMask := by decide +kernel
  refine m_sub (L' := [(0, .ref (Z 0)), (1, .int v), (2, .int (bI h))]) [0, 1, 2] rfl ?_
  have hcm := hw.1.2
  have hI9 := hI
  obtain ⟨fi, nl, rw, hfv, hR⟩ := hI9
  refine m_aload_n C dX7_setMask_0 rfl 0 rfl ?_
  refine m_iload_n C dX7_setMask_1 rfl 1 rfl ?_
  refine m_callVXq (As := [.int v]) (st := []) C hR.me rfl (c_X7_find D A l hst hR hcm) (cwV 1 C.1.2.2.2.2 gX7_setMask_X7_find rfl rfl rfl (by decide +kernel) ⟨Nat.le_of_ble_eq_true rfl, Nat.le_of_ble_eq_true rfl⟩) rfl rfl (Nat.le_of_ble_eq_true rfl) dX7_setMask_2 ⟨Nat.le_of_ble_eq_true rfl, Nat.le_of_ble_eq_true rfl⟩ hE (fun E M9 z9 => ⟨by rw [z9.2.1]; exact hI, Or.inl (⟨by unfold k_setMask; rw [z9.2.2]; rfl, z9.1⟩)⟩) (Nat.le_of_ble_eq_true rfl) (Nat.le_of_ble_eq_true rfl) (fun r9 M9 hq9 => ?_)
  obtain ⟨e9, j, rfl, hj, rfl⟩ := hq9
  subst e9
  rename Mm => M
  have qj := q_node_t hcm hj
  have cj : jN (nI j) = j := nI_clamp (by have := hj.1; omega)
  refine m_astore_n (L' := [(3, .ref (Z (100 + j))), (0, .ref (Z 0)), (1, .int (nI j)), (2, .int (bI h))]) C dX7_setMask_5 rfl (by decide) rfl ?_
  refine m_aload_n C dX7_setMask_6 rfl 0 rfl ?_
  refine m_get (ref := "PaintLayers$Node") C (hR.nd hj) rfl i_X3 1 (by decide) (by decide +kernel) (fun x h => h) (v := va_rf (nSh Z ar j)) rfl dX7_setMask_7 ?_
  by_cases h3 : ar 3 j = 0
  · rw [show nSh Z ar j = none from if_pos h3]
    refine m_ifnull (x := none) (tgt := 23) C dX7_setMask_10 (by decide) (fun _ => ?_) (fun q h => absurd h (by simp))
    have hk0 : k_setMask cm ar (nI j) = 0 := by unfold k_setMask; rw [qj, cj]; simp [h3]
    refine m_aload_n C dX7_setMask_23 rfl 0 rfl ?_
    refine m_get (ref := "PaintLayers$Node") C (hR.nd hj) rfl i_X3 9 (by decide) (by decide +kernel) (fun x h => h) (v := .int (ar 13 j)) rfl dX7_setMask_24 ?_
    refine m_istore (L' := [(4, .int (ar 13 j)), (3, .ref (Z (100 + j))), (0, .ref (Z 0)), (1, .int (nI j)), (2, .int (bI h))]) C dX7_setMask_27 (by decide) rfl ?_
    refine m_aload_n C dX7_setMask_29 rfl 1 rfl ?_
    refine m_iload_n C dX7_setMask_30 rfl 4 rfl ?_
    refine m_put (ref := "PaintLayers$Node") C (hR.nd hj) rfl i_X3 tyX3 tyX3_ok nmX3 9 (by decide) (by decide +kernel) (fun x h => h) rfl (by cases h <;> rfl) (by cases h <;> rfl) (Nat.le_of_ble_eq_true rfl) (e' := .inr (6, (nF Z ar fi nl j).set 9 (.int (bI h)))) rfl dX7_setMask_31 ?_
    have hR9 := hR.s13 hj (bI h)
    revert hR9
    generalize m_up M _ _ = M
    intro hR
    obtain ⟨ar1, ear1⟩ : ∃ z : rA, z = upA ar 13 (upd (ar 13) j (bI h)) := ⟨_, rfl⟩
    rw [← ear1] at hR
    have hj_ar1 : cP ar1 cm j := by rw [ear1]; exact hj
    have hw_ar1 : wf ar1 cm := by rw [ear1]; exact wf_s13 hw hj.1 (bI h)
    refine m_iload C dX7_setMask_34 0 rfl ?_
    exact m_zretX C (Nat.le_of_ble_eq_true rfl) (Nat.le_of_ble_eq_true rfl) dX7_setMask_36 (hz13 j) (⟨hk0, by rw [cj], by have e9 : ar1 = s_setMask ar (nI j) h := by { rw [ear1]; unfold s_setMask; rw [cj] }; rw [← e9, ear1]; rw [ear1] at hR; exact cI.of13 hfv hR⟩)
  · rw [show nSh Z ar j = some (Z (400 + j)) from if_neg h3]
    refine m_ifnull (x := some (Z (400 + j))) (tgt := 23) C dX7_setMask_10 (by decide) (fun h => absurd h (by simp)) (fun _ _ => ?_)
    exact m_throwS (E := xIS) (text := "no group") C hst hE (by decide) (by decide +kernel) (by decide +kernel) (by decide +kernel) (by decide) (by decide +kernel) (by decide +kernel) (by decide +kernel) dX7_setMask_13 dX7_setMask_16 dX7_setMask_17 dX7_setMask_19 dX7_setMask_22 (Nat.le_of_ble_eq_true rfl) (Nat.le_of_ble_eq_true rfl) (Nat.le_of_ble_eq_true rfl) (Nat.le_of_ble_eq_true rfl) (Nat.le_of_ble_eq_true rfl) (Nat.le_of_ble_eq_true rfl) (⟨hI, Or.inr (⟨by unfold k_setMask; rw [qj, cj]; simp [h3], rfl⟩)⟩)
set_option maxHeartbeats 4000000 in
set_option maxRecDepth 100000 in
theorem c_X7_setGround (D : mD) (A : Nat → Prop) (l : Launch) (hst : l.stackTraces = false) {Z : Nat → Nat} {F : Mm} {cm : Nat} {g : Int32} {ar : rA} {M : Mm} (hI : cI D Z F cm g ar M) (hw : wf ar cm) (hb : BD ar cm) {v : Int32} : mXi D A l yX7_setGround wsX7_setGround ({ frames := 8, cells := 1, slots := 6, locals := 320 } : Room) [.ref (Z 0), .int v] M (fun r M' => k_setGround v = 0 ∧ r = g ∧ cI D Z F cm v ar M') (fun E M' => cI D Z F cm g ar M' ∧ ((k_setGround v = 1 ∧ E = xIA))) 1 6 := by
  refine m_startX (cc := cX7_setGround) (maxL := 3) (ret := (some .int)) (by decide) rfl (Nat.le_of_ble_eq_true rfl) ?_
  intro p e s m args below meth c C hE
  have i_X7 : ∀ w ∈ wsX70, w ∈ wsX7_setGround := by decide +kernel
  refine m_sub (L' := [(0, .ref (Z 0)), (1, .int v)]) [0, 1] rfl ?_
  have hcm := hw.1.2
  have hI9 := hI
  obtain ⟨fi, nl, rw, hfv, hR⟩ := hI9
  refine m_iload_n C dX7_setGround_0 rfl 1 rfl ?_
  refine m_iconst (v := 0) C dX7_setGround_1 (by decide) ?_
  refine m_sipush (v := 255) C dX7_setGround_2 (by decide) ?_
  refine m_callSXv (As := [.int v, .int 0, .int 255]) (st := []) C (c_X7_checkRange D A l hst) (va_cwS 3 C.1.2.2.2.2 gX7_setGround_X7_checkRange rfl rfl rfl (by decide +kernel) ⟨Nat.le_of_ble_eq_true rfl, Nat.le_of_ble_eq_true rfl⟩) rfl rfl (Nat.le_of_ble_eq_true rfl) dX7_setGround_5 ⟨Nat.le_of_ble_eq_true rfl, Nat.le_of_ble_eq_true rfl⟩ hE (fun E M9 z9 => ⟨by rw [z9.2.1]; exact hI, ⟨by unfold k_setGround; rw [← okR_in, z9.2.2]; rfl, z9.1⟩⟩) (Nat.le_of_ble_eq_true rfl) (Nat.le_of_ble_eq_true rfl) (fun M9 hq9 => ?_)
  obtain ⟨e9, hok⟩ := hq9
  subst e9
  rename Mm => M
  have hk0 : k_setGround v = 0 := by unfold k_setGround; rw [← okR_in, hok]; rfl
  refine m_aload_n C dX7_setGround_8 rfl 0 rfl ?_
  refine m_get (ref := "PaintLayers") C hR.me rfl i_X7 6 (by decide) (by decide +kernel) (fun x h => h) (v := .int g) rfl dX7_setGround_9 ?_
  refine m_istore_n (L' := [(2, .int g), (0, .ref (Z 0)), (1, .int v)]) C dX7_setGround_12 rfl (by decide) rfl ?_
  refine m_aload_n C dX7_setGround_13 rfl 1 rfl ?_
  refine m_iload_n C dX7_setGround_14 rfl 2 rfl ?_
  refine m_put (ref := "PaintLayers") C hR.me rfl i_X7 tyX7 tyX7_ok nmX7 6 (by decide) (by decide +kernel) (fun x h => h) rfl rfl rfl (Nat.le_of_ble_eq_true rfl) (e' := .inr (9, mfF Z cm v)) rfl dX7_setGround_15 ?_
  have hR9 := hR.sg v
  revert hR9
  generalize m_up M _ _ = M
  intro hR
  refine m_iload_n C dX7_setGround_18 rfl 0 rfl ?_
  exact m_iretX C (Nat.le_of_ble_eq_true rfl) (Nat.le_of_ble_eq_true rfl) dX7_setGround_19 (⟨hk0, rfl, fi, nl, rw, hfv, hR⟩)
set_option maxHeartbeats 4000000 in
set_option maxRecDepth 100000 in
theorem c_X7_shows (D : mD) (A : Nat → Prop) (l : Launch) (hst : l.stackTraces = false) {Z : Nat → Nat} {F : Mm} {cm : Nat} {g : Int32} {ar : rA} {M : Mm} (hI : cI D Z F cm g ar M) (hw : wf ar cm) (hb : BD ar cm) {v x y : Int32} : mXi D A l yX7_shows wsX7_shows ({ frames := 10, cells := 3, slots := 18, locals := 600 } : Room) [.ref (Z 0), .int v, .int x, .int y] M (fun r M' => k_shows cm ar v x y = 0 ∧ r = bI (q_any ar (pre9 ar (jN v)) x y) ∧ cI D Z F cm g ar M') (fun E M' => cI D Z F cm g ar M' ∧ ((k_shows cm ar v x y = 1 ∧ E = xIO))) 3 18 := by
  refine m_startX (cc := cX7_shows) (maxL := 5) (ret := (some .boolean)) (by decide) rfl (Nat.le_of_ble_eq_true rfl) ?_
  intro p e s m args below meth c C hE
  have i_X7 : ∀ w ∈ wsX70, w ∈ wsX7_shows := by decide +kernel
  have i_X3 : ∀ w ∈ wsX30, w ∈ wsX7_shows := by decide +kernel
  refine m_sub (L' := [(0, .ref (Z 0)), (1, .int v), (2, .int x), (3, .int y)]) [0, 1, 2, 3] rfl ?_
  have hcm := hw.1.2
  have hI9 := hI
  obtain ⟨fi, nl, rw, hfv, hR⟩ := hI9
  refine m_aload_n C dX7_shows_0 rfl 0 rfl ?_
  refine m_iload_n C dX7_shows_1 rfl 1 rfl ?_
  refine m_callVXq (As := [.int v]) (st := []) C hR.me rfl (c_X7_find D A l hst hR hcm) (cwV 1 C.1.2.2.2.2 gX7_shows_X7_find rfl rfl rfl (by decide +kernel) ⟨Nat.le_of_ble_eq_true rfl, Nat.le_of_ble_eq_true rfl⟩) rfl rfl (Nat.le_of_ble_eq_true rfl) dX7_shows_2 ⟨Nat.le_of_ble_eq_true rfl, Nat.le_of_ble_eq_true rfl⟩ hE (fun E M9 z9 => ⟨by rw [z9.2.1]; exact hI, ⟨by unfold k_shows; rw [z9.2.2]; rfl, z9.1⟩⟩) (Nat.le_of_ble_eq_true rfl) (Nat.le_of_ble_eq_true rfl) (fun r9 M9 hq9 => ?_)
  obtain ⟨e9, j, rfl, hj, rfl⟩ := hq9
  subst e9
  rename Mm => M
  have qj := q_node_t hcm hj
  have cj : jN (nI j) = j := nI_clamp (by have := hj.1; omega)
  refine m_astore (L' := [(4, .ref (Z (100 + j))), (0, .ref (Z 0)), (1, .int (nI j)), (2, .int x), (3, .int y)]) C dX7_shows_5 (by decide) rfl ?_
  refine m_iload_n C dX7_shows_7 rfl 3 rfl ?_
  refine m_iload_n C dX7_shows_8 rfl 4 rfl ?_
  refine m_callSXv (As := [.int x, .int y]) (st := []) C (c_X7_checkPixel D A l hst) (va_cwS 2 C.1.2.2.2.2 gX7_shows_X7_checkPixel rfl rfl rfl (by decide +kernel) ⟨Nat.le_of_ble_eq_true rfl, Nat.le_of_ble_eq_true rfl⟩) rfl rfl (Nat.le_of_ble_eq_true rfl) dX7_shows_9 ⟨Nat.le_of_ble_eq_true rfl, Nat.le_of_ble_eq_true rfl⟩ hE (fun E M9 z9 => ⟨by rw [z9.2.1]; exact hI, ⟨by unfold k_shows; rw [← okX_pix, z9.2.2, Bool.and_false]; rfl, z9.1⟩⟩) (Nat.le_of_ble_eq_true rfl) (Nat.le_of_ble_eq_true rfl) (fun M9 hq9 => ?_)
  obtain ⟨e9, hok⟩ := hq9
  subst e9
  rename Mm => M
  have hk0 : k_shows cm ar (nI j) x y = 0 := by unfold k_shows; rw [qj, ← okX_pix, hok]; rfl
  obtain ⟨x9, y9, hx9, hy9, rfl, rfl⟩ := pix_n hok
  refine m_aload_n C dX7_shows_12 rfl 1 rfl ?_
  refine m_iload_n C dX7_shows_13 rfl 4 rfl ?_
  refine m_callVv (As := [.int (nI y9)]) (st := []) C hR.me rfl (c_X7_scanRow D A l hR hw hb hfv hy9) (cwV 1 C.1.2.2.2.2 gX7_shows_X7_scanRow rfl rfl rfl (by decide +kernel) ⟨Nat.le_of_ble_eq_true rfl, Nat.le_of_ble_eq_true rfl⟩) rfl rfl (Nat.le_of_ble_eq_true rfl) dX7_shows_14 ⟨Nat.le_of_ble_eq_true rfl, Nat.le_of_ble_eq_true rfl⟩ (fun M1 hq1 => ?_)
  obtain ⟨m1, hR1, hs1⟩ := hq1
  rename cS D Z F cm g ar fi m1 (pre9 ar 0) rw M1 => hR
  refine m_aload C dX7_shows_17 0 rfl ?_
  refine m_get (ref := "PaintLayers$Node") C (hR.nd hj) rfl i_X3 18 (by decide) (by decide +kernel) (fun x h => h) (v := .long (m1 2 j)) rfl dX7_shows_19 ?_
  refine m_iload_n C dX7_shows_22 rfl 3 rfl ?_
  refine m_callSFi (As := [.long (m1 2 j), .int (nI x9)]) (st := []) (v := bI (bL (m1 2 j) x9)) C (c_X7_hasBit D A l (x := x9) (by omega)) (va_cwS 2 C.1.2.2.2.2 gX7_shows_X7_hasBit rfl rfl rfl (by decide +kernel) ⟨Nat.le_of_ble_eq_true rfl, Nat.le_of_ble_eq_true rfl⟩) rfl rfl (Nat.le_of_ble_eq_true rfl) dX7_shows_23 ⟨Nat.le_of_ble_eq_true rfl, Nat.le_of_ble_eq_true rfl⟩ ?_
  exact m_zretX C (Nat.le_of_ble_eq_true rfl) (Nat.le_of_ble_eq_true rfl) dX7_shows_26 (by cases bL (m1 2 j) x9 <;> first | exact Or.inl rfl | exact Or.inr rfl) (⟨hk0, by rw [cj, hs1 j hj x9 hx9], fi, m1, rw, hfv, hR⟩)
