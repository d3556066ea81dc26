/-! ===== the law's helpers: each calls the class and catches ===== -/
theorem aw_0 {w : Nat → Int64} {x : Int64} : vp_updL w (0 : Int32).toNatClampNeg x 0 = x := by
  unfold vp_updL
  exact if_pos (by decide)
set_option maxHeartbeats 4000000 in
set_option maxRecDepth 100000 in
theorem c_L_addGroup (D : mD) (A : Nat → Prop) (l : Launch) (hst : l.stackTraces = false) {Z G : Nat → Nat} {o2 q3 cm : Nat} {g : Int32} {ar : rA} {cm2 : Nat} {g2 : Int32} {ar2 : rA} {aw : Nat → Int64} {M : Mm} (hI : lI D Z G o2 q3 cm g ar cm2 g2 ar2 aw M) (hw : wf ar cm) (hb : BD ar cm) {v : Int32} : mXi D A l yL_addGroup wsL_addGroup ({ frames := 11, cells := 46, slots := 2500, locals := 930 } : Room) [.ref (Z 0), .int v, .ref q3] M (fun r M' => r = q_addk cm ar v 0 true ∧ ∃ (Z' : Nat → Nat) (aw' : Nat → Int64), Z' 0 = Z 0 ∧ (q_addk cm ar v 0 true = 0 → aw' 0 = Int32.toInt64 (nI cm)) ∧ lI D Z' G o2 q3 (if q_addk cm ar v 0 true = 0 then cm + 1 else cm) g (if q_addk cm ar v 0 true = 0 then (q_addS cm ar v 0 (q_sh []) 0) else ar) cm2 g2 ar2 aw' M') (fun _ _ => False) 46 2500 := by
  refine m_startH (cc := cL_addGroup) (maxL := 4) (ret := (some .int)) (hh := [(0, 9, 12, 13), (0, 9, 15, 15)]) (by decide) rfl (Nat.le_of_ble_eq_true rfl) ?_
  intro p e s m args below meth c C hT
  refine m_sub (L' := [(0, .ref (Z 0)), (1, .int v), (2, .ref q3)]) [0, 1, 2] rfl ?_
  obtain ⟨F, hc, hre⟩ := hI.cls
  obtain ⟨mf0, hme⟩ := hI.z0
  refine m_aload_n C dL_addGroup_0 rfl 2 rfl ?_
  refine m_iconst (v := 0) C dL_addGroup_1 (by decide) ?_
  refine m_aload_n C dL_addGroup_2 rfl 0 rfl ?_
  refine m_iload_n C dL_addGroup_3 rfl 1 rfl ?_
  refine m_callVXiH (As := [.int v]) (st := [.int 0, .ref q3]) C hme rfl (c_X7_addGroup D A l hst hc hw hb) (cwV 1 C.1.2.2.2.2 gL_addGroup_X7_addGroup rfl rfl rfl (by decide +kernel) ⟨Nat.le_of_ble_eq_true rfl, Nat.le_of_ble_eq_true rfl⟩) rfl rfl (Nat.le_of_ble_eq_true rfl) dL_addGroup_4 ⟨Nat.le_of_ble_eq_true rfl, Nat.le_of_ble_eq_true rfl⟩ (fun E M9 hx => ?_) (fun r M9 hp => ?_)
  · obtain ⟨hc', hx⟩ := hx
    rcases hx with ⟨hk, rfl⟩ | ⟨hk, rfl⟩
    · have hn : ¬ q_addk cm ar v 0 true = 0 := fun z => absurd (hk.symm.trans z) (by decide)
      refine ⟨12, mK_at C [] [(0, 9, 15, 15)] hT (fun z hz => absurd hz List.not_mem_nil) ⟨by decide, by decide⟩ (by decide) (by decide +kernel) (by decide +kernel), fun q => ?_⟩
      refine m_astore_n (L' := [(3, .ref q), (0, .ref (Z 0)), (1, .int v), (2, .ref q3)]) C dL_addGroup_12 rfl (by decide) rfl ?_
      refine m_iconst (v := 1) C dL_addGroup_13 (by decide) ?_
      exact m_iretX C (Nat.le_of_ble_eq_true rfl) (Nat.le_of_ble_eq_true rfl) dL_addGroup_14 ⟨hk.symm, Z, aw, rfl, fun z => absurd z hn, by rw [if_neg hn, if_neg hn]; exact hre Z F cm g ar M9 (fun _ _ h => h) hc'⟩
    · have hn : ¬ q_addk cm ar v 0 true = 0 := fun z => absurd (hk.symm.trans z) (by decide)
      refine ⟨15, mK_at C [(0, 9, 12, 13)] [] hT (fun z hz => by cases List.mem_singleton.mp hz; exact ⟨by decide, "java/lang/IndexOutOfBoundsException", by decide +kernel, by decide +kernel⟩) ⟨by decide, by decide⟩ (by decide) (by decide +kernel) (by decide +kernel), fun q => ?_⟩
      refine m_astore_n (L' := [(3, .ref q), (0, .ref (Z 0)), (1, .int v), (2, .ref q3)]) C dL_addGroup_15 rfl (by decide) rfl ?_
      refine m_iconst (v := 2) C dL_addGroup_16 (by decide) ?_
      exact m_iretX C (Nat.le_of_ble_eq_true rfl) (Nat.le_of_ble_eq_true rfl) dL_addGroup_17 ⟨hk.symm, Z, aw, rfl, fun z => absurd z hn, by rw [if_neg hn, if_neg hn]; exact hre Z F cm g ar M9 (fun _ _ h => h) hc'⟩
  · obtain ⟨hk, hr, Z', F', hX, hz, hc'⟩ := hp
    subst hr
    have hJ := hre Z' F' _ _ _ M9 hX hc'
    refine m_i2l (v := Int32.toInt64 (nI cm)) C dL_addGroup_7 rfl ?_
    refine m_last C hJ.ans (by unfold vp_in; decide) dL_addGroup_8 ?_
    refine m_goto (tgt := 18) C dL_addGroup_9 (by decide) ?_
    refine m_iconst (v := 0) C dL_addGroup_18 (by decide) ?_
    exact m_iretX C (Nat.le_of_ble_eq_true rfl) (Nat.le_of_ble_eq_true rfl) dL_addGroup_19 ⟨hk.symm, Z', vp_updL aw (0 : Int32).toNatClampNeg (Int32.toInt64 (nI cm)), hz, fun _ => aw_0, by rw [if_pos hk, if_pos hk]; exact hJ.put _⟩
set_option maxHeartbeats 4000000 in
set_option maxRecDepth 100000 in
theorem c_L_addRectangle (D : mD) (A : Nat → Prop) (l : Launch) (hst : l.stackTraces = false) {Z G : Nat → Nat} {o2 q3 cm : Nat} {g : Int32} {ar : rA} {cm2 : Nat} {g2 : Int32} {ar2 : rA} {aw : Nat → Int64} {M : Mm} (hI : lI D Z G o2 q3 cm g ar cm2 g2 ar2 aw M) (hw : wf ar cm) (hb : BD ar cm) {v a b w h : Int32} : mXi D A l yL_addRectangle wsL_addRectangle ({ frames := 11, cells := 52, slots := 2540, locals := 970 } : Room) [.ref (Z 0), .int v, .int a, .int b, .int w, .int h, .ref q3] M (fun r M' => r = q_addk cm ar v 1 (q_okR a b w h) ∧ ∃ (Z' : Nat → Nat) (aw' : Nat → Int64), Z' 0 = Z 0 ∧ (q_addk cm ar v 1 (q_okR a b w h) = 0 → aw' 0 = Int32.toInt64 (nI cm)) ∧ lI D Z' G o2 q3 (if q_addk cm ar v 1 (q_okR a b w h) = 0 then cm + 1 else cm) g (if q_addk cm ar v 1 (q_okR a b w h) = 0 then (q_addS cm ar v 1 (q_sh [a, b, w, h]) 4) else ar) cm2 g2 ar2 aw' M') (fun _ _ => False) 52 2540 := by
  refine m_startH (cc := cL_addRectangle) (maxL := 8) (ret := (some .int)) (hh := [(0, 16, 19, 13), (0, 16, 23, 21), (0, 16, 27, 15)]) (by decide) rfl (Nat.le_of_ble_eq_true rfl) ?_
  intro p e s m args below meth c C hT
  refine m_sub (L' := [(0, .ref (Z 0)), (1, .int v), (2, .int a), (3, .int b), (4, .int w), (5, .int h), (6, .ref q3)]) [0, 1, 2, 3, 4, 5, 6] rfl ?_
  obtain ⟨F, hc, hre⟩ := hI.cls
  obtain ⟨mf0, hme⟩ := hI.z0
  refine m_aload C dL_addRectangle_0 6 rfl ?_
  refine m_iconst (v := 0) C dL_addRectangle_2 (by decide) ?_
  refine m_aload_n C dL_addRectangle_3 rfl 0 rfl ?_
  refine m_iload_n C dL_addRectangle_4 rfl 1 rfl ?_
  refine m_iload_n C dL_addRectangle_5 rfl 2 rfl ?_
  refine m_iload_n C dL_addRectangle_6 rfl 3 rfl ?_
  refine m_iload C dL_addRectangle_7 4 rfl ?_
  refine m_iload C dL_addRectangle_9 5 rfl ?_
  refine m_callVXiH (As := [.int v, .int a, .int b, .int w, .int h]) (st := [.int 0, .ref q3]) C hme rfl (c_X7_addRectangle D A l hst hc hw hb) (cwV 5 C.1.2.2.2.2 gL_addRectangle_X7_addRectangle rfl rfl rfl (by decide +kernel) ⟨Nat.le_of_ble_eq_true rfl, Nat.le_of_ble_eq_true rfl⟩) rfl rfl (Nat.le_of_ble_eq_true rfl) dL_addRectangle_11 ⟨Nat.le_of_ble_eq_true rfl, Nat.le_of_ble_eq_true rfl⟩ (fun E M9 hx => ?_) (fun r M9 hp => ?_)
  · obtain ⟨hc', hx⟩ := hx
    rcases hx with ⟨hk, rfl⟩ | ⟨hk, rfl⟩ | ⟨hk, rfl⟩
    · have hn : ¬ q_addk cm ar v 1 (q_okR a b w h) = 0 := fun z => absurd (hk.symm.trans z) (by decide)
      refine ⟨19, mK_at C [] [(0, 16, 23, 21), (0, 16, 27, 15)] hT (fun z hz => absurd hz List.not_mem_nil) ⟨by decide, by decide⟩ (by decide) (by decide +kernel) (by decide +kernel), fun q => ?_⟩
      refine m_astore (L' := [(7, .ref q), (0, .ref (Z 0)), (1, .int v), (2, .int a), (3, .int b), (4, .int w), (5, .int h), (6, .ref q3)]) C dL_addRectangle_19 (by decide) rfl ?_
      refine m_iconst (v := 1) C dL_addRectangle_21 (by decide) ?_
      exact m_iretX C (Nat.le_of_ble_eq_true rfl) (Nat.le_of_ble_eq_true rfl) dL_addRectangle_22 ⟨hk.symm, Z, aw, rfl, fun z => absurd z hn, by rw [if_neg hn, if_neg hn]; exact hre Z F cm g ar M9 (fun _ _ h => h) hc'⟩
    · have hn : ¬ q_addk cm ar v 1 (q_okR a b w h) = 0 := fun z => absurd (hk.symm.trans z) (by decide)
      refine ⟨23, mK_at C [(0, 16, 19, 13)] [(0, 16, 27, 15)] hT (fun z hz => by cases List.mem_singleton.mp hz; exact ⟨by decide, "java/lang/IndexOutOfBoundsException", by decide +kernel, by decide +kernel⟩) ⟨by decide, by decide⟩ (by decide) (by decide +kernel) (by decide +kernel), fun q => ?_⟩
      refine m_astore (L' := [(7, .ref q), (0, .ref (Z 0)), (1, .int v), (2, .int a), (3, .int b), (4, .int w), (5, .int h), (6, .ref q3)]) C dL_addRectangle_23 (by decide) rfl ?_
      refine m_iconst (v := 2) C dL_addRectangle_25 (by decide) ?_
      exact m_iretX C (Nat.le_of_ble_eq_true rfl) (Nat.le_of_ble_eq_true rfl) dL_addRectangle_26 ⟨hk.symm, Z, aw, rfl, fun z => absurd z hn, by rw [if_neg hn, if_neg hn]; exact hre Z F cm g ar M9 (fun _ _ h => h) hc'⟩
    · have hn : ¬ q_addk cm ar v 1 (q_okR a b w h) = 0 := fun z => absurd (hk.symm.trans z) (by decide)
      refine ⟨27, mK_at C [(0, 16, 19, 13), (0, 16, 23, 21)] [] hT (fun z hz => by
        rcases List.mem_cons.mp hz with rfl | hz
        · exact ⟨by decide, "java/lang/IndexOutOfBoundsException", by decide +kernel, by decide +kernel⟩
        · cases List.mem_singleton.mp hz; exact ⟨by decide, "java/lang/IllegalArgumentException", by decide +kernel, by decide +kernel⟩) ⟨by decide, by decide⟩ (by decide) (by decide +kernel) (by decide +kernel), fun q => ?_⟩
      refine m_astore (L' := [(7, .ref q), (0, .ref (Z 0)), (1, .int v), (2, .int a), (3, .int b), (4, .int w), (5, .int h), (6, .ref q3)]) C dL_addRectangle_27 (by decide) rfl ?_
      refine m_iconst (v := 3) C dL_addRectangle_29 (by decide) ?_
      exact m_iretX C (Nat.le_of_ble_eq_true rfl) (Nat.le_of_ble_eq_true rfl) dL_addRectangle_30 ⟨hk.symm, Z, aw, rfl, fun z => absurd z hn, by rw [if_neg hn, if_neg hn]; exact hre Z F cm g ar M9 (fun _ _ h => h) hc'⟩
  · obtain ⟨hk, hr, Z', F', hX, hz, hc'⟩ := hp
    subst hr
    have hJ := hre Z' F' _ _ _ M9 hX hc'
    refine m_i2l (v := Int32.toInt64 (nI cm)) C dL_addRectangle_14 rfl ?_
    refine m_last C hJ.ans (by unfold vp_in; decide) dL_addRectangle_15 ?_
    refine m_goto (tgt := 31) C dL_addRectangle_16 (by decide) ?_
    refine m_iconst (v := 0) C dL_addRectangle_31 (by decide) ?_
    exact m_iretX C (Nat.le_of_ble_eq_true rfl) (Nat.le_of_ble_eq_true rfl) dL_addRectangle_32 ⟨hk.symm, Z', vp_updL aw (0 : Int32).toNatClampNeg (Int32.toInt64 (nI cm)), hz, fun _ => aw_0, by rw [if_pos hk, if_pos hk]; exact hJ.put _⟩
set_option maxHeartbeats 4000000 in
set_option maxRecDepth 100000 in
theorem c_L_addDisc (D : mD) (A : Nat → Prop) (l : Launch) (hst : l.stackTraces = false) {Z G : Nat → Nat} {o2 q3 cm : Nat} {g : Int32} {ar : rA} {cm2 : Nat} {g2 : Int32} {ar2 : rA} {aw : Nat → Int64} {M : Mm} (hI : lI D Z G o2 q3 cm g ar cm2 g2 ar2 aw M) (hw : wf ar cm) (hb : BD ar cm) {v a b w : Int32} : mXi D A l yL_addDisc wsL_addDisc ({ frames := 11, cells := 52, slots := 2540, locals := 970 } : Room) [.ref (Z 0), .int v, .int a, .int b, .int w, .ref q3] M (fun r M' => r = q_addk cm ar v 2 (q_okD a b w) ∧ ∃ (Z' : Nat → Nat) (aw' : Nat → Int64), Z' 0 = Z 0 ∧ (q_addk cm ar v 2 (q_okD a b w) = 0 → aw' 0 = Int32.toInt64 (nI cm)) ∧ lI D Z' G o2 q3 (if q_addk cm ar v 2 (q_okD a b w) = 0 then cm + 1 else cm) g (if q_addk cm ar v 2 (q_okD a b w) = 0 then (q_addS cm ar v 2 (q_sh [a, b, w]) 3) else ar) cm2 g2 ar2 aw' M') (fun _ _ => False) 52 2540 := by
  refine m_startH (cc := cL_addDisc) (maxL := 7) (ret := (some .int)) (hh := [(0, 14, 17, 13), (0, 14, 21, 21), (0, 14, 25, 15)]) (by decide) rfl (Nat.le_of_ble_eq_true rfl) ?_
  intro p e s m args below meth c C hT
  refine m_sub (L' := [(0, .ref (Z 0)), (1, .int v), (2, .int a), (3, .int b), (4, .int w), (5, .ref q3)]) [0, 1, 2, 3, 4, 5] rfl ?_
  obtain ⟨F, hc, hre⟩ := hI.cls
  obtain ⟨mf0, hme⟩ := hI.z0
  refine m_aload C dL_addDisc_0 5 rfl ?_
  refine m_iconst (v := 0) C dL_addDisc_2 (by decide) ?_
  refine m_aload_n C dL_addDisc_3 rfl 0 rfl ?_
  refine m_iload_n C dL_addDisc_4 rfl 1 rfl ?_
  refine m_iload_n C dL_addDisc_5 rfl 2 rfl ?_
  refine m_iload_n C dL_addDisc_6 rfl 3 rfl ?_
  refine m_iload C dL_addDisc_7 4 rfl ?_
  refine m_callVXiH (As := [.int v, .int a, .int b, .int w]) (st := [.int 0, .ref q3]) C hme rfl (c_X7_addDisc D A l hst hc hw hb) (cwV 4 C.1.2.2.2.2 gL_addDisc_X7_addDisc rfl rfl rfl (by decide +kernel) ⟨Nat.le_of_ble_eq_true rfl, Nat.le_of_ble_eq_true rfl⟩) rfl rfl (Nat.le_of_ble_eq_true rfl) dL_addDisc_9 ⟨Nat.le_of_ble_eq_true rfl, Nat.le_of_ble_eq_true rfl⟩ (fun E M9 hx => ?_) (fun r M9 hp => ?_)
  · obtain ⟨hc', hx⟩ := hx
    rcases hx with ⟨hk, rfl⟩ | ⟨hk, rfl⟩ | ⟨hk, rfl⟩
    · have hn : ¬ q_addk cm ar v 2 (q_okD a b w) = 0 := fun z => absurd (hk.symm.trans z) (by decide)
      refine ⟨17, mK_at C [] [(0, 14, 21, 21), (0, 14, 25, 15)] hT (fun z hz => absurd hz List.not_mem_nil) ⟨by decide, by decide⟩ (by decide) (by decide +kernel) (by decide +kernel), fun q => ?_⟩
      refine m_astore (L' := [(6, .ref q), (0, .ref (Z 0)), (1, .int v), (2, .int a), (3, .int b), (4, .int w), (5, .ref q3)]) C dL_addDisc_17 (by decide) rfl ?_
      refine m_iconst (v := 1) C dL_addDisc_19 (by decide) ?_
      exact m_iretX C (Nat.le_of_ble_eq_true rfl) (Nat.le_of_ble_eq_true rfl) dL_addDisc_20 ⟨hk.symm, Z, aw, rfl, fun z => absurd z hn, by rw [if_neg hn, if_neg hn]; exact hre Z F cm g ar M9 (fun _ _ h => h) hc'⟩
    · have hn : ¬ q_addk cm ar v 2 (q_okD a b w) = 0 := fun z => absurd (hk.symm.trans z) (by decide)
      refine ⟨21, mK_at C [(0, 14, 17, 13)] [(0, 14, 25, 15)] hT (fun z hz => by cases List.mem_singleton.mp hz; exact ⟨by decide, "java/lang/IndexOutOfBoundsException", by decide +kernel, by decide +kernel⟩) ⟨by decide, by decide⟩ (by decide) (by decide +kernel) (by decide +kernel), fun q => ?_⟩
      refine m_astore (L' := [(6, .ref q), (0, .ref (Z 0)), (1, .int v), (2, .int a), (3, .int b), (4, .int w), (5, .ref q3)]) C dL_addDisc_21 (by decide) rfl ?_
      refine m_iconst (v := 2) C dL_addDisc_23 (by decide) ?_
      exact m_iretX C (Nat.le_of_ble_eq_true rfl) (Nat.le_of_ble_eq_true rfl) dL_addDisc_24 ⟨hk.symm, Z, aw, rfl, fun z => absurd z hn, by rw [if_neg hn, if_neg hn]; exact hre Z F cm g ar M9 (fun _ _ h => h) hc'⟩
    · have hn : ¬ q_addk cm ar v 2 (q_okD a b w) = 0 := fun z => absurd (hk.symm.trans z) (by decide)
      refine ⟨25, mK_at C [(0, 14, 17, 13), (0, 14, 21, 21)] [] hT (fun z hz => by
        rcases List.mem_cons.mp hz with rfl | hz
        · exact ⟨by decide, "java/lang/IndexOutOfBoundsException", by decide +kernel, by decide +kernel⟩
        · cases List.mem_singleton.mp hz; exact ⟨by decide, "java/lang/IllegalArgumentException", by decide +kernel, by decide +kernel⟩) ⟨by decide, by decide⟩ (by decide) (by decide +kernel) (by decide +kernel), fun q => ?_⟩
      refine m_astore (L' := [(6, .ref q), (0, .ref (Z 0)), (1, .int v), (2, .int a), (3, .int b), (4, .int w), (5, .ref q3)]) C dL_addDisc_25 (by decide) rfl ?_
      refine m_iconst (v := 3) C dL_addDisc_27 (by decide) ?_
      exact m_iretX C (Nat.le_of_ble_eq_true rfl) (Nat.le_of_ble_eq_true rfl) dL_addDisc_28 ⟨hk.symm, Z, aw, rfl, fun z => absurd z hn, by rw [if_neg hn, if_neg hn]; exact hre Z F cm g ar M9 (fun _ _ h => h) hc'⟩
  · obtain ⟨hk, hr, Z', F', hX, hz, hc'⟩ := hp
    subst hr
    have hJ := hre Z' F' _ _ _ M9 hX hc'
    refine m_i2l (v := Int32.toInt64 (nI cm)) C dL_addDisc_12 rfl ?_
    refine m_last C hJ.ans (by unfold vp_in; decide) dL_addDisc_13 ?_
    refine m_goto (tgt := 29) C dL_addDisc_14 (by decide) ?_
    refine m_iconst (v := 0) C dL_addDisc_29 (by decide) ?_
    exact m_iretX C (Nat.le_of_ble_eq_true rfl) (Nat.le_of_ble_eq_true rfl) dL_addDisc_30 ⟨hk.symm, Z', vp_updL aw (0 : Int32).toNatClampNeg (Int32.toInt64 (nI cm)), hz, fun _ => aw_0, by rw [if_pos hk, if_pos hk]; exact hJ.put _⟩
set_option maxHeartbeats 4000000 in
set_option maxRecDepth 100000 in
theorem c_L_addTriangle (D : mD) (A : Nat → Prop) (l : Launch) (hst : l.stackTraces = false) {Z G : Nat → Nat} {o2 q3 cm : Nat} {g : Int32} {ar : rA} {cm2 : Nat} {g2 : Int32} {ar2 : rA} {aw : Nat → Int64} {M : Mm} (hI : lI D Z G o2 q3 cm g ar cm2 g2 ar2 aw M) (hw : wf ar cm) (hb : BD ar cm) {v a b a2 b2 a3 b3 : Int32} : mXi D A l yL_addTriangle wsL_addTriangle ({ frames := 11, cells := 58, slots := 2560, locals := 970 } : Room) [.ref (Z 0), .int v, .int a, .int b, .int a2, .int b2, .int a3, .int b3, .ref q3] M (fun r M' => r = q_addk cm ar v 3 (q_okT a b a2 b2 a3 b3) ∧ ∃ (Z' : Nat → Nat) (aw' : Nat → Int64), Z' 0 = Z 0 ∧ (q_addk cm ar v 3 (q_okT a b a2 b2 a3 b3) = 0 → aw' 0 = Int32.toInt64 (nI cm)) ∧ lI D Z' G o2 q3 (if q_addk cm ar v 3 (q_okT a b a2 b2 a3 b3) = 0 then cm + 1 else cm) g (if q_addk cm ar v 3 (q_okT a b a2 b2 a3 b3) = 0 then (q_addS cm ar v 3 (q_sh [a, b, a2, b2, a3, b3]) 6) else ar) cm2 g2 ar2 aw' M') (fun _ _ => False) 58 2560 := by
  refine m_startH (cc := cL_addTriangle) (maxL := 10) (ret := (some .int)) (hh := [(0, 20, 23, 13), (0, 20, 27, 21), (0, 20, 31, 15)]) (by decide) rfl (Nat.le_of_ble_eq_true rfl) ?_
  intro p e s m args below meth c C hT
  refine m_sub (L' := [(0, .ref (Z 0)), (1, .int v), (2, .int a), (3, .int b), (4, .int a2), (5, .int b2), (6, .int a3), (7, .int b3), (8, .ref q3)]) [0, 1, 2, 3, 4, 5, 6, 7, 8] rfl ?_
  obtain ⟨F, hc, hre⟩ := hI.cls
  obtain ⟨mf0, hme⟩ := hI.z0
  refine m_aload C dL_addTriangle_0 8 rfl ?_
  refine m_iconst (v := 0) C dL_addTriangle_2 (by decide) ?_
  refine m_aload_n C dL_addTriangle_3 rfl 0 rfl ?_
  refine m_iload_n C dL_addTriangle_4 rfl 1 rfl ?_
  refine m_iload_n C dL_addTriangle_5 rfl 2 rfl ?_
  refine m_iload_n C dL_addTriangle_6 rfl 3 rfl ?_
  refine m_iload C dL_addTriangle_7 4 rfl ?_
  refine m_iload C dL_addTriangle_9 5 rfl ?_
  refine m_iload C dL_addTriangle_11 6 rfl ?_
  refine m_iload C dL_addTriangle_13 7 rfl ?_
  refine m_callVXiH (As := [.int v, .int a, .int b, .int a2, .int b2, .int a3, .int b3]) (st := [.int 0, .ref q3]) C hme rfl (c_X7_addTriangle D A l hst hc hw hb) (cwV 7 C.1.2.2.2.2 gL_addTriangle_X7_addTriangle rfl rfl rfl (by decide +kernel) ⟨Nat.le_of_ble_eq_true rfl, Nat.le_of_ble_eq_true rfl⟩) rfl rfl (Nat.le_of_ble_eq_true rfl) dL_addTriangle_15 ⟨Nat.le_of_ble_eq_true rfl, Nat.le_of_ble_eq_true rfl⟩ (fun E M9 hx => ?_) (fun r M9 hp => ?_)
  · obtain ⟨hc', hx⟩ := hx
    rcases hx with ⟨hk, rfl⟩ | ⟨hk, rfl⟩ | ⟨hk, rfl⟩
    · have hn : ¬ q_addk cm ar v 3 (q_okT a b a2 b2 a3 b3) = 0 := fun z => absurd (hk.symm.trans z) (by decide)
      refine ⟨23, mK_at C [] [(0, 20, 27, 21), (0, 20, 31, 15)] hT (fun z hz => absurd hz List.not_mem_nil) ⟨by decide, by decide⟩ (by decide) (by decide +kernel) (by decide +kernel), fun q => ?_⟩
      refine m_astore (L' := [(9, .ref q), (0, .ref (Z 0)), (1, .int v), (2, .int a), (3, .int b), (4, .int a2), (5, .int b2), (6, .int a3), (7, .int b3), (8, .ref q3)]) C dL_addTriangle_23 (by decide) rfl ?_
      refine m_iconst (v := 1) C dL_addTriangle_25 (by decide) ?_
      exact m_iretX C (Nat.le_of_ble_eq_true rfl) (Nat.le_of_ble_eq_true rfl) dL_addTriangle_26 ⟨hk.symm, Z, aw, rfl, fun z => absurd z hn, by rw [if_neg hn, if_neg hn]; exact hre Z F cm g ar M9 (fun _ _ h => h) hc'⟩
    · have hn : ¬ q_addk cm ar v 3 (q_okT a b a2 b2 a3 b3) = 0 := fun z => absurd (hk.symm.trans z) (by decide)
      refine ⟨27, mK_at C [(0, 20, 23, 13)] [(0, 20, 31, 15)] hT (fun z hz => by cases List.mem_singleton.mp hz; exact ⟨by decide, "java/lang/IndexOutOfBoundsException", by decide +kernel, by decide +kernel⟩) ⟨by decide, by decide⟩ (by decide) (by decide +kernel) (by decide +kernel), fun q => ?_⟩
      refine m_astore (L' := [(9, .ref q), (0, .ref (Z 0)), (1, .int v), (2, .int a), (3, .int b), (4, .int a2), (5, .int b2), (6, .int a3), (7, .int b3), (8, .ref q3)]) C dL_addTriangle_27 (by decide) rfl ?_
      refine m_iconst (v := 2) C dL_addTriangle_29 (by decide) ?_
      exact m_iretX C (Nat.le_of_ble_eq_true rfl) (Nat.le_of_ble_eq_true rfl) dL_addTriangle_30 ⟨hk.symm, Z, aw, rfl, fun z => absurd z hn, by rw [if_neg hn, if_neg hn]; exact hre Z F cm g ar M9 (fun _ _ h => h) hc'⟩
    · have hn : ¬ q_addk cm ar v 3 (q_okT a b a2 b2 a3 b3) = 0 := fun z => absurd (hk.symm.trans z) (by decide)
      refine ⟨31, mK_at C [(0, 20, 23, 13), (0, 20, 27, 21)] [] hT (fun z hz => by
        rcases List.mem_cons.mp hz with rfl | hz
        · exact ⟨by decide, "java/lang/IndexOutOfBoundsException", by decide +kernel, by decide +kernel⟩
        · cases List.mem_singleton.mp hz; exact ⟨by decide, "java/lang/IllegalArgumentException", by decide +kernel, by decide +kernel⟩) ⟨by decide, by decide⟩ (by decide) (by decide +kernel) (by decide +kernel), fun q => ?_⟩
      refine m_astore (L' := [(9, .ref q), (0, .ref (Z 0)), (1, .int v), (2, .int a), (3, .int b), (4, .int a2), (5, .int b2), (6, .int a3), (7, .int b3), (8, .ref q3)]) C dL_addTriangle_31 (by decide) rfl ?_
      refine m_iconst (v := 3) C dL_addTriangle_33 (by decide) ?_
      exact m_iretX C (Nat.le_of_ble_eq_true rfl) (Nat.le_of_ble_eq_true rfl) dL_addTriangle_34 ⟨hk.symm, Z, aw, rfl, fun z => absurd z hn, by rw [if_neg hn, if_neg hn]; exact hre Z F cm g ar M9 (fun _ _ h => h) hc'⟩
  · obtain ⟨hk, hr, Z', F', hX, hz, hc'⟩ := hp
    subst hr
    have hJ := hre Z' F' _ _ _ M9 hX hc'
    refine m_i2l (v := Int32.toInt64 (nI cm)) C dL_addTriangle_18 rfl ?_
    refine m_last C hJ.ans (by unfold vp_in; decide) dL_addTriangle_19 ?_
    refine m_goto (tgt := 35) C dL_addTriangle_20 (by decide) ?_
    refine m_iconst (v := 0) C dL_addTriangle_35 (by decide) ?_
    exact m_iretX C (Nat.le_of_ble_eq_true rfl) (Nat.le_of_ble_eq_true rfl) dL_addTriangle_36 ⟨hk.symm, Z', vp_updL aw (0 : Int32).toNatClampNeg (Int32.toInt64 (nI cm)), hz, fun _ => aw_0, by rw [if_pos hk, if_pos hk]; exact hJ.put _⟩
set_option maxHeartbeats 4000000 in
set_option maxRecDepth 100000 in
theorem c_L_remove (D : mD) (A : Nat → Prop) (l : Launch) (hst : l.stackTraces = false) {Z G : Nat → Nat} {o2 q3 cm : Nat} {g : Int32} {ar : rA} {cm2 : Nat} {g2 : Int32} {ar2 : rA} {aw : Nat → Int64} {M : Mm} (hI : lI D Z G o2 q3 cm g ar cm2 g2 ar2 aw M) (hw : wf ar cm) (hb : BD ar cm) {v : Int32} : mXi D A l yL_remove wsL_remove ({ frames := 10, cells := 42, slots := 2412, locals := 830 } : Room) [.ref (Z 0), .int v, .ref q3] M (fun r M' => r = k_remove cm ar v ∧ ∃ (Z' : Nat → Nat) (aw' : Nat → Int64), Z' 0 = Z 0 ∧ (k_remove cm ar v = 0 → aw' 0 = Int32.toInt64 (nI (pre9 ar (jN v)).length)) ∧ lI D Z' G o2 q3 cm g (if k_remove cm ar v = 0 then (s_remove ar v) else ar) cm2 g2 ar2 aw' M') (fun _ _ => False) 42 2412 := by
  refine m_startH (cc := cL_remove) (maxL := 4) (ret := (some .int)) (hh := [(0, 9, 12, 13), (0, 9, 15, 15)]) (by decide) rfl (Nat.le_of_ble_eq_true rfl) ?_
  intro p e s m args below meth c C hT
  refine m_sub (L' := [(0, .ref (Z 0)), (1, .int v), (2, .ref q3)]) [0, 1, 2] rfl ?_
  obtain ⟨F, hc, hre⟩ := hI.cls
  obtain ⟨mf0, hme⟩ := hI.z0
  refine m_aload_n C dL_remove_0 rfl 2 rfl ?_
  refine m_iconst (v := 0) C dL_remove_1 (by decide) ?_
  refine m_aload_n C dL_remove_2 rfl 0 rfl ?_
  refine m_iload_n C dL_remove_3 rfl 1 rfl ?_
  refine m_callVXiH (As := [.int v]) (st := [.int 0, .ref q3]) C hme rfl (c_X7_remove D A l hst hc hw hb) (cwV 1 C.1.2.2.2.2 gL_remove_X7_remove rfl rfl rfl (by decide +kernel) ⟨Nat.le_of_ble_eq_true rfl, Nat.le_of_ble_eq_true rfl⟩) rfl rfl (Nat.le_of_ble_eq_true rfl) dL_remove_4 ⟨Nat.le_of_ble_eq_true rfl, Nat.le_of_ble_eq_true rfl⟩ (fun E M9 hx => ?_) (fun r M9 hp => ?_)
  · obtain ⟨hc', hx⟩ := hx
    rcases hx with ⟨hk, rfl⟩ | ⟨hk, rfl⟩
    · have hn : ¬ k_remove cm ar v = 0 := fun z => absurd (hk.symm.trans z) (by decide)
      refine ⟨12, mK_at C [] [(0, 9, 15, 15)] hT (fun z hz => absurd hz List.not_mem_nil) ⟨by decide, by decide⟩ (by decide) (by decide +kernel) (by decide +kernel), fun q => ?_⟩
      refine m_astore_n (L' := [(3, .ref q), (0, .ref (Z 0)), (1, .int v), (2, .ref q3)]) C dL_remove_12 rfl (by decide) rfl ?_
      refine m_iconst (v := 1) C dL_remove_13 (by decide) ?_
      exact m_iretX C (Nat.le_of_ble_eq_true rfl) (Nat.le_of_ble_eq_true rfl) dL_remove_14 ⟨hk.symm, Z, aw, rfl, fun z => absurd z hn, by rw [if_neg hn]; exact hre Z F cm g ar M9 (fun _ _ h => h) hc'⟩
    · have hn : ¬ k_remove cm ar v = 0 := fun z => absurd (hk.symm.trans z) (by decide)
      refine ⟨15, mK_at C [(0, 9, 12, 13)] [] hT (fun z hz => by cases List.mem_singleton.mp hz; exact ⟨by decide, "java/lang/IndexOutOfBoundsException", by decide +kernel, by decide +kernel⟩) ⟨by decide, by decide⟩ (by decide) (by decide +kernel) (by decide +kernel), fun q => ?_⟩
      refine m_astore_n (L' := [(3, .ref q), (0, .ref (Z 0)), (1, .int v), (2, .ref q3)]) C dL_remove_15 rfl (by decide) rfl ?_
      refine m_iconst (v := 2) C dL_remove_16 (by decide) ?_
      exact m_iretX C (Nat.le_of_ble_eq_true rfl) (Nat.le_of_ble_eq_true rfl) dL_remove_17 ⟨hk.symm, Z, aw, rfl, fun z => absurd z hn, by rw [if_neg hn]; exact hre Z F cm g ar M9 (fun _ _ h => h) hc'⟩
  · obtain ⟨hk, hr, hc'⟩ := hp
    subst hr
    have hJ := hre Z F _ _ _ M9 (fun _ _ h => h) hc'
    refine m_i2l (v := Int32.toInt64 (nI (pre9 ar (jN v)).length)) C dL_remove_7 rfl ?_
    refine m_last C hJ.ans (by unfold vp_in; decide) dL_remove_8 ?_
    refine m_goto (tgt := 18) C dL_remove_9 (by decide) ?_
    refine m_iconst (v := 0) C dL_remove_18 (by decide) ?_
    exact m_iretX C (Nat.le_of_ble_eq_true rfl) (Nat.le_of_ble_eq_true rfl) dL_remove_19 ⟨hk.symm, Z, vp_updL aw (0 : Int32).toNatClampNeg (Int32.toInt64 (nI (pre9 ar (jN v)).length)), rfl, fun _ => aw_0, by rw [if_pos hk]; exact hJ.put _⟩
set_option maxHeartbeats 4000000 in
set_option maxRecDepth 100000 in
theorem c_L_move (D : mD) (A : Nat → Prop) (l : Launch) (hst : l.stackTraces = false) {Z G : Nat → Nat} {o2 q3 cm : Nat} {g : Int32} {ar : rA} {cm2 : Nat} {g2 : Int32} {ar2 : rA} {aw : Nat → Int64} {M : Mm} (hI : lI D Z G o2 q3 cm g ar cm2 g2 ar2 aw M) (hw : wf ar cm) (hb : BD ar cm) {v b pl : Int32} : mXi D A l yL_move wsL_move ({ frames := 10, cells := 46, slots := 2500, locals := 870 } : Room) [.ref (Z 0), .int v, .int b, .int pl, .ref q3] M (fun r M' => r = k_move cm ar v b pl ∧ ∃ (Z' : Nat → Nat) (aw' : Nat → Int64), Z' 0 = Z 0 ∧ (k_move cm ar v b pl = 0 → aw' 0 = Int32.toInt64 (nI (plc ar (jN v)))) ∧ lI D Z' G o2 q3 cm g (if k_move cm ar v b pl = 0 then (s_move ar v b pl) else ar) cm2 g2 ar2 aw' M') (fun _ _ => False) 46 2500 := by
  refine m_startH (cc := cL_move) (maxL := 6) (ret := (some .int)) (hh := [(0, 12, 15, 13), (0, 12, 19, 15)]) (by decide) rfl (Nat.le_of_ble_eq_true rfl) ?_
  intro p e s m args below meth c C hT
  refine m_sub (L' := [(0, .ref (Z 0)), (1, .int v), (2, .int b), (3, .int pl), (4, .ref q3)]) [0, 1, 2, 3, 4] rfl ?_
  obtain ⟨F, hc, hre⟩ := hI.cls
  obtain ⟨mf0, hme⟩ := hI.z0
  refine m_aload C dL_move_0 4 rfl ?_
  refine m_iconst (v := 0) C dL_move_2 (by decide) ?_
  refine m_aload_n C dL_move_3 rfl 0 rfl ?_
  refine m_iload_n C dL_move_4 rfl 1 rfl ?_
  refine m_iload_n C dL_move_5 rfl 2 rfl ?_
  refine m_iload_n C dL_move_6 rfl 3 rfl ?_
  refine m_callVXiH (As := [.int v, .int b, .int pl]) (st := [.int 0, .ref q3]) C hme rfl (c_X7_move D A l hst hc hw hb) (cwV 3 C.1.2.2.2.2 gL_move_X7_move rfl rfl rfl (by decide +kernel) ⟨Nat.le_of_ble_eq_true rfl, Nat.le_of_ble_eq_true rfl⟩) rfl rfl (Nat.le_of_ble_eq_true rfl) dL_move_7 ⟨Nat.le_of_ble_eq_true rfl, Nat.le_of_ble_eq_true rfl⟩ (fun E M9 hx => ?_) (fun r M9 hp => ?_)
  · obtain ⟨hc', hx⟩ := hx
    rcases hx with ⟨hk, rfl⟩ | ⟨hk, rfl⟩
    · have hn : ¬ k_move cm ar v b pl = 0 := fun z => absurd (hk.symm.trans z) (by decide)
      refine ⟨15, mK_at C [] [(0, 12, 19, 15)] hT (fun z hz => absurd hz List.not_mem_nil) ⟨by decide, by decide⟩ (by decide) (by decide +kernel) (by decide +kernel), fun q => ?_⟩
      refine m_astore (L' := [(5, .ref q), (0, .ref (Z 0)), (1, .int v), (2, .int b), (3, .int pl), (4, .ref q3)]) C dL_move_15 (by decide) rfl ?_
      refine m_iconst (v := 1) C dL_move_17 (by decide) ?_
      exact m_iretX C (Nat.le_of_ble_eq_true rfl) (Nat.le_of_ble_eq_true rfl) dL_move_18 ⟨hk.symm, Z, aw, rfl, fun z => absurd z hn, by rw [if_neg hn]; exact hre Z F cm g ar M9 (fun _ _ h => h) hc'⟩
    · have hn : ¬ k_move cm ar v b pl = 0 := fun z => absurd (hk.symm.trans z) (by decide)
      refine ⟨19, mK_at C [(0, 12, 15, 13)] [] hT (fun z hz => by cases List.mem_singleton.mp hz; exact ⟨by decide, "java/lang/IndexOutOfBoundsException", by decide +kernel, by decide +kernel⟩) ⟨by decide, by decide⟩ (by decide) (by decide +kernel) (by decide +kernel), fun q => ?_⟩
      refine m_astore (L' := [(5, .ref q), (0, .ref (Z 0)), (1, .int v), (2, .int b), (3, .int pl), (4, .ref q3)]) C dL_move_19 (by decide) rfl ?_
      refine m_iconst (v := 2) C dL_move_21 (by decide) ?_
      exact m_iretX C (Nat.le_of_ble_eq_true rfl) (Nat.le_of_ble_eq_true rfl) dL_move_22 ⟨hk.symm, Z, aw, rfl, fun z => absurd z hn, by rw [if_neg hn]; exact hre Z F cm g ar M9 (fun _ _ h => h) hc'⟩
  · obtain ⟨hk, hr, hc'⟩ := hp
    subst hr
    have hJ := hre Z F _ _ _ M9 (fun _ _ h => h) hc'
    refine m_i2l (v := Int32.toInt64 (nI (plc ar (jN v)))) C dL_move_10 rfl ?_
    refine m_last C hJ.ans (by unfold vp_in; decide) dL_move_11 ?_
    refine m_goto (tgt := 23) C dL_move_12 (by decide) ?_
    refine m_iconst (v := 0) C dL_move_23 (by decide) ?_
    exact m_iretX C (Nat.le_of_ble_eq_true rfl) (Nat.le_of_ble_eq_true rfl) dL_move_24 ⟨hk.symm, Z, vp_updL aw (0 : Int32).toNatClampNeg (Int32.toInt64 (nI (plc ar (jN v)))), rfl, fun _ => aw_0, by rw [if_pos hk]; exact hJ.put _⟩
set_option maxHeartbeats 4000000 in
set_option maxRecDepth 100000 in
theorem c_L_node (D : mD) (A : Nat → Prop) (l : Launch) (hst : l.stackTraces = false) {Z G : Nat → Nat} {o2 q3 cm : Nat} {g : Int32} {ar : rA} {cm2 : Nat} {g2 : Int32} {ar2 : rA} {aw : Nat → Int64} {M : Mm} (hI : lI D Z G o2 q3 cm g ar cm2 g2 ar2 aw M) (hw : wf ar cm) (hb : BD ar cm) {v w : Int32} : mXi D A l yL_node wsL_node ({ frames := 10, cells := 3, slots := 18, locals := 490 } : Room) [.ref (Z 0), .int v, .int w, .ref q3] M (fun r M' => r = k_node cm ar v w ∧ ∃ (Z' : Nat → Nat) (aw' : Nat → Int64), Z' 0 = Z 0 ∧ (k_node cm ar v w = 0 → aw' 0 = Int32.toInt64 (q_tldv ar v w)) ∧ lI D Z' G o2 q3 cm g ar cm2 g2 ar2 aw' M') (fun _ _ => False) 3 18 := by
  refine m_startH (cc := cL_node) (maxL := 5) (ret := (some .int)) (hh := [(0, 10, 13, 13)]) (by decide) rfl (Nat.le_of_ble_eq_true rfl) ?_
  intro p e s m args below meth c C hT
  refine m_sub (L' := [(0, .ref (Z 0)), (1, .int v), (2, .int w), (3, .ref q3)]) [0, 1, 2, 3] rfl ?_
  obtain ⟨F, hc, hre⟩ := hI.cls
  obtain ⟨mf0, hme⟩ := hI.z0
  refine m_aload_n C dL_node_0 rfl 3 rfl ?_
  refine m_iconst (v := 0) C dL_node_1 (by decide) ?_
  refine m_aload_n C dL_node_2 rfl 0 rfl ?_
  refine m_iload_n C dL_node_3 rfl 1 rfl ?_
  refine m_iload_n C dL_node_4 rfl 2 rfl ?_
  refine m_callVXiH (As := [.int v, .int w]) (st := [.int 0, .ref q3]) C hme rfl (c_X7_node D A l hst hc hw hb) (cwV 2 C.1.2.2.2.2 gL_node_X7_node rfl rfl rfl (by decide +kernel) ⟨Nat.le_of_ble_eq_true rfl, Nat.le_of_ble_eq_true rfl⟩) rfl rfl (Nat.le_of_ble_eq_true rfl) dL_node_5 ⟨Nat.le_of_ble_eq_true rfl, Nat.le_of_ble_eq_true rfl⟩ (fun E M9 hx => ?_) (fun r M9 hp => ?_)
  · obtain ⟨hc', hx⟩ := hx
    obtain ⟨hk, rfl⟩ := hx
    have hn : ¬ k_node cm ar v w = 0 := fun z => absurd (hk.symm.trans z) (by decide)
    refine ⟨13, mK_at C [] [] hT (fun z hz => absurd hz List.not_mem_nil) ⟨by decide, by decide⟩ (by decide) (by decide +kernel) (by decide +kernel), fun q => ?_⟩
    refine m_astore (L' := [(4, .ref q), (0, .ref (Z 0)), (1, .int v), (2, .int w), (3, .ref q3)]) C dL_node_13 (by decide) rfl ?_
    refine m_iconst (v := 1) C dL_node_15 (by decide) ?_
    exact m_iretX C (Nat.le_of_ble_eq_true rfl) (Nat.le_of_ble_eq_true rfl) dL_node_16 ⟨hk.symm, Z, aw, rfl, fun z => absurd z hn, by exact hre Z F cm g ar M9 (fun _ _ h => h) hc'⟩
  · obtain ⟨hk, hr, hc'⟩ := hp
    subst hr
    have hJ := hre Z F _ _ _ M9 (fun _ _ h => h) hc'
    refine m_i2l (v := Int32.toInt64 (q_tldv ar v w)) C dL_node_8 rfl ?_
    refine m_last C hJ.ans (by unfold vp_in; decide) dL_node_9 ?_
    refine m_goto (tgt := 17) C dL_node_10 (by decide) ?_
    refine m_iconst (v := 0) C dL_node_17 (by decide) ?_
    exact m_iretX C (Nat.le_of_ble_eq_true rfl) (Nat.le_of_ble_eq_true rfl) dL_node_18 ⟨hk.symm, Z, vp_updL aw (0 : Int32).toNatClampNeg (Int32.toInt64 (q_tldv ar v w)), rfl, fun _ => aw_0, by exact hJ.put _⟩
set_option maxHeartbeats 4000000 in
set_option maxRecDepth 100000 in
theorem c_L_child (D : mD) (A : Nat → Prop) (l : Launch) (hst : l.stackTraces = false) {Z G : Nat → Nat} {o2 q3 cm : Nat} {g : Int32} {ar : rA} {cm2 : Nat} {g2 : Int32} {ar2 : rA} {aw : Nat → Int64} {M : Mm} (hI : lI D Z G o2 q3 cm g ar cm2 g2 ar2 aw M) (hw : wf ar cm) (hb : BD ar cm) {v i : Int32} : mXi D A l yL_child wsL_child ({ frames := 10, cells := 3, slots := 18, locals := 490 } : Room) [.ref (Z 0), .int v, .int i, .ref q3] M (fun r M' => r = k_child cm ar v i ∧ ∃ (Z' : Nat → Nat) (aw' : Nat → Int64), Z' 0 = Z 0 ∧ (k_child cm ar v i = 0 → aw' 0 = Int32.toInt64 (v_child ar v i)) ∧ lI D Z' G o2 q3 cm g ar cm2 g2 ar2 aw' M') (fun _ _ => False) 3 18 := by
  refine m_startH (cc := cL_child) (maxL := 5) (ret := (some .int)) (hh := [(0, 10, 13, 13)]) (by decide) rfl (Nat.le_of_ble_eq_true rfl) ?_
  intro p e s m args below meth c C hT
  refine m_sub (L' := [(0, .ref (Z 0)), (1, .int v), (2, .int i), (3, .ref q3)]) [0, 1, 2, 3] rfl ?_
  obtain ⟨F, hc, hre⟩ := hI.cls
  obtain ⟨mf0, hme⟩ := hI.z0
  refine m_aload_n C dL_child_0 rfl 3 rfl ?_
  refine m_iconst (v := 0) C dL_child_1 (by decide) ?_
  refine m_aload_n C dL_child_2 rfl 0 rfl ?_
  refine m_iload_n C dL_child_3 rfl 1 rfl ?_
  refine m_iload_n C dL_child_4 rfl 2 rfl ?_
  refine m_callVXiH (As := [.int v, .int i]) (st := [.int 0, .ref q3]) C hme rfl (c_X7_child D A l hst hc hw hb) (cwV 2 C.1.2.2.2.2 gL_child_X7_child rfl rfl rfl (by decide +kernel) ⟨Nat.le_of_ble_eq_true rfl, Nat.le_of_ble_eq_true rfl⟩) rfl rfl (Nat.le_of_ble_eq_true rfl) dL_child_5 ⟨Nat.le_of_ble_eq_true rfl, Nat.le_of_ble_eq_true rfl⟩ (fun E M9 hx => ?_) (fun r M9 hp => ?_)
  · obtain ⟨hc', hx⟩ := hx
    obtain ⟨hk, rfl⟩ := hx
    have hn : ¬ k_child cm ar v i = 0 := fun z => absurd (hk.symm.trans z) (by decide)
    refine ⟨13, mK_at C [] [] hT (fun z hz => absurd hz List.not_mem_nil) ⟨by decide, by decide⟩ (by decide) (by decide +kernel) (by decide +kernel), fun q => ?_⟩
    refine m_astore (L' := [(4, .ref q), (0, .ref (Z 0)), (1, .int v), (2, .int i), (3, .ref q3)]) C dL_child_13 (by decide) rfl ?_
    refine m_iconst (v := 1) C dL_child_15 (by decide) ?_
    exact m_iretX C (Nat.le_of_ble_eq_true rfl) (Nat.le_of_ble_eq_true rfl) dL_child_16 ⟨hk.symm, Z, aw, rfl, fun z => absurd z hn, by exact hre Z F cm g ar M9 (fun _ _ h => h) hc'⟩
  · obtain ⟨hk, hr, hc'⟩ := hp
    subst hr
    have hJ := hre Z F _ _ _ M9 (fun _ _ h => h) hc'
    refine m_i2l (v := Int32.toInt64 (v_child ar v i)) C dL_child_8 rfl ?_
    refine m_last C hJ.ans (by unfold vp_in; decide) dL_child_9 ?_
    refine m_goto (tgt := 17) C dL_child_10 (by decide) ?_
    refine m_iconst (v := 0) C dL_child_17 (by decide) ?_
    exact m_iretX C (Nat.le_of_ble_eq_true rfl) (Nat.le_of_ble_eq_true rfl) dL_child_18 ⟨hk.symm, Z, vp_updL aw (0 : Int32).toNatClampNeg (Int32.toInt64 (v_child ar v i)), rfl, fun _ => aw_0, by exact hJ.put _⟩
set_option maxHeartbeats 4000000 in
set_option maxRecDepth 100000 in
theorem c_L_place (D : mD) (A : Nat → Prop) (l : Launch) (hst : l.stackTraces = false) {Z G : Nat → Nat} {o2 q3 cm : Nat} {g : Int32} {ar : rA} {cm2 : Nat} {g2 : Int32} {ar2 : rA} {aw : Nat → Int64} {M : Mm} (hI : lI D Z G o2 q3 cm g ar cm2 g2 ar2 aw M) (hw : wf ar cm) (hb : BD ar cm) {v dx dy : Int32} : mXi D A l yL_place wsL_place ({ frames := 10, cells := 44, slots := 2430, locals := 770 } : Room) [.ref (Z 0), .int v, .int dx, .int dy, .ref q3] M (fun r M' => r = k_place cm ar v dx dy ∧ ∃ (Z' : Nat → Nat) (aw' : Nat → Int64), Z' 0 = Z 0 ∧ (k_place cm ar v dx dy = 0 → aw' 0 = Int32.toInt64 (ar 8 (jN v))) ∧ lI D Z' G o2 q3 cm g (if k_place cm ar v dx dy = 0 then (s_place ar v dx dy) else ar) cm2 g2 ar2 aw' M') (fun _ _ => False) 44 2430 := by
  refine m_startH (cc := cL_place) (maxL := 6) (ret := (some .int)) (hh := [(0, 12, 15, 13), (0, 12, 19, 21)]) (by decide) rfl (Nat.le_of_ble_eq_true rfl) ?_
  intro p e s m args below meth c C hT
  refine m_sub (L' := [(0, .ref (Z 0)), (1, .int v), (2, .int dx), (3, .int dy), (4, .ref q3)]) [0, 1, 2, 3, 4] rfl ?_
  obtain ⟨F, hc, hre⟩ := hI.cls
  obtain ⟨mf0, hme⟩ := hI.z0
  refine m_aload C dL_place_0 4 rfl ?_
  refine m_iconst (v := 0) C dL_place_2 (by decide) ?_
  refine m_aload_n C dL_place_3 rfl 0 rfl ?_
  refine m_iload_n C dL_place_4 rfl 1 rfl ?_
  refine m_iload_n C dL_place_5 rfl 2 rfl ?_
  refine m_iload_n C dL_place_6 rfl 3 rfl ?_
  refine m_callVXiH (As := [.int v, .int dx, .int dy]) (st := [.int 0, .ref q3]) C hme rfl (c_X7_place D A l hst hc hw hb) (cwV 3 C.1.2.2.2.2 gL_place_X7_place rfl rfl rfl (by decide +kernel) ⟨Nat.le_of_ble_eq_true rfl, Nat.le_of_ble_eq_true rfl⟩) rfl rfl (Nat.le_of_ble_eq_true rfl) dL_place_7 ⟨Nat.le_of_ble_eq_true rfl, Nat.le_of_ble_eq_true rfl⟩ (fun E M9 hx => ?_) (fun r M9 hp => ?_)
  · obtain ⟨hc', hx⟩ := hx
    rcases hx with ⟨hk, rfl⟩ | ⟨hk, rfl⟩
    · have hn : ¬ k_place cm ar v dx dy = 0 := fun z => absurd (hk.symm.trans z) (by decide)
      refine ⟨15, mK_at C [] [(0, 12, 19, 21)] hT (fun z hz => absurd hz List.not_mem_nil) ⟨by decide, by decide⟩ (by decide) (by decide +kernel) (by decide +kernel), fun q => ?_⟩
      refine m_astore (L' := [(5, .ref q), (0, .ref (Z 0)), (1, .int v), (2, .int dx), (3, .int dy), (4, .ref q3)]) C dL_place_15 (by decide) rfl ?_
      refine m_iconst (v := 1) C dL_place_17 (by decide) ?_
      exact m_iretX C (Nat.le_of_ble_eq_true rfl) (Nat.le_of_ble_eq_true rfl) dL_place_18 ⟨hk.symm, Z, aw, rfl, fun z => absurd z hn, by rw [if_neg hn]; exact hre Z F cm g ar M9 (fun _ _ h => h) hc'⟩
    · have hn : ¬ k_place cm ar v dx dy = 0 := fun z => absurd (hk.symm.trans z) (by decide)
      refine ⟨19, mK_at C [(0, 12, 15, 13)] [] hT (fun z hz => by cases List.mem_singleton.mp hz; exact ⟨by decide, "java/lang/IndexOutOfBoundsException", by decide +kernel, by decide +kernel⟩) ⟨by decide, by decide⟩ (by decide) (by decide +kernel) (by decide +kernel), fun q => ?_⟩
      refine m_astore (L' := [(5, .ref q), (0, .ref (Z 0)), (1, .int v), (2, .int dx), (3, .int dy), (4, .ref q3)]) C dL_place_19 (by decide) rfl ?_
      refine m_iconst (v := 2) C dL_place_21 (by decide) ?_
      exact m_iretX C (Nat.le_of_ble_eq_true rfl) (Nat.le_of_ble_eq_true rfl) dL_place_22 ⟨hk.symm, Z, aw, rfl, fun z => absurd z hn, by rw [if_neg hn]; exact hre Z F cm g ar M9 (fun _ _ h => h) hc'⟩
  · obtain ⟨hk, hr, hc'⟩ := hp
    subst hr
    have hJ := hre Z F _ _ _ M9 (fun _ _ h => h) hc'
    refine m_i2l (v := Int32.toInt64 (ar 8 (jN v))) C dL_place_10 rfl ?_
    refine m_last C hJ.ans (by unfold vp_in; decide) dL_place_11 ?_
    refine m_goto (tgt := 23) C dL_place_12 (by decide) ?_
    refine m_iconst (v := 0) C dL_place_23 (by decide) ?_
    exact m_iretX C (Nat.le_of_ble_eq_true rfl) (Nat.le_of_ble_eq_true rfl) dL_place_24 ⟨hk.symm, Z, vp_updL aw (0 : Int32).toNatClampNeg (Int32.toInt64 (ar 8 (jN v))), rfl, fun _ => aw_0, by rw [if_pos hk]; exact hJ.put _⟩
set_option maxHeartbeats 4000000 in
set_option maxRecDepth 100000 in
theorem c_L_setFill (D : mD) (A : Nat → Prop) (l : Launch) (hst : l.stackTraces = false) {Z G : Nat → Nat} {o2 q3 cm : Nat} {g : Int32} {ar : rA} {cm2 : Nat} {g2 : Int32} {ar2 : rA} {aw : Nat → Int64} {M : Mm} (hI : lI D Z G o2 q3 cm g ar cm2 g2 ar2 aw M) (hw : wf ar cm) (hb : BD ar cm) {v f : Int32} : mXi D A l yL_setFill wsL_setFill ({ frames := 10, cells := 43, slots := 2420, locals := 770 } : Room) [.ref (Z 0), .int v, .int f, .ref q3] M (fun r M' => r = k_setFill cm ar v f ∧ ∃ (Z' : Nat → Nat) (aw' : Nat → Int64), Z' 0 = Z 0 ∧ (k_setFill cm ar v f = 0 → aw' 0 = Int32.toInt64 (ar 10 (jN v))) ∧ lI D Z' G o2 q3 cm g (if k_setFill cm ar v f = 0 then (s_setFill ar v f) else ar) cm2 g2 ar2 aw' M') (fun _ _ => False) 43 2420 := by
  refine m_startH (cc := cL_setFill) (maxL := 5) (ret := (some .int)) (hh := [(0, 10, 13, 13), (0, 10, 17, 21)]) (by decide) rfl (Nat.le_of_ble_eq_true rfl) ?_
  intro p e s m args below meth c C hT
  refine m_sub (L' := [(0, .ref (Z 0)), (1, .int v), (2, .int f), (3, .ref q3)]) [0, 1, 2, 3] rfl ?_
  obtain ⟨F, hc, hre⟩ := hI.cls
  obtain ⟨mf0, hme⟩ := hI.z0
  refine m_aload_n C dL_setFill_0 rfl 3 rfl ?_
  refine m_iconst (v := 0) C dL_setFill_1 (by decide) ?_
  refine m_aload_n C dL_setFill_2 rfl 0 rfl ?_
  refine m_iload_n C dL_setFill_3 rfl 1 rfl ?_
  refine m_iload_n C dL_setFill_4 rfl 2 rfl ?_
  refine m_callVXiH (As := [.int v, .int f]) (st := [.int 0, .ref q3]) C hme rfl (c_X7_setFill D A l hst hc hw hb) (cwV 2 C.1.2.2.2.2 gL_setFill_X7_setFill rfl rfl rfl (by decide +kernel) ⟨Nat.le_of_ble_eq_true rfl, Nat.le_of_ble_eq_true rfl⟩) rfl rfl (Nat.le_of_ble_eq_true rfl) dL_setFill_5 ⟨Nat.le_of_ble_eq_true rfl, Nat.le_of_ble_eq_true rfl⟩ (fun E M9 hx => ?_) (fun r M9 hp => ?_)
  · obtain ⟨hc', hx⟩ := hx
    rcases hx with ⟨hk, rfl⟩ | ⟨hk, rfl⟩
    · have hn : ¬ k_setFill cm ar v f = 0 := fun z => absurd (hk.symm.trans z) (by decide)
      refine ⟨13, mK_at C [] [(0, 10, 17, 21)] hT (fun z hz => absurd hz List.not_mem_nil) ⟨by decide, by decide⟩ (by decide) (by decide +kernel) (by decide +kernel), fun q => ?_⟩
      refine m_astore (L' := [(4, .ref q), (0, .ref (Z 0)), (1, .int v), (2, .int f), (3, .ref q3)]) C dL_setFill_13 (by decide) rfl ?_
      refine m_iconst (v := 1) C dL_setFill_15 (by decide) ?_
      exact m_iretX C (Nat.le_of_ble_eq_true rfl) (Nat.le_of_ble_eq_true rfl) dL_setFill_16 ⟨hk.symm, Z, aw, rfl, fun z => absurd z hn, by rw [if_neg hn]; exact hre Z F cm g ar M9 (fun _ _ h => h) hc'⟩
    · have hn : ¬ k_setFill cm ar v f = 0 := fun z => absurd (hk.symm.trans z) (by decide)
      refine ⟨17, mK_at C [(0, 10, 13, 13)] [] hT (fun z hz => by cases List.mem_singleton.mp hz; exact ⟨by decide, "java/lang/IndexOutOfBoundsException", by decide +kernel, by decide +kernel⟩) ⟨by decide, by decide⟩ (by decide) (by decide +kernel) (by decide +kernel), fun q => ?_⟩
      refine m_astore (L' := [(4, .ref q), (0, .ref (Z 0)), (1, .int v), (2, .int f), (3, .ref q3)]) C dL_setFill_17 (by decide) rfl ?_
      refine m_iconst (v := 2) C dL_setFill_19 (by decide) ?_
      exact m_iretX C (Nat.le_of_ble_eq_true rfl) (Nat.le_of_ble_eq_true rfl) dL_setFill_20 ⟨hk.symm, Z, aw, rfl, fun z => absurd z hn, by rw [if_neg hn]; exact hre Z F cm g ar M9 (fun _ _ h => h) hc'⟩
  · obtain ⟨hk, hr, hc'⟩ := hp
    subst hr
    have hJ := hre Z F _ _ _ M9 (fun _ _ h => h) hc'
    refine m_i2l (v := Int32.toInt64 (ar 10 (jN v))) C dL_setFill_8 rfl ?_
    refine m_last C hJ.ans (by unfold vp_in; decide) dL_setFill_9 ?_
    refine m_goto (tgt := 21) C dL_setFill_10 (by decide) ?_
    refine m_iconst (v := 0) C dL_setFill_21 (by decide) ?_
    exact m_iretX C (Nat.le_of_ble_eq_true rfl) (Nat.le_of_ble_eq_true rfl) dL_setFill_22 ⟨hk.symm, Z, vp_updL aw (0 : Int32).toNatClampNeg (Int32.toInt64 (ar 10 (jN v))), rfl, fun _ => aw_0, by rw [if_pos hk]; exact hJ.put _⟩
set_option maxHeartbeats 4000000 in
set_option maxRecDepth 100000 in
theorem c_L_setOpacity (D : mD) (A : Nat → Prop) (l : Launch) (hst : l.stackTraces = false) {Z G : Nat → Nat} {o2 q3 cm : Nat} {g : Int32} {ar : rA} {cm2 : Nat} {g2 : Int32} {ar2 : rA} {aw : Nat → Int64} {M : Mm} (hI : lI D Z G o2 q3 cm g ar cm2 g2 ar2 aw M) (hw : wf ar cm) (hb : BD ar cm) {v f : Int32} {h : Bool} : mXi D A l yL_setOpacity wsL_setOpacity ({ frames := 10, cells := 43, slots := 2420, locals := 770 } : Room) [.ref (Z 0), .int v, .int f, .int (bI h), .ref q3] M (fun r M' => r = k_setOpacity cm ar v f ∧ ∃ (Z' : Nat → Nat) (aw' : Nat → Int64), Z' 0 = Z 0 ∧ (k_setOpacity cm ar v f = 0 → aw' 0 = Int32.toInt64 (ar 11 (jN v))) ∧ lI D Z' G o2 q3 cm g (if k_setOpacity cm ar v f = 0 then (s_setOpacity ar v f h) else ar) cm2 g2 ar2 aw' M') (fun _ _ => False) 43 2420 := by
  refine m_startH (cc := cL_setOpacity) (maxL := 6) (ret := (some .int)) (hh := [(0, 12, 15, 13), (0, 12, 19, 21)]) (by decide) rfl (Nat.le_of_ble_eq_true rfl) ?_
  intro p e s m args below meth c C hT
  refine m_sub (L' := [(0, .ref (Z 0)), (1, .int v), (2, .int f), (3, .int (bI h)), (4, .ref q3)]) [0, 1, 2, 3, 4] rfl ?_
  obtain ⟨F, hc, hre⟩ := hI.cls
  obtain ⟨mf0, hme⟩ := hI.z0
  refine m_aload C dL_setOpacity_0 4 rfl ?_
  refine m_iconst (v := 0) C dL_setOpacity_2 (by decide) ?_
  refine m_aload_n C dL_setOpacity_3 rfl 0 rfl ?_
  refine m_iload_n C dL_setOpacity_4 rfl 1 rfl ?_
  refine m_iload_n C dL_setOpacity_5 rfl 2 rfl ?_
  refine m_iload_n C dL_setOpacity_6 rfl 3 rfl ?_
  refine m_callVXiH (As := [.int v, .int f, .int (bI h)]) (st := [.int 0, .ref q3]) C hme rfl (c_X7_setOpacity D A l hst hc hw hb) (cwV 3 C.1.2.2.2.2 gL_setOpacity_X7_setOpacity rfl rfl rfl (by decide +kernel) ⟨Nat.le_of_ble_eq_true rfl, Nat.le_of_ble_eq_true rfl⟩) rfl rfl (Nat.le_of_ble_eq_true rfl) dL_setOpacity_7 ⟨Nat.le_of_ble_eq_true rfl, Nat.le_of_ble_eq_true rfl⟩ (fun E M9 hx => ?_) (fun r M9 hp => ?_)
  · obtain ⟨hc', hx⟩ := hx
    rcases hx with ⟨hk, rfl⟩ | ⟨hk, rfl⟩
    · have hn : ¬ k_setOpacity cm ar v f = 0 := fun z => absurd (hk.symm.trans z) (by decide)
      refine ⟨15, mK_at C [] [(0, 12, 19, 21)] hT (fun z hz => absurd hz List.not_mem_nil) ⟨by decide, by decide⟩ (by decide) (by decide +kernel) (by decide +kernel), fun q => ?_⟩
      refine m_astore (L' := [(5, .ref q), (0, .ref (Z 0)), (1, .int v), (2, .int f), (3, .int (bI h)), (4, .ref q3)]) C dL_setOpacity_15 (by decide) rfl ?_
      refine m_iconst (v := 1) C dL_setOpacity_17 (by decide) ?_
      exact m_iretX C (Nat.le_of_ble_eq_true rfl) (Nat.le_of_ble_eq_true rfl) dL_setOpacity_18 ⟨hk.symm, Z, aw, rfl, fun z => absurd z hn, by rw [if_neg hn]; exact hre Z F cm g ar M9 (fun _ _ h => h) hc'⟩
    · have hn : ¬ k_setOpacity cm ar v f = 0 := fun z => absurd (hk.symm.trans z) (by decide)
      refine ⟨19, mK_at C [(0, 12, 15, 13)] [] hT (fun z hz => by cases List.mem_singleton.mp hz; exact ⟨by decide, "java/lang/IndexOutOfBoundsException", by decide +kernel, by decide +kernel⟩) ⟨by decide, by decide⟩ (by decide) (by decide +kernel) (by decide +kernel), fun q => ?_⟩
      refine m_astore (L' := [(5, .ref q), (0, .ref (Z 0)), (1, .int v), (2, .int f), (3, .int (bI h)), (4, .ref q3)]) C dL_setOpacity_19 (by decide) rfl ?_
      refine m_iconst (v := 2) C dL_setOpacity_21 (by decide) ?_
      exact m_iretX C (Nat.le_of_ble_eq_true rfl) (Nat.le_of_ble_eq_true rfl) dL_setOpacity_22 ⟨hk.symm, Z, aw, rfl, fun z => absurd z hn, by rw [if_neg hn]; exact hre Z F cm g ar M9 (fun _ _ h => h) hc'⟩
  · obtain ⟨hk, hr, hc'⟩ := hp
    subst hr
    have hJ := hre Z F _ _ _ M9 (fun _ _ h => h) hc'
    refine m_i2l (v := Int32.toInt64 (ar 11 (jN v))) C dL_setOpacity_10 rfl ?_
    refine m_last C hJ.ans (by unfold vp_in; decide) dL_setOpacity_11 ?_
    refine m_goto (tgt := 23) C dL_setOpacity_12 (by decide) ?_
    refine m_iconst (v := 0) C dL_setOpacity_23 (by decide) ?_
    exact m_iretX C (Nat.le_of_ble_eq_true rfl) (Nat.le_of_ble_eq_true rfl) dL_setOpacity_24 ⟨hk.symm, Z, vp_updL aw (0 : Int32).toNatClampNeg (Int32.toInt64 (ar 11 (jN v))), rfl, fun _ => aw_0, by rw [if_pos hk]; exact hJ.put _⟩
set_option maxHeartbeats 4000000 in
set_option maxRecDepth 100000 in
theorem c_L_setClip (D : mD) (A : Nat → Prop) (l : Launch) (hst : l.stackTraces = false) {Z G : Nat → Nat} {o2 q3 cm : Nat} {g : Int32} {ar : rA} {cm2 : Nat} {g2 : Int32} {ar2 : rA} {aw : Nat → Int64} {M : Mm} (hI : lI D Z G o2 q3 cm g ar cm2 g2 ar2 aw M) (hw : wf ar cm) (hb : BD ar cm) {v a b w h : Int32} : mXi D A l yL_setClip wsL_setClip ({ frames := 10, cells := 8, slots := 60, locals := 530 } : Room) [.ref (Z 0), .int v, .int a, .int b, .int w, .int h, .ref q3] M (fun r M' => r = k_setClip cm ar v a b w h ∧ ∃ (Z' : Nat → Nat) (aw' : Nat → Int64), Z' 0 = Z 0 ∧ (k_setClip cm ar v a b w h = 0 → aw' 0 = (if ((if 0 < ar 14 (4 * jN v + 2) then 1 else 0) : Int32) = 0 then 0 else 1)) ∧ lI D Z' G o2 q3 cm g (if k_setClip cm ar v a b w h = 0 then (s_setClip ar v a b w h) else ar) cm2 g2 ar2 aw' M') (fun _ _ => False) 8 60 := by
  refine m_startH (cc := cL_setClip) (maxL := 8) (ret := (some .int)) (hh := [(0, 23, 26, 13), (0, 23, 30, 21)]) (by decide) rfl (Nat.le_of_ble_eq_true rfl) ?_
  intro p e s m args below meth c C hT
  refine m_sub (L' := [(0, .ref (Z 0)), (1, .int v), (2, .int a), (3, .int b), (4, .int w), (5, .int h), (6, .ref q3)]) [0, 1, 2, 3, 4, 5, 6] rfl ?_
  obtain ⟨F, hc, hre⟩ := hI.cls
  obtain ⟨mf0, hme⟩ := hI.z0
  refine m_aload C dL_setClip_0 6 rfl ?_
  refine m_iconst (v := 0) C dL_setClip_2 (by decide) ?_
  refine m_aload_n C dL_setClip_3 rfl 0 rfl ?_
  refine m_iload_n C dL_setClip_4 rfl 1 rfl ?_
  refine m_iload_n C dL_setClip_5 rfl 2 rfl ?_
  refine m_iload_n C dL_setClip_6 rfl 3 rfl ?_
  refine m_iload C dL_setClip_7 4 rfl ?_
  refine m_iload C dL_setClip_9 5 rfl ?_
  refine m_callVXiH (As := [.int v, .int a, .int b, .int w, .int h]) (st := [.int 0, .ref q3]) C hme rfl (c_X7_setClip D A l hst hc hw hb) (cwV 5 C.1.2.2.2.2 gL_setClip_X7_setClip rfl rfl rfl (by decide +kernel) ⟨Nat.le_of_ble_eq_true rfl, Nat.le_of_ble_eq_true rfl⟩) rfl rfl (Nat.le_of_ble_eq_true rfl) dL_setClip_11 ⟨Nat.le_of_ble_eq_true rfl, Nat.le_of_ble_eq_true rfl⟩ (fun E M9 hx => ?_) (fun r M9 hp => ?_)
  · obtain ⟨hc', hx⟩ := hx
    rcases hx with ⟨hk, rfl⟩ | ⟨hk, rfl⟩
    · have hn : ¬ k_setClip cm ar v a b w h = 0 := fun z => absurd (hk.symm.trans z) (by decide)
      refine ⟨26, mK_at C [] [(0, 23, 30, 21)] hT (fun z hz => absurd hz List.not_mem_nil) ⟨by decide, by decide⟩ (by decide) (by decide +kernel) (by decide +kernel), fun q => ?_⟩
      refine m_astore (L' := [(7, .ref q), (0, .ref (Z 0)), (1, .int v), (2, .int a), (3, .int b), (4, .int w), (5, .int h), (6, .ref q3)]) C dL_setClip_26 (by decide) rfl ?_
      refine m_iconst (v := 1) C dL_setClip_28 (by decide) ?_
      exact m_iretX C (Nat.le_of_ble_eq_true rfl) (Nat.le_of_ble_eq_true rfl) dL_setClip_29 ⟨hk.symm, Z, aw, rfl, fun z => absurd z hn, by rw [if_neg hn]; exact hre Z F cm g ar M9 (fun _ _ h => h) hc'⟩
    · have hn : ¬ k_setClip cm ar v a b w h = 0 := fun z => absurd (hk.symm.trans z) (by decide)
      refine ⟨30, mK_at C [(0, 23, 26, 13)] [] hT (fun z hz => by cases List.mem_singleton.mp hz; exact ⟨by decide, "java/lang/IndexOutOfBoundsException", by decide +kernel, by decide +kernel⟩) ⟨by decide, by decide⟩ (by decide) (by decide +kernel) (by decide +kernel), fun q => ?_⟩
      refine m_astore (L' := [(7, .ref q), (0, .ref (Z 0)), (1, .int v), (2, .int a), (3, .int b), (4, .int w), (5, .int h), (6, .ref q3)]) C dL_setClip_30 (by decide) rfl ?_
      refine m_iconst (v := 2) C dL_setClip_32 (by decide) ?_
      exact m_iretX C (Nat.le_of_ble_eq_true rfl) (Nat.le_of_ble_eq_true rfl) dL_setClip_33 ⟨hk.symm, Z, aw, rfl, fun z => absurd z hn, by rw [if_neg hn]; exact hre Z F cm g ar M9 (fun _ _ h => h) hc'⟩
  · obtain ⟨hk, hr, Z', F', hX, hz, hc'⟩ := hp
    subst hr
    have hJ := hre Z' F' _ _ _ M9 hX hc'
    refine m_if_eq (tgt := 21) C dL_setClip_14 (by decide) (fun h9 => ?_) (fun h9 => ?_)
    · refine m_lconst (v := 0) C dL_setClip_21 (by decide) ?_
      refine m_last C hJ.ans (by unfold vp_in; decide) dL_setClip_22 ?_
      refine m_goto (tgt := 34) C dL_setClip_23 (by decide) ?_
      refine m_iconst (v := 0) C dL_setClip_34 (by decide) ?_
      exact m_iretX C (Nat.le_of_ble_eq_true rfl) (Nat.le_of_ble_eq_true rfl) dL_setClip_35 ⟨hk.symm, Z', vp_updL aw (0 : Int32).toNatClampNeg 0, hz, fun _ => aw_0.trans (if_pos h9).symm, by rw [if_pos hk]; exact hJ.put _⟩
    · refine m_lconst (v := 1) C dL_setClip_17 (by decide) ?_
      refine m_goto (tgt := 22) C dL_setClip_18 (by decide) ?_
      refine m_last C hJ.ans (by unfold vp_in; decide) dL_setClip_22 ?_
      refine m_goto (tgt := 34) C dL_setClip_23 (by decide) ?_
      refine m_iconst (v := 0) C dL_setClip_34 (by decide) ?_
      exact m_iretX C (Nat.le_of_ble_eq_true rfl) (Nat.le_of_ble_eq_true rfl) dL_setClip_35 ⟨hk.symm, Z', vp_updL aw (0 : Int32).toNatClampNeg 1, hz, fun _ => aw_0.trans (if_neg h9).symm, by rw [if_pos hk]; exact hJ.put _⟩
set_option maxHeartbeats 4000000 in
set_option maxRecDepth 100000 in
theorem c_L_setMask (D : mD) (A : Nat → Prop) (l : Launch) (hst : l.stackTraces = false) {Z G : Nat → Nat} {o2 q3 cm : Nat} {g : Int32} {ar : rA} {cm2 : Nat} {g2 : Int32} {ar2 : rA} {aw : Nat → Int64} {M : Mm} (hI : lI D Z G o2 q3 cm g ar cm2 g2 ar2 aw M) (hw : wf ar cm) (hb : BD ar cm) (hz13 : ∀ n, ar 13 n = 0 ∨ ar 13 n = 1) {v : Int32} {h : Bool} : mXi D A l yL_setMask wsL_setMask ({ frames := 10, cells := 3, slots := 18, locals := 490 } : Room) [.ref (Z 0), .int v, .int (bI h), .ref q3] M (fun r M' => r = k_setMask cm ar v ∧ ∃ (Z' : Nat → Nat) (aw' : Nat → Int64), Z' 0 = Z 0 ∧ (k_setMask cm ar v = 0 → aw' 0 = (if (ar 13 (jN v) : Int32) = 0 then 0 else 1)) ∧ lI D Z' G o2 q3 cm g (if k_setMask cm ar v = 0 then (s_setMask ar v h) else ar) cm2 g2 ar2 aw' M') (fun _ _ => False) 3 18 := by
  refine m_startH (cc := cL_setMask) (maxL := 5) (ret := (some .int)) (hh := [(0, 17, 20, 13), (0, 17, 24, 15)]) (by decide) rfl (Nat.le_of_ble_eq_true rfl) ?_
  intro p e s m args below meth c C hT
  refine m_sub (L' := [(0, .ref (Z 0)), (1, .int v), (2, .int (bI h)), (3, .ref q3)]) [0, 1, 2, 3] rfl ?_
  obtain ⟨F, hc, hre⟩ := hI.cls
  obtain ⟨mf0, hme⟩ := hI.z0
  refine m_aload_n C dL_setMask_0 rfl 3 rfl ?_
  refine m_iconst (v := 0) C dL_setMask_1 (by decide) ?_
  refine m_aload_n C dL_setMask_2 rfl 0 rfl ?_
  refine m_iload_n C dL_setMask_3 rfl 1 rfl ?_
  refine m_iload_n C dL_setMask_4 rfl 2 rfl ?_
  refine m_callVXiH (As := [.int v, .int (bI h)]) (st := [.int 0, .ref q3]) C hme rfl (c_X7_setMask D A l hst hc hw hb hz13) (cwV 2 C.1.2.2.2.2 gL_setMask_X7_setMask rfl rfl rfl (by decide +kernel) ⟨Nat.le_of_ble_eq_true rfl, Nat.le_of_ble_eq_true rfl⟩) rfl rfl (Nat.le_of_ble_eq_true rfl) dL_setMask_5 ⟨Nat.le_of_ble_eq_true rfl, Nat.le_of_ble_eq_true rfl⟩ (fun E M9 hx => ?_) (fun r M9 hp => ?_)
  · obtain ⟨hc', hx⟩ := hx
    rcases hx with ⟨hk, rfl⟩ | ⟨hk, rfl⟩
    · have hn : ¬ k_setMask cm ar v = 0 := fun z => absurd (hk.symm.trans z) (by decide)
      refine ⟨20, mK_at C [] [(0, 17, 24, 15)] hT (fun z hz => absurd hz List.not_mem_nil) ⟨by decide, by decide⟩ (by decide) (by decide +kernel) (by decide +kernel), fun q => ?_⟩
      refine m_astore (L' := [(4, .ref q), (0, .ref (Z 0)), (1, .int v), (2, .int (bI h)), (3, .ref q3)]) C dL_setMask_20 (by decide) rfl ?_
      refine m_iconst (v := 1) C dL_setMask_22 (by decide) ?_
      exact m_iretX C (Nat.le_of_ble_eq_true rfl) (Nat.le_of_ble_eq_true rfl) dL_setMask_23 ⟨hk.symm, Z, aw, rfl, fun z => absurd z hn, by rw [if_neg hn]; exact hre Z F cm g ar M9 (fun _ _ h => h) hc'⟩
    · have hn : ¬ k_setMask cm ar v = 0 := fun z => absurd (hk.symm.trans z) (by decide)
      refine ⟨24, mK_at C [(0, 17, 20, 13)] [] hT (fun z hz => by cases List.mem_singleton.mp hz; exact ⟨by decide, "java/lang/IndexOutOfBoundsException", by decide +kernel, by decide +kernel⟩) ⟨by decide, by decide⟩ (by decide) (by decide +kernel) (by decide +kernel), fun q => ?_⟩
      refine m_astore (L' := [(4, .ref q), (0, .ref (Z 0)), (1, .int v), (2, .int (bI h)), (3, .ref q3)]) C dL_setMask_24 (by decide) rfl ?_
      refine m_iconst (v := 2) C dL_setMask_26 (by decide) ?_
      exact m_iretX C (Nat.le_of_ble_eq_true rfl) (Nat.le_of_ble_eq_true rfl) dL_setMask_27 ⟨hk.symm, Z, aw, rfl, fun z => absurd z hn, by rw [if_neg hn]; exact hre Z F cm g ar M9 (fun _ _ h => h) hc'⟩
  · obtain ⟨hk, hr, hc'⟩ := hp
    subst hr
    have hJ := hre Z F _ _ _ M9 (fun _ _ h => h) hc'
    refine m_if_eq (tgt := 15) C dL_setMask_8 (by decide) (fun h9 => ?_) (fun h9 => ?_)
    · refine m_lconst (v := 0) C dL_setMask_15 (by decide) ?_
      refine m_last C hJ.ans (by unfold vp_in; decide) dL_setMask_16 ?_
      refine m_goto (tgt := 28) C dL_setMask_17 (by decide) ?_
      refine m_iconst (v := 0) C dL_setMask_28 (by decide) ?_
      exact m_iretX C (Nat.le_of_ble_eq_true rfl) (Nat.le_of_ble_eq_true rfl) dL_setMask_29 ⟨hk.symm, Z, vp_updL aw (0 : Int32).toNatClampNeg 0, rfl, fun _ => aw_0.trans (if_pos h9).symm, by rw [if_pos hk]; exact hJ.put _⟩
    · refine m_lconst (v := 1) C dL_setMask_11 (by decide) ?_
      refine m_goto (tgt := 16) C dL_setMask_12 (by decide) ?_
      refine m_last C hJ.ans (by unfold vp_in; decide) dL_setMask_16 ?_
      refine m_goto (tgt := 28) C dL_setMask_17 (by decide) ?_
      refine m_iconst (v := 0) C dL_setMask_28 (by decide) ?_
      exact m_iretX C (Nat.le_of_ble_eq_true rfl) (Nat.le_of_ble_eq_true rfl) dL_setMask_29 ⟨hk.symm, Z, vp_updL aw (0 : Int32).toNatClampNeg 1, rfl, fun _ => aw_0.trans (if_neg h9).symm, by rw [if_pos hk]; exact hJ.put _⟩
set_option maxHeartbeats 4000000 in
set_option maxRecDepth 100000 in
theorem c_L_setGround (D : mD) (A : Nat → Prop) (l : Launch) (hst : l.stackTraces = false) {Z G : Nat → Nat} {o2 q3 cm : Nat} {g : Int32} {ar : rA} {cm2 : Nat} {g2 : Int32} {ar2 : rA} {aw : Nat → Int64} {M : Mm} (hI : lI D Z G o2 q3 cm g ar cm2 g2 ar2 aw M) (hw : wf ar cm) (hb : BD ar cm) {v : Int32} : mXi D A l yL_setGround wsL_setGround ({ frames := 9, cells := 1, slots := 6, locals := 390 } : Room) [.ref (Z 0), .int v, .ref q3] M (fun r M' => r = k_setGround v ∧ ∃ (Z' : Nat → Nat) (aw' : Nat → Int64), Z' 0 = Z 0 ∧ (k_setGround v = 0 → aw' 0 = Int32.toInt64 (g)) ∧ lI D Z' G o2 q3 cm (if k_setGround v = 0 then v else g) ar cm2 g2 ar2 aw' M') (fun _ _ => False) 1 6 := by
  refine m_startH (cc := cL_setGround) (maxL := 4) (ret := (some .int)) (hh := [(0, 9, 12, 21)]) (by decide) rfl (Nat.le_of_ble_eq_true rfl) ?_
  intro p e s m args below meth c C hT
  refine m_sub (L' := [(0, .ref (Z 0)), (1, .int v), (2, .ref q3)]) [0, 1, 2] rfl ?_
  obtain ⟨F, hc, hre⟩ := hI.cls
  obtain ⟨mf0, hme⟩ := hI.z0
  refine m_aload_n C dL_setGround_0 rfl 2 rfl ?_
  refine m_iconst (v := 0) C dL_setGround_1 (by decide) ?_
  refine m_aload_n C dL_setGround_2 rfl 0 rfl ?_
  refine m_iload_n C dL_setGround_3 rfl 1 rfl ?_
  refine m_callVXiH (As := [.int v]) (st := [.int 0, .ref q3]) C hme rfl (c_X7_setGround D A l hst hc hw hb) (cwV 1 C.1.2.2.2.2 gL_setGround_X7_setGround rfl rfl rfl (by decide +kernel) ⟨Nat.le_of_ble_eq_true rfl, Nat.le_of_ble_eq_true rfl⟩) rfl rfl (Nat.le_of_ble_eq_true rfl) dL_setGround_4 ⟨Nat.le_of_ble_eq_true rfl, Nat.le_of_ble_eq_true rfl⟩ (fun E M9 hx => ?_) (fun r M9 hp => ?_)
  · obtain ⟨hc', hx⟩ := hx
    obtain ⟨hk, rfl⟩ := hx
    have hn : ¬ k_setGround v = 0 := fun z => absurd (hk.symm.trans z) (by decide)
    refine ⟨12, mK_at C [] [] hT (fun z hz => absurd hz List.not_mem_nil) ⟨by decide, by decide⟩ (by decide) (by decide +kernel) (by decide +kernel), fun q => ?_⟩
    refine m_astore_n (L' := [(3, .ref q), (0, .ref (Z 0)), (1, .int v), (2, .ref q3)]) C dL_setGround_12 rfl (by decide) rfl ?_
    refine m_iconst (v := 1) C dL_setGround_13 (by decide) ?_
    exact m_iretX C (Nat.le_of_ble_eq_true rfl) (Nat.le_of_ble_eq_true rfl) dL_setGround_14 ⟨hk.symm, Z, aw, rfl, fun z => absurd z hn, by rw [if_neg hn]; exact hre Z F cm g ar M9 (fun _ _ h => h) hc'⟩
  · obtain ⟨hk, hr, hc'⟩ := hp
    rw [hr]
    have hJ := hre Z F _ _ _ M9 (fun _ _ h => h) hc'
    refine m_i2l (v := Int32.toInt64 (g)) C dL_setGround_7 rfl ?_
    refine m_last C hJ.ans (by unfold vp_in; decide) dL_setGround_8 ?_
    refine m_goto (tgt := 15) C dL_setGround_9 (by decide) ?_
    refine m_iconst (v := 0) C dL_setGround_15 (by decide) ?_
    exact m_iretX C (Nat.le_of_ble_eq_true rfl) (Nat.le_of_ble_eq_true rfl) dL_setGround_16 ⟨hk.symm, Z, vp_updL aw (0 : Int32).toNatClampNeg (Int32.toInt64 (g)), rfl, fun _ => aw_0, by rw [if_pos hk]; exact hJ.put _⟩
set_option maxHeartbeats 4000000 in
set_option maxRecDepth 100000 in
theorem c_L_value (D : mD) (A : Nat → Prop) (l : Launch) (hst : l.stackTraces = false) {Z G : Nat → Nat} {o2 q3 cm : Nat} {g : Int32} {ar : rA} {cm2 : Nat} {g2 : Int32} {ar2 : rA} {aw : Nat → Int64} {M : Mm} (hI : lI D Z G o2 q3 cm g ar cm2 g2 ar2 aw M) (hw : wf ar cm) (hb : BD ar cm) {x y : Int32} : mXi D A l yL_value wsL_value ({ frames := 11, cells := 1, slots := 6, locals := 670 } : Room) [.ref (Z 0), .int x, .int y, .ref q3] M (fun r M' => r = k_pix x y ∧ ∃ (Z' : Nat → Nat) (aw' : Nat → Int64), Z' 0 = Z 0 ∧ (k_pix x y = 0 → aw' 0 = Int32.toInt64 (q_val ar g (pre9 ar 0) x y)) ∧ lI D Z' G o2 q3 cm g ar cm2 g2 ar2 aw' M') (fun _ _ => False) 1 6 := by
  refine m_startH (cc := cL_value) (maxL := 5) (ret := (some .int)) (hh := [(0, 10, 13, 13)]) (by decide) rfl (Nat.le_of_ble_eq_true rfl) ?_
  intro p e s m args below meth c C hT
  refine m_sub (L' := [(0, .ref (Z 0)), (1, .int x), (2, .int y), (3, .ref q3)]) [0, 1, 2, 3] rfl ?_
  obtain ⟨F, hc, hre⟩ := hI.cls
  obtain ⟨mf0, hme⟩ := hI.z0
  refine m_aload_n C dL_value_0 rfl 3 rfl ?_
  refine m_iconst (v := 0) C dL_value_1 (by decide) ?_
  refine m_aload_n C dL_value_2 rfl 0 rfl ?_
  refine m_iload_n C dL_value_3 rfl 1 rfl ?_
  refine m_iload_n C dL_value_4 rfl 2 rfl ?_
  refine m_callVXiH (As := [.int x, .int y]) (st := [.int 0, .ref q3]) C hme rfl (c_X7_value D A l hst hc hw hb) (cwV 2 C.1.2.2.2.2 gL_value_X7_value rfl rfl rfl (by decide +kernel) ⟨Nat.le_of_ble_eq_true rfl, Nat.le_of_ble_eq_true rfl⟩) rfl rfl (Nat.le_of_ble_eq_true rfl) dL_value_5 ⟨Nat.le_of_ble_eq_true rfl, Nat.le_of_ble_eq_true rfl⟩ (fun E M9 hx => ?_) (fun r M9 hp => ?_)
  · obtain ⟨hc', hx⟩ := hx
    obtain ⟨hk, rfl⟩ := hx
    have hn : ¬ k_pix x y = 0 := fun z => absurd (hk.symm.trans z) (by decide)
    refine ⟨13, mK_at C [] [] hT (fun z hz => absurd hz List.not_mem_nil) ⟨by decide, by decide⟩ (by decide) (by decide +kernel) (by decide +kernel), fun q => ?_⟩
    refine m_astore (L' := [(4, .ref q), (0, .ref (Z 0)), (1, .int x), (2, .int y), (3, .ref q3)]) C dL_value_13 (by decide) rfl ?_
    refine m_iconst (v := 1) C dL_value_15 (by decide) ?_
    exact m_iretX C (Nat.le_of_ble_eq_true rfl) (Nat.le_of_ble_eq_true rfl) dL_value_16 ⟨hk.symm, Z, aw, rfl, fun z => absurd z hn, by exact hre Z F cm g ar M9 (fun _ _ h => h) hc'⟩
  · obtain ⟨hk, hr, hc'⟩ := hp
    subst hr
    have hJ := hre Z F _ _ _ M9 (fun _ _ h => h) hc'
    refine m_i2l (v := Int32.toInt64 (q_val ar g (pre9 ar 0) x y)) C dL_value_8 rfl ?_
    refine m_last C hJ.ans (by unfold vp_in; decide) dL_value_9 ?_
    refine m_goto (tgt := 17) C dL_value_10 (by decide) ?_
    refine m_iconst (v := 0) C dL_value_17 (by decide) ?_
    exact m_iretX C (Nat.le_of_ble_eq_true rfl) (Nat.le_of_ble_eq_true rfl) dL_value_18 ⟨hk.symm, Z, vp_updL aw (0 : Int32).toNatClampNeg (Int32.toInt64 (q_val ar g (pre9 ar 0) x y)), rfl, fun _ => aw_0, by exact hJ.put _⟩
set_option maxHeartbeats 4000000 in
set_option maxRecDepth 100000 in
theorem c_L_hit (D : mD) (A : Nat → Prop) (l : Launch) (hst : l.stackTraces = false) {Z G : Nat → Nat} {o2 q3 cm : Nat} {g : Int32} {ar : rA} {cm2 : Nat} {g2 : Int32} {ar2 : rA} {aw : Nat → Int64} {M : Mm} (hI : lI D Z G o2 q3 cm g ar cm2 g2 ar2 aw M) (hw : wf ar cm) (hb : BD ar cm) {x y : Int32} : mXi D A l yL_hit wsL_hit ({ frames := 10, cells := 1, slots := 6, locals := 670 } : Room) [.ref (Z 0), .int x, .int y, .ref q3] M (fun r M' => r = k_pix x y ∧ ∃ (Z' : Nat → Nat) (aw' : Nat → Int64), Z' 0 = Z 0 ∧ (k_pix x y = 0 → aw' 0 = Int32.toInt64 (q_hitL ar (pre9 ar 0) x y)) ∧ lI D Z' G o2 q3 cm g ar cm2 g2 ar2 aw' M') (fun _ _ => False) 1 6 := by
  refine m_startH (cc := cL_hit) (maxL := 5) (ret := (some .int)) (hh := [(0, 10, 13, 13)]) (by decide) rfl (Nat.le_of_ble_eq_true rfl) ?_
  intro p e s m args below meth c C hT
  refine m_sub (L' := [(0, .ref (Z 0)), (1, .int x), (2, .int y), (3, .ref q3)]) [0, 1, 2, 3] rfl ?_
  obtain ⟨F, hc, hre⟩ := hI.cls
  obtain ⟨mf0, hme⟩ := hI.z0
  refine m_aload_n C dL_hit_0 rfl 3 rfl ?_
  refine m_iconst (v := 0) C dL_hit_1 (by decide) ?_
  refine m_aload_n C dL_hit_2 rfl 0 rfl ?_
  refine m_iload_n C dL_hit_3 rfl 1 rfl ?_
  refine m_iload_n C dL_hit_4 rfl 2 rfl ?_
  refine m_callVXiH (As := [.int x, .int y]) (st := [.int 0, .ref q3]) C hme rfl (c_X7_hit D A l hst hc hw hb) (cwV 2 C.1.2.2.2.2 gL_hit_X7_hit rfl rfl rfl (by decide +kernel) ⟨Nat.le_of_ble_eq_true rfl, Nat.le_of_ble_eq_true rfl⟩) rfl rfl (Nat.le_of_ble_eq_true rfl) dL_hit_5 ⟨Nat.le_of_ble_eq_true rfl, Nat.le_of_ble_eq_true rfl⟩ (fun E M9 hx => ?_) (fun r M9 hp => ?_)
  · obtain ⟨hc', hx⟩ := hx
    obtain ⟨hk, rfl⟩ := hx
    have hn : ¬ k_pix x y = 0 := fun z => absurd (hk.symm.trans z) (by decide)
    refine ⟨13, mK_at C [] [] hT (fun z hz => absurd hz List.not_mem_nil) ⟨by decide, by decide⟩ (by decide) (by decide +kernel) (by decide +kernel), fun q => ?_⟩
    refine m_astore (L' := [(4, .ref q), (0, .ref (Z 0)), (1, .int x), (2, .int y), (3, .ref q3)]) C dL_hit_13 (by decide) rfl ?_
    refine m_iconst (v := 1) C dL_hit_15 (by decide) ?_
    exact m_iretX C (Nat.le_of_ble_eq_true rfl) (Nat.le_of_ble_eq_true rfl) dL_hit_16 ⟨hk.symm, Z, aw, rfl, fun z => absurd z hn, by exact hre Z F cm g ar M9 (fun _ _ h => h) hc'⟩
  · obtain ⟨hk, hr, hc'⟩ := hp
    subst hr
    have hJ := hre Z F _ _ _ M9 (fun _ _ h => h) hc'
    refine m_i2l (v := Int32.toInt64 (q_hitL ar (pre9 ar 0) x y)) C dL_hit_8 rfl ?_
    refine m_last C hJ.ans (by unfold vp_in; decide) dL_hit_9 ?_
    refine m_goto (tgt := 17) C dL_hit_10 (by decide) ?_
    refine m_iconst (v := 0) C dL_hit_17 (by decide) ?_
    exact m_iretX C (Nat.le_of_ble_eq_true rfl) (Nat.le_of_ble_eq_true rfl) dL_hit_18 ⟨hk.symm, Z, vp_updL aw (0 : Int32).toNatClampNeg (Int32.toInt64 (q_hitL ar (pre9 ar 0) x y)), rfl, fun _ => aw_0, by exact hJ.put _⟩
set_option maxHeartbeats 4000000 in
set_option maxRecDepth 100000 in
theorem c_L_shows (D : mD) (A : Nat → Prop) (l : Launch) (hst : l.stackTraces = false) {Z G : Nat → Nat} {o2 q3 cm : Nat} {g : Int32} {ar : rA} {cm2 : Nat} {g2 : Int32} {ar2 : rA} {aw : Nat → Int64} {M : Mm} (hI : lI D Z G o2 q3 cm g ar cm2 g2 ar2 aw M) (hw : wf ar cm) (hb : BD ar cm) {v x y : Int32} : mXi D A l yL_shows wsL_shows ({ frames := 11, cells := 3, slots := 18, locals := 670 } : Room) [.ref (Z 0), .int v, .int x, .int y, .ref q3] M (fun r M' => r = k_shows cm ar v x y ∧ ∃ (Z' : Nat → Nat) (aw' : Nat → Int64), Z' 0 = Z 0 ∧ (k_shows cm ar v x y = 0 → aw' 0 = (if (bI (q_any ar (pre9 ar (jN v)) x y) : Int32) = 0 then 0 else 1)) ∧ lI D Z' G o2 q3 cm g ar cm2 g2 ar2 aw' M') (fun _ _ => False) 3 18 := by
  refine m_startH (cc := cL_shows) (maxL := 6) (ret := (some .int)) (hh := [(0, 19, 22, 13)]) (by decide) rfl (Nat.le_of_ble_eq_true rfl) ?_
  intro p e s m args below meth c C hT
  refine m_sub (L' := [(0, .ref (Z 0)), (1, .int v), (2, .int x), (3, .int y), (4, .ref q3)]) [0, 1, 2, 3, 4] rfl ?_
  obtain ⟨F, hc, hre⟩ := hI.cls
  obtain ⟨mf0, hme⟩ := hI.z0
  refine m_aload C dL_shows_0 4 rfl ?_
  refine m_iconst (v := 0) C dL_shows_2 (by decide) ?_
  refine m_aload_n C dL_shows_3 rfl 0 rfl ?_
  refine m_iload_n C dL_shows_4 rfl 1 rfl ?_
  refine m_iload_n C dL_shows_5 rfl 2 rfl ?_
  refine m_iload_n C dL_shows_6 rfl 3 rfl ?_
  refine m_callVXiH (As := [.int v, .int x, .int y]) (st := [.int 0, .ref q3]) C hme rfl (c_X7_shows D A l hst hc hw hb) (cwV 3 C.1.2.2.2.2 gL_shows_X7_shows rfl rfl rfl (by decide +kernel) ⟨Nat.le_of_ble_eq_true rfl, Nat.le_of_ble_eq_true rfl⟩) rfl rfl (Nat.le_of_ble_eq_true rfl) dL_shows_7 ⟨Nat.le_of_ble_eq_true rfl, Nat.le_of_ble_eq_true rfl⟩ (fun E M9 hx => ?_) (fun r M9 hp => ?_)
  · obtain ⟨hc', hx⟩ := hx
    obtain ⟨hk, rfl⟩ := hx
    have hn : ¬ k_shows cm ar v x y = 0 := fun z => absurd (hk.symm.trans z) (by decide)
    refine ⟨22, mK_at C [] [] hT (fun z hz => absurd hz List.not_mem_nil) ⟨by decide, by decide⟩ (by decide) (by decide +kernel) (by decide +kernel), fun q => ?_⟩
    refine m_astore (L' := [(5, .ref q), (0, .ref (Z 0)), (1, .int v), (2, .int x), (3, .int y), (4, .ref q3)]) C dL_shows_22 (by decide) rfl ?_
    refine m_iconst (v := 1) C dL_shows_24 (by decide) ?_
    exact m_iretX C (Nat.le_of_ble_eq_true rfl) (Nat.le_of_ble_eq_true rfl) dL_shows_25 ⟨hk.symm, Z, aw, rfl, fun z => absurd z hn, by exact hre Z F cm g ar M9 (fun _ _ h => h) hc'⟩
  · obtain ⟨hk, hr, hc'⟩ := hp
    subst hr
    have hJ := hre Z F _ _ _ M9 (fun _ _ h => h) hc'
    refine m_if_eq (tgt := 17) C dL_shows_10 (by decide) (fun h9 => ?_) (fun h9 => ?_)
    · refine m_lconst (v := 0) C dL_shows_17 (by decide) ?_
      refine m_last C hJ.ans (by unfold vp_in; decide) dL_shows_18 ?_
      refine m_goto (tgt := 26) C dL_shows_19 (by decide) ?_
      refine m_iconst (v := 0) C dL_shows_26 (by decide) ?_
      exact m_iretX C (Nat.le_of_ble_eq_true rfl) (Nat.le_of_ble_eq_true rfl) dL_shows_27 ⟨hk.symm, Z, vp_updL aw (0 : Int32).toNatClampNeg 0, rfl, fun _ => aw_0.trans (if_pos h9).symm, by exact hJ.put _⟩
    · refine m_lconst (v := 1) C dL_shows_13 (by decide) ?_
      refine m_goto (tgt := 18) C dL_shows_14 (by decide) ?_
      refine m_last C hJ.ans (by unfold vp_in; decide) dL_shows_18 ?_
      refine m_goto (tgt := 26) C dL_shows_19 (by decide) ?_
      refine m_iconst (v := 0) C dL_shows_26 (by decide) ?_
      exact m_iretX C (Nat.le_of_ble_eq_true rfl) (Nat.le_of_ble_eq_true rfl) dL_shows_27 ⟨hk.symm, Z, vp_updL aw (0 : Int32).toNatClampNeg 1, rfl, fun _ => aw_0.trans (if_neg h9).symm, by exact hJ.put _⟩
set_option maxHeartbeats 4000000 in
set_option maxRecDepth 100000 in
theorem c_L_extent (D : mD) (A : Nat → Prop) (l : Launch) (hst : l.stackTraces = false) {Z G : Nat → Nat} {o2 q3 cm : Nat} {g : Int32} {ar : rA} {cm2 : Nat} {g2 : Int32} {ar2 : rA} {aw : Nat → Int64} {M : Mm} (hI : lI D Z G o2 q3 cm g ar cm2 g2 ar2 aw M) (hw : wf ar cm) (hb : BD ar cm) {v w : Int32} : mXi D A l yL_extent wsL_extent ({ frames := 11, cells := 3, slots := 18, locals := 690 } : Room) [.ref (Z 0), .int v, .int w, .ref q3] M (fun r M' => r = k_extent cm ar v w ∧ ∃ (Z' : Nat → Nat) (aw' : Nat → Int64), Z' 0 = Z 0 ∧ (k_extent cm ar v w = 0 → aw' 0 = Int32.toInt64 (v_extent ar v w)) ∧ lI D Z' G o2 q3 cm g ar cm2 g2 ar2 aw' M') (fun _ _ => False) 3 18 := by
  refine m_startH (cc := cL_extent) (maxL := 5) (ret := (some .int)) (hh := [(0, 10, 13, 13)]) (by decide) rfl (Nat.le_of_ble_eq_true rfl) ?_
  intro p e s m args below meth c C hT
  refine m_sub (L' := [(0, .ref (Z 0)), (1, .int v), (2, .int w), (3, .ref q3)]) [0, 1, 2, 3] rfl ?_
  obtain ⟨F, hc, hre⟩ := hI.cls
  obtain ⟨mf0, hme⟩ := hI.z0
  refine m_aload_n C dL_extent_0 rfl 3 rfl ?_
  refine m_iconst (v := 0) C dL_extent_1 (by decide) ?_
  refine m_aload_n C dL_extent_2 rfl 0 rfl ?_
  refine m_iload_n C dL_extent_3 rfl 1 rfl ?_
  refine m_iload_n C dL_extent_4 rfl 2 rfl ?_
  refine m_callVXiH (As := [.int v, .int w]) (st := [.int 0, .ref q3]) C hme rfl (c_X7_extent D A l hst hc hw hb) (cwV 2 C.1.2.2.2.2 gL_extent_X7_extent rfl rfl rfl (by decide +kernel) ⟨Nat.le_of_ble_eq_true rfl, Nat.le_of_ble_eq_true rfl⟩) rfl rfl (Nat.le_of_ble_eq_true rfl) dL_extent_5 ⟨Nat.le_of_ble_eq_true rfl, Nat.le_of_ble_eq_true rfl⟩ (fun E M9 hx => ?_) (fun r M9 hp => ?_)
  · obtain ⟨hc', hx⟩ := hx
    obtain ⟨hk, rfl⟩ := hx
    have hn : ¬ k_extent cm ar v w = 0 := fun z => absurd (hk.symm.trans z) (by decide)
    refine ⟨13, mK_at C [] [] hT (fun z hz => absurd hz List.not_mem_nil) ⟨by decide, by decide⟩ (by decide) (by decide +kernel) (by decide +kernel), fun q => ?_⟩
    refine m_astore (L' := [(4, .ref q), (0, .ref (Z 0)), (1, .int v), (2, .int w), (3, .ref q3)]) C dL_extent_13 (by decide) rfl ?_
    refine m_iconst (v := 1) C dL_extent_15 (by decide) ?_
    exact m_iretX C (Nat.le_of_ble_eq_true rfl) (Nat.le_of_ble_eq_true rfl) dL_extent_16 ⟨hk.symm, Z, aw, rfl, fun z => absurd z hn, by exact hre Z F cm g ar M9 (fun _ _ h => h) hc'⟩
  · obtain ⟨hk, hr, hc'⟩ := hp
    subst hr
    have hJ := hre Z F _ _ _ M9 (fun _ _ h => h) hc'
    refine m_i2l (v := Int32.toInt64 (v_extent ar v w)) C dL_extent_8 rfl ?_
    refine m_last C hJ.ans (by unfold vp_in; decide) dL_extent_9 ?_
    refine m_goto (tgt := 17) C dL_extent_10 (by decide) ?_
    refine m_iconst (v := 0) C dL_extent_17 (by decide) ?_
    exact m_iretX C (Nat.le_of_ble_eq_true rfl) (Nat.le_of_ble_eq_true rfl) dL_extent_18 ⟨hk.symm, Z, vp_updL aw (0 : Int32).toNatClampNeg (Int32.toInt64 (v_extent ar v w)), rfl, fun _ => aw_0, by exact hJ.put _⟩
set_option maxHeartbeats 4000000 in
set_option maxRecDepth 100000 in
theorem c_L_changed (D : mD) (A : Nat → Prop) (l : Launch) (hst : l.stackTraces = false) {Z G : Nat → Nat} {o2 q3 cm : Nat} {g : Int32} {ar : rA} {cm2 : Nat} {g2 : Int32} {ar2 : rA} {aw : Nat → Int64} {M : Mm} (hI : lI D Z G o2 q3 cm g ar cm2 g2 ar2 aw M) (hw : wf ar cm) (hb : BD ar cm) {v : Int32} : mXi D A l yL_changed wsL_changed ({ frames := 11, cells := 1, slots := 6, locals := 670 } : Room) [.ref (Z 0), .int v, .ref q3] M (fun r M' => r = k_tile v ∧ ∃ (Z' : Nat → Nat) (aw' : Nat → Int64), Z' 0 = Z 0 ∧ (k_tile v = 0 → aw' 0 = Int32.toInt64 (nI (q_chg ar g (pre9 ar 0) (jN v) 64))) ∧ lI D Z' G o2 q3 cm g ar cm2 g2 ar2 aw' M') (fun _ _ => False) 1 6 := by
  refine m_startH (cc := cL_changed) (maxL := 4) (ret := (some .int)) (hh := [(0, 9, 12, 13)]) (by decide) rfl (Nat.le_of_ble_eq_true rfl) ?_
  intro p e s m args below meth c C hT
  refine m_sub (L' := [(0, .ref (Z 0)), (1, .int v), (2, .ref q3)]) [0, 1, 2] rfl ?_
  obtain ⟨F, hc, hre⟩ := hI.cls
  obtain ⟨mf0, hme⟩ := hI.z0
  refine m_aload_n C dL_changed_0 rfl 2 rfl ?_
  refine m_iconst (v := 0) C dL_changed_1 (by decide) ?_
  refine m_aload_n C dL_changed_2 rfl 0 rfl ?_
  refine m_iload_n C dL_changed_3 rfl 1 rfl ?_
  refine m_callVXiH (As := [.int v]) (st := [.int 0, .ref q3]) C hme rfl (c_X7_changed D A l hst hc hw hb) (cwV 1 C.1.2.2.2.2 gL_changed_X7_changed rfl rfl rfl (by decide +kernel) ⟨Nat.le_of_ble_eq_true rfl, Nat.le_of_ble_eq_true rfl⟩) rfl rfl (Nat.le_of_ble_eq_true rfl) dL_changed_4 ⟨Nat.le_of_ble_eq_true rfl, Nat.le_of_ble_eq_true rfl⟩ (fun E M9 hx => ?_) (fun r M9 hp => ?_)
  · obtain ⟨hc', hx⟩ := hx
    obtain ⟨hk, rfl⟩ := hx
    have hn : ¬ k_tile v = 0 := fun z => absurd (hk.symm.trans z) (by decide)
    refine ⟨12, mK_at C [] [] hT (fun z hz => absurd hz List.not_mem_nil) ⟨by decide, by decide⟩ (by decide) (by decide +kernel) (by decide +kernel), fun q => ?_⟩
    refine m_astore_n (L' := [(3, .ref q), (0, .ref (Z 0)), (1, .int v), (2, .ref q3)]) C dL_changed_12 rfl (by decide) rfl ?_
    refine m_iconst (v := 1) C dL_changed_13 (by decide) ?_
    exact m_iretX C (Nat.le_of_ble_eq_true rfl) (Nat.le_of_ble_eq_true rfl) dL_changed_14 ⟨hk.symm, Z, aw, rfl, fun z => absurd z hn, by exact hre Z F cm g ar M9 (fun _ _ h => h) hc'⟩
  · obtain ⟨hk, hr, hc'⟩ := hp
    subst hr
    have hJ := hre Z F _ _ _ M9 (fun _ _ h => h) hc'
    refine m_i2l (v := Int32.toInt64 (nI (q_chg ar g (pre9 ar 0) (jN v) 64))) C dL_changed_7 rfl ?_
    refine m_last C hJ.ans (by unfold vp_in; decide) dL_changed_8 ?_
    refine m_goto (tgt := 15) C dL_changed_9 (by decide) ?_
    refine m_iconst (v := 0) C dL_changed_15 (by decide) ?_
    exact m_iretX C (Nat.le_of_ble_eq_true rfl) (Nat.le_of_ble_eq_true rfl) dL_changed_16 ⟨hk.symm, Z, vp_updL aw (0 : Int32).toNatClampNeg (Int32.toInt64 (nI (q_chg ar g (pre9 ar 0) (jN v) 64))), rfl, fun _ => aw_0, by exact hJ.put _⟩
set_option maxHeartbeats 4000000 in
set_option maxRecDepth 100000 in
theorem c_L_painted (D : mD) (A : Nat → Prop) (l : Launch) (hst : l.stackTraces = false) {Z G : Nat → Nat} {o2 q3 cm : Nat} {g : Int32} {ar : rA} {cm2 : Nat} {g2 : Int32} {ar2 : rA} {aw : Nat → Int64} {M : Mm} (hI : lI D Z G o2 q3 cm g ar cm2 g2 ar2 aw M) (hw : wf ar cm) (hb : BD ar cm) {x y : Int32} : mXi D A l yL_painted wsL_painted ({ frames := 8, cells := 1, slots := 6, locals := 370 } : Room) [.ref (Z 0), .int x, .int y, .ref q3] M (fun r M' => r = k_pix x y ∧ ∃ (Z' : Nat → Nat) (aw' : Nat → Int64), Z' 0 = Z 0 ∧ (k_pix x y = 0 → aw' 0 = Int32.toInt64 (v_painted ar x y)) ∧ lI D Z' G o2 q3 cm g ar cm2 g2 ar2 aw' M') (fun _ _ => False) 1 6 := by
  refine m_startH (cc := cL_painted) (maxL := 5) (ret := (some .int)) (hh := [(0, 10, 13, 13)]) (by decide) rfl (Nat.le_of_ble_eq_true rfl) ?_
  intro p e s m args below meth c C hT
  refine m_sub (L' := [(0, .ref (Z 0)), (1, .int x), (2, .int y), (3, .ref q3)]) [0, 1, 2, 3] rfl ?_
  obtain ⟨F, hc, hre⟩ := hI.cls
  obtain ⟨mf0, hme⟩ := hI.z0
  refine m_aload_n C dL_painted_0 rfl 3 rfl ?_
  refine m_iconst (v := 0) C dL_painted_1 (by decide) ?_
  refine m_aload_n C dL_painted_2 rfl 0 rfl ?_
  refine m_iload_n C dL_painted_3 rfl 1 rfl ?_
  refine m_iload_n C dL_painted_4 rfl 2 rfl ?_
  refine m_callVXiH (As := [.int x, .int y]) (st := [.int 0, .ref q3]) C hme rfl (c_X7_painted D A l hst hc hw hb) (cwV 2 C.1.2.2.2.2 gL_painted_X7_painted rfl rfl rfl (by decide +kernel) ⟨Nat.le_of_ble_eq_true rfl, Nat.le_of_ble_eq_true rfl⟩) rfl rfl (Nat.le_of_ble_eq_true rfl) dL_painted_5 ⟨Nat.le_of_ble_eq_true rfl, Nat.le_of_ble_eq_true rfl⟩ (fun E M9 hx => ?_) (fun r M9 hp => ?_)
  · obtain ⟨hc', hx⟩ := hx
    obtain ⟨hk, rfl⟩ := hx
    have hn : ¬ k_pix x y = 0 := fun z => absurd (hk.symm.trans z) (by decide)
    refine ⟨13, mK_at C [] [] hT (fun z hz => absurd hz List.not_mem_nil) ⟨by decide, by decide⟩ (by decide) (by decide +kernel) (by decide +kernel), fun q => ?_⟩
    refine m_astore (L' := [(4, .ref q), (0, .ref (Z 0)), (1, .int x), (2, .int y), (3, .ref q3)]) C dL_painted_13 (by decide) rfl ?_
    refine m_iconst (v := 1) C dL_painted_15 (by decide) ?_
    exact m_iretX C (Nat.le_of_ble_eq_true rfl) (Nat.le_of_ble_eq_true rfl) dL_painted_16 ⟨hk.symm, Z, aw, rfl, fun z => absurd z hn, by exact hre Z F cm g ar M9 (fun _ _ h => h) hc'⟩
  · obtain ⟨hk, hr, hc'⟩ := hp
    subst hr
    have hJ := hre Z F _ _ _ M9 (fun _ _ h => h) hc'
    refine m_i2l (v := Int32.toInt64 (v_painted ar x y)) C dL_painted_8 rfl ?_
    refine m_last C hJ.ans (by unfold vp_in; decide) dL_painted_9 ?_
    refine m_goto (tgt := 17) C dL_painted_10 (by decide) ?_
    refine m_iconst (v := 0) C dL_painted_17 (by decide) ?_
    exact m_iretX C (Nat.le_of_ble_eq_true rfl) (Nat.le_of_ble_eq_true rfl) dL_painted_18 ⟨hk.symm, Z, vp_updL aw (0 : Int32).toNatClampNeg (Int32.toInt64 (v_painted ar x y)), rfl, fun _ => aw_0, by exact hJ.put _⟩
