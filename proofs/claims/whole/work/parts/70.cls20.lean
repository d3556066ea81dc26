/-! ===== the class: what is let through to a node ===== -/
theorem q_mk_P {ar : rA} {cm p c : Nat} (hw : wf ar cm) (hp : cP ar cm p) (h : q_mk ar p = some c) : cP ar cm c ∧ ¬ ar 13 p = 0 ∧ c = kid ar p 0 := by
  unfold q_mk at h
  by_cases z : ar 13 p = 0 ∨ mny ar p = 0
  · rw [if_pos z] at h
    cases h
  · rw [if_neg z] at h
    have e := Option.some.inj h
    exact ⟨by rw [← e]; exact cP_kid hw p hp 0 (by omega), fun y => z (Or.inl y), e.symm⟩
theorem zO_eq {D : mD} {Z : Nat → Nat} {P : Nat → Prop} {fs : Nat → List Value} {ls : Nat → List Nat} {na : Nat → Option Nat} {cv rw : Nat → Int32} {mf : List Value} {F M : Mm} (h : cW D Z P fs ls na cv rw mf F M) {o : Option Nat} {n : Nat} (ho : ∀ c, o = some c → P c) (hn : P n) : zO Z o = some (Z (100 + n)) ↔ o = some n := by
  cases o with
  | none => exact ⟨fun z => absurd (show (none : Option Nat) = some (Z (100 + n)) from z) (by simp), fun z => absurd z (by simp)⟩
  | some c => exact ⟨fun z => congrArg some (h.inj (ho c rfl) hn (Option.some.inj z)), fun z => by rw [Option.some.inj z]; rfl⟩
theorem opn_u {ar : rA} {cm n : Nat} (hw : wf ar cm) (hn : cP ar cm n) (px py : Int32) : q_opn ar n px py = ((decide (ar 12 n = 0) && !(q_isM ar n) && q_clpA ar px py n) && (if n = 0 then true else q_opf ar (par9 ar n) px py)) := by
  by_cases h0 : n = 0
  · subst h0
    rw [opn_0 hw, if_pos rfl, Bool.and_true]
  · rw [opn_s hw hn h0, if_neg h0]
set_option maxHeartbeats 4000000 in
set_option maxRecDepth 100000 in
theorem c_X7_openBits (D : mD) (A : Nat → Prop) (l : Launch) {Z : Nat → Nat} {F : Mm} {cm : Nat} {g : Int32} {ar : rA} {fi : Nat → Nat → Int32} {nl : Nat → Nat → Int64} {L : List Nat} {rw : Nat → Int32} {M : Mm} (hR : cS D Z F cm g ar fi nl L rw M) (hw : wf ar cm) (hb : BD ar cm) (hfv : FV ar cm fi) {n y9 : Nat} (hn : cP ar cm n) (hy9 : y9 < 48) (hop : n ≠ 0 → ∀ x9, x9 < 64 → bL (nl 1 (par9 ar n)) x9 = q_opf ar (par9 ar n) (nI x9) (nI y9)) : mMl D A l yX7_openBits wsX7_openBits ({ frames := 5, cells := 0, slots := 0, locals := 280 } : Room) [.ref (Z (100 + n)), .int (nI y9)] M (fun r M' => M' = M ∧ ∀ x9, x9 < 64 → bL r x9 = q_opn ar n (nI x9) (nI y9)) 0 0 := by
  refine m_start (cc := cX7_openBits) (maxL := 4) (ret := (some .long)) (by decide) rfl (Nat.le_of_ble_eq_true rfl) ?_
  intro p e s m args below meth c C
  have i_X3 : ∀ w ∈ wsX30, w ∈ wsX7_openBits := by decide +kernel
  have i_X0 : ∀ w ∈ wsX00, w ∈ wsX7_openBits := by decide +kernel
  refine m_sub (L' := [(0, .ref (Z (100 + n))), (1, .int (nI y9))]) [0, 1] rfl ?_
  have hcm := hw.1.2
  have hU : ∀ x9, q_opn ar n (nI x9) (nI y9) = ((decide (ar 12 n = 0) && !(q_isM ar n) && q_clpA ar (nI x9) (nI y9) n) && (if n = 0 then true else q_opf ar (par9 ar n) (nI x9) (nI y9))) := fun x9 => opn_u hw hn (nI x9) (nI y9)
  have hoP : ∀ c, (if n = 0 then none else some (par9 ar n) : Option Nat) = some c → cP ar cm c := fun c hc => by
    by_cases h0 : n = 0
    · rw [if_pos h0] at hc; cases hc
    · rw [if_neg h0] at hc; rw [← Option.some.inj hc]; exact (wf_chp hw hn.1 hn.2 h0).2
  have hmP : ∀ c, (if n = 0 then none else some (par9 ar n) : Option Nat).bind (q_mk ar) = some c → cP ar cm c := fun c hc => by
    by_cases h0 : n = 0
    · rw [if_pos h0] at hc; cases hc
    · rw [if_neg h0] at hc; exact (q_mk_P hw (wf_chp hw hn.1 hn.2 h0).2 hc).1
  have hM9 := isM_mk hw hn
  refine m_aload_n C dX7_openBits_0 rfl 0 rfl ?_
  refine m_get (ref := "PaintLayers$Node") C (hR.nd hn) rfl i_X3 8 (by decide) (by decide +kernel) (fun x h => h) (v := .int (ar 12 n)) rfl dX7_openBits_1 ?_
  refine m_if_ne (tgt := 18) C dX7_openBits_4 (by decide) (fun h_1 => ?_) (fun h_1 => ?_)
  · refine m_lconst (v := 0) C dX7_openBits_18 rfl ?_
    exact m_lret C (Nat.le_of_ble_eq_true rfl) (Nat.le_of_ble_eq_true rfl) dX7_openBits_19 (⟨rfl, fun x9 hx9 => by rw [hU, decide_eq_false h_1, Bool.false_and, Bool.false_and, Bool.false_and]; exact bL_0 x9⟩)
  · refine m_aload_n C dX7_openBits_7 rfl 0 rfl ?_
    refine m_get (ref := "PaintLayers$Node") C (hR.nd hn) rfl i_X3 3 (by decide) (by decide +kernel) (fun x h => h) (v := va_rf (nPa Z ar n)) rfl dX7_openBits_8 ?_
    rw [zO_nPa]
    refine m_callSFq (As := [va_rf (zO Z (if n = 0 then none else some (par9 ar n)))]) (st := []) C (c_X7_maskOf D A l hR hcm (cP_kid hw) hoP) (va_cwS 1 C.1.2.2.2.2 gX7_openBits_X7_maskOf rfl rfl rfl (by decide +kernel) ⟨Nat.le_of_ble_eq_true rfl, Nat.le_of_ble_eq_true rfl⟩) rfl rfl (Nat.le_of_ble_eq_true rfl) dX7_openBits_11 ⟨Nat.le_of_ble_eq_true rfl, Nat.le_of_ble_eq_true rfl⟩ ?_
    refine m_aload_n C dX7_openBits_14 rfl 0 rfl ?_
    refine m_acmp_ne (x := zO Z ((if n = 0 then none else some (par9 ar n) : Option Nat).bind (q_mk ar))) (y := some (Z (100 + n))) (tgt := 20) C dX7_openBits_15 (by decide) (fun h_2 => ?_) (fun h_2 => ?_)
    · rw [zO_eq hR.1 hmP hn] at h_2
      rw [decide_eq_false h_2] at hM9
      have hU2 : ∀ x9, q_opn ar n (nI x9) (nI y9) = (q_clpA ar (nI x9) (nI y9) n && (if n = 0 then true else q_opf ar (par9 ar n) (nI x9) (nI y9))) := fun x9 => by rw [hU, hM9, decide_eq_true h_1, Bool.true_and, Bool.not_false, Bool.true_and]
      refine m_aload_n C dX7_openBits_20 rfl 0 rfl ?_
      refine m_get (ref := "PaintLayers$Node") C (hR.nd hn) rfl i_X3 3 (by decide) (by decide +kernel) (fun x h => h) (v := va_rf (nPa Z ar n)) rfl dX7_openBits_21 ?_
      by_cases h0 : n = 0
      · rw [show nPa Z ar n = none from if_pos h0]
        refine m_ifnonnull (x := none) (tgt := 33) C dX7_openBits_24 (by decide) (fun q h => absurd h (by simp)) (fun _ => ?_)
        refine m_ldc2l (index := 304) (v := -1) C (by decide +kernel) dX7_openBits_27 ?_
        have hov : ∀ x9, x9 < 64 → bL (-1) x9 = (if n = 0 then true else q_opf ar (par9 ar n) (nI x9) (nI y9)) := fun x9 hx9 => by rw [if_pos h0]; exact bL_m1 x9 hx9
        refine m_goto (tgt := 40) C dX7_openBits_30 (by decide) ?_
        refine m_lstore_n (L' := [(2, .long ((-1))), (0, .ref (Z (100 + n))), (1, .int (nI y9))]) C dX7_openBits_40 rfl (by decide) rfl ?_
        refine m_aload_n C dX7_openBits_41 rfl 1 rfl ?_
        refine m_get (ref := "PaintLayers$Node") C (hR.nd hn) rfl i_X3 10 (by decide) (by decide +kernel) (fun x h => h) (v := va_rf (nCl Z ar n)) rfl dX7_openBits_42 ?_
        by_cases hc : 0 < ar 14 (4 * n + 2)
        · rw [show nCl Z ar n = some (Z (900 + n)) from if_pos hc]
          refine m_ifnonnull (x := some (Z (900 + n))) (tgt := 52) C dX7_openBits_45 (by decide) (fun _ _ => ?_) (fun h => absurd h (by simp))
          refine m_lload_n C dX7_openBits_52 rfl 0 rfl ?_
          refine m_aload_n C dX7_openBits_53 rfl 1 rfl ?_
          refine m_get (ref := "PaintLayers$Node") C (hR.nd hn) rfl i_X3 10 (by decide) (by decide +kernel) (fun x h => h) (v := va_rf (nCl Z ar n)) rfl dX7_openBits_54 ?_
          rw [show nCl Z ar n = some (Z (900 + n)) from if_pos hc]
          refine m_iload_n C dX7_openBits_57 rfl 2 rfl ?_
          refine m_aload_n C dX7_openBits_58 rfl 1 rfl ?_
          refine m_get (ref := "PaintLayers$Node") C (hR.nd hn) rfl i_X3 11 (by decide) (by decide +kernel) (fun x h => h) (v := .int (fi 0 n)) rfl dX7_openBits_59 ?_
          refine m_aload_n C dX7_openBits_62 rfl 1 rfl ?_
          refine m_get (ref := "PaintLayers$Node") C (hR.nd hn) rfl i_X3 12 (by decide) (by decide +kernel) (fun x h => h) (v := .int (fi 1 n)) rfl dX7_openBits_63 ?_
          have h_c := hR.1.fr ((hR.2 n hn).2.2.2 hc)
          refine m_callVPl (As := [.int (nI y9), .int (fi 0 n), .int (fi 1 n)]) (st := [.long ((-1))]) C h_c rfl (c_X0_rowBits D A l h_c) (cwV 3 C.1.2.2.2.2 gX7_openBits_X0_rowBits rfl rfl rfl (by decide +kernel) ⟨Nat.le_of_ble_eq_true rfl, Nat.le_of_ble_eq_true rfl⟩) rfl rfl (Nat.le_of_ble_eq_true rfl) dX7_openBits_66 ⟨Nat.le_of_ble_eq_true rfl, Nat.le_of_ble_eq_true rfl⟩ (fun r9 hr9 => ?_)
          have hbx := (hb n hn).2.2.2.2.2 hc
          have hob := off_b hw hb hn
          have e0 : fi 0 n = q_off ar 8 (chn ar n) 0 := hfv n hn 0 (by decide)
          have e1 : fi 1 n = q_off ar 9 (chn ar n) 0 := hfv n hn 1 (by decide)
          have hcl : ∀ x9, x9 < 64 → bL r9 x9 = q_clpA ar (nI x9) (nI y9) n := fun x9 hx9 => by
            rw [hr9 x9 hx9, e0, e1, gb_box hx9 hy9 hbx.1.1 hbx.1.2 hbx.2.1 hbx.2.2 hob.1 hob.2]
            unfold q_clpA q_box
            rw [decide_eq_true hc, Bool.not_true, Bool.false_or]
          refine m_land C dX7_openBits_69 ?_
          exact m_lret C (Nat.le_of_ble_eq_true rfl) (Nat.le_of_ble_eq_true rfl) dX7_openBits_70 (⟨rfl, fun x9 hx9 => by rw [hU2, bL_and, hcl x9 hx9, hov x9 hx9, Bool.and_comm]⟩)
        · rw [show nCl Z ar n = none from if_neg hc]
          refine m_ifnonnull (x := none) (tgt := 52) C dX7_openBits_45 (by decide) (fun q h => absurd h (by simp)) (fun _ => ?_)
          have hcl : ∀ x9, q_clpA ar (nI x9) (nI y9) n = true := fun x9 => by
            unfold q_clpA
            rw [decide_eq_false hc, Bool.not_false, Bool.true_or]
          refine m_lload_n C dX7_openBits_48 rfl 0 rfl ?_
          refine m_goto (tgt := 70) C dX7_openBits_49 (by decide) ?_
          exact m_lret C (Nat.le_of_ble_eq_true rfl) (Nat.le_of_ble_eq_true rfl) dX7_openBits_70 (⟨rfl, fun x9 hx9 => by rw [hU2, hcl, Bool.true_and]; exact hov x9 hx9⟩)
      · have hpP : cP ar cm (par9 ar n) := (wf_chp hw hn.1 hn.2 h0).2
        have hov : ∀ x9, x9 < 64 → bL (nl 1 (par9 ar n)) x9 = (if n = 0 then true else q_opf ar (par9 ar n) (nI x9) (nI y9)) := fun x9 hx9 => by rw [if_neg h0]; exact hop h0 x9 hx9
        rw [show nPa Z ar n = some (Z (100 + par9 ar n)) from if_neg h0]
        refine m_ifnonnull (x := some (Z (100 + par9 ar n))) (tgt := 33) C dX7_openBits_24 (by decide) (fun _ _ => ?_) (fun h => absurd h (by simp))
        refine m_aload_n C dX7_openBits_33 rfl 0 rfl ?_
        refine m_get (ref := "PaintLayers$Node") C (hR.nd hn) rfl i_X3 3 (by decide) (by decide +kernel) (fun x h => h) (v := va_rf (nPa Z ar n)) rfl dX7_openBits_34 ?_
        rw [show nPa Z ar n = some (Z (100 + par9 ar n)) from if_neg h0]
        refine m_get (ref := "PaintLayers$Node") C (hR.nd hpP) rfl i_X3 17 (by decide) (by decide +kernel) (fun x h => h) (v := .long (nl 1 (par9 ar n))) rfl dX7_openBits_37 ?_
        refine m_lstore_n (L' := [(2, .long (nl 1 (par9 ar n))), (0, .ref (Z (100 + n))), (1, .int (nI y9))]) C dX7_openBits_40 rfl (by decide) rfl ?_
        refine m_aload_n C dX7_openBits_41 rfl 1 rfl ?_
        refine m_get (ref := "PaintLayers$Node") C (hR.nd hn) rfl i_X3 10 (by decide) (by decide +kernel) (fun x h => h) (v := va_rf (nCl Z ar n)) rfl dX7_openBits_42 ?_
        by_cases hc : 0 < ar 14 (4 * n + 2)
        · rw [show nCl Z ar n = some (Z (900 + n)) from if_pos hc]
          refine m_ifnonnull (x := some (Z (900 + n))) (tgt := 52) C dX7_openBits_45 (by decide) (fun _ _ => ?_) (fun h => absurd h (by simp))
          refine m_lload_n C dX7_openBits_52 rfl 0 rfl ?_
          refine m_aload_n C dX7_openBits_53 rfl 1 rfl ?_
          refine m_get (ref := "PaintLayers$Node") C (hR.nd hn) rfl i_X3 10 (by decide) (by decide +kernel) (fun x h => h) (v := va_rf (nCl Z ar n)) rfl dX7_openBits_54 ?_
          rw [show nCl Z ar n = some (Z (900 + n)) from if_pos hc]
          refine m_iload_n C dX7_openBits_57 rfl 2 rfl ?_
          refine m_aload_n C dX7_openBits_58 rfl 1 rfl ?_
          refine m_get (ref := "PaintLayers$Node") C (hR.nd hn) rfl i_X3 11 (by decide) (by decide +kernel) (fun x h => h) (v := .int (fi 0 n)) rfl dX7_openBits_59 ?_
          refine m_aload_n C dX7_openBits_62 rfl 1 rfl ?_
          refine m_get (ref := "PaintLayers$Node") C (hR.nd hn) rfl i_X3 12 (by decide) (by decide +kernel) (fun x h => h) (v := .int (fi 1 n)) rfl dX7_openBits_63 ?_
          have h_c := hR.1.fr ((hR.2 n hn).2.2.2 hc)
          refine m_callVPl (As := [.int (nI y9), .int (fi 0 n), .int (fi 1 n)]) (st := [.long (nl 1 (par9 ar n))]) C h_c rfl (c_X0_rowBits D A l h_c) (cwV 3 C.1.2.2.2.2 gX7_openBits_X0_rowBits rfl rfl rfl (by decide +kernel) ⟨Nat.le_of_ble_eq_true rfl, Nat.le_of_ble_eq_true rfl⟩) rfl rfl (Nat.le_of_ble_eq_true rfl) dX7_openBits_66 ⟨Nat.le_of_ble_eq_true rfl, Nat.le_of_ble_eq_true rfl⟩ (fun r9 hr9 => ?_)
          have hbx := (hb n hn).2.2.2.2.2 hc
          have hob := off_b hw hb hn
          have e0 : fi 0 n = q_off ar 8 (chn ar n) 0 := hfv n hn 0 (by decide)
          have e1 : fi 1 n = q_off ar 9 (chn ar n) 0 := hfv n hn 1 (by decide)
          have hcl : ∀ x9, x9 < 64 → bL r9 x9 = q_clpA ar (nI x9) (nI y9) n := fun x9 hx9 => by
            rw [hr9 x9 hx9, e0, e1, gb_box hx9 hy9 hbx.1.1 hbx.1.2 hbx.2.1 hbx.2.2 hob.1 hob.2]
            unfold q_clpA q_box
            rw [decide_eq_true hc, Bool.not_true, Bool.false_or]
          refine m_land C dX7_openBits_69 ?_
          exact m_lret C (Nat.le_of_ble_eq_true rfl) (Nat.le_of_ble_eq_true rfl) dX7_openBits_70 (⟨rfl, fun x9 hx9 => by rw [hU2, bL_and, hcl x9 hx9, hov x9 hx9, Bool.and_comm]⟩)
        · rw [show nCl Z ar n = none from if_neg hc]
          refine m_ifnonnull (x := none) (tgt := 52) C dX7_openBits_45 (by decide) (fun q h => absurd h (by simp)) (fun _ => ?_)
          have hcl : ∀ x9, q_clpA ar (nI x9) (nI y9) n = true := fun x9 => by
            unfold q_clpA
            rw [decide_eq_false hc, Bool.not_false, Bool.true_or]
          refine m_lload_n C dX7_openBits_48 rfl 0 rfl ?_
          refine m_goto (tgt := 70) C dX7_openBits_49 (by decide) ?_
          exact m_lret C (Nat.le_of_ble_eq_true rfl) (Nat.le_of_ble_eq_true rfl) dX7_openBits_70 (⟨rfl, fun x9 hx9 => by rw [hU2, hcl, Bool.true_and]; exact hov x9 hx9⟩)
    · rw [zO_eq hR.1 hmP hn] at h_2
      refine m_lconst (v := 0) C dX7_openBits_18 rfl ?_
      exact m_lret C (Nat.le_of_ble_eq_true rfl) (Nat.le_of_ble_eq_true rfl) dX7_openBits_19 (⟨rfl, fun x9 hx9 => by rw [hU, hM9, decide_eq_true h_2, Bool.not_true, Bool.and_false, Bool.false_and, Bool.false_and]; exact bL_0 x9⟩)
