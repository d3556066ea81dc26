/-! ===== the class: a row is scanned ===== -/
theorem sS_at {ar : rA} {n : Nat} {px py : Int32} (h3 : ¬ ar 3 n = 0) : q_sS ar px py n = q_geo ar n (px - q_off ar 8 (chn ar n) 0) (py - q_off ar 9 (chn ar n) 0) := by
  unfold q_sS q_inS
  rw [decide_eq_true h3, Bool.true_and]
set_option maxHeartbeats 4000000 in
set_option maxRecDepth 100000 in
theorem lp_X7_scanRow1 {p : Program} {l : Launch} {e : Env} {s : State} {m : MethodId} {args : Array Value} {below : List Frame} {meth : Method} {c : Code} {Q : State → Prop} {D : mD} {A : Nat → Prop} {Z : Nat → Nat} {F : Mm} {cm : Nat} {g : Int32} {ar : rA} {fi : Nat → Nat → Int32} {rw : Nat → Int32} (hw : wf ar cm) (hb : BD ar cm) (hfv : FV ar cm fi) (i_X7 : ∀ w ∈ wsX70, w ∈ wsX7_scanRow) (i_X3 : ∀ w ∈ wsX30, w ∈ wsX7_scanRow) (iL : ∀ w ∈ wsJx4a65c0, w ∈ wsX7_scanRow) (i_X0 : ∀ w ∈ wsX00, w ∈ wsX7_scanRow) {y9 : Nat} (hy9 : y9 < 48) (C : mC p m meth c cX7_scanRow 4 s args wsX7_scanRow yX7_scanRow.cls D A yX7_scanRow none) (kx : ∀ (nl : Nat → Nat → Int64) (M : Mm), cS D Z F cm g ar fi nl (pre9 ar 0) rw M → SC ar cm nl 0 y9 (fun n px py => q_sS ar px py n) → SC ar cm nl 1 y9 (fun n px py => q_clpA ar px py n) → mV p l e ({ frames := 7, cells := 0, slots := 0, locals := 420 } : Room) s m args below meth c 4 D A Q M 0 0 [(0, .ref (Z 0)), (1, .int (nI y9))] [] 95) : ∀ (N : Nat) (i9 : Nat) (nl : Nat → Nat → Int64) (M : Mm), (pre9 ar 0).length - i9 = N → (i9 ≤ (pre9 ar 0).length) → (cS D Z F cm g ar fi nl (pre9 ar 0) rw M) → (∀ n ∈ (pre9 ar 0).take i9, ∀ x, x < 64 → bL (nl 0 n) x = q_sS ar (nI x) (nI y9) n) → (∀ n ∈ (pre9 ar 0).take i9, ∀ x, x < 64 → bL (nl 1 n) x = q_clpA ar (nI x) (nI y9) n) → mV p l e ({ frames := 7, cells := 0, slots := 0, locals := 420 } : Room) s m args below meth c 4 D A Q M 0 0 [(2, .int (nI i9)), (0, .ref (Z 0)), (1, .int (nI y9))] [] 2 := by
  intro N
  induction N using Nat.strongRecOn with
  | _ N ih =>
    intro i9 nl M hN hk hR h1 h2
    have hcm := hw.1.2
    obtain ⟨b9, cap9, f9, mc9, h_a, hB9, hnc, h60, hf9, hall⟩ := hR.od
    refine m_iload_n C dX7_scanRow_2 rfl 0 rfl ?_
    refine m_aload_n C dX7_scanRow_3 rfl 1 rfl ?_
    refine m_get (ref := "PaintLayers") C hR.me rfl i_X7 2 (by decide) (by decide +kernel) (fun x h => h) (v := .ref (Z 240)) rfl dX7_scanRow_4 ?_
    refine m_callVFi (As := []) (st := [.int (nI i9)]) (v := nI ((pre9 ar 0).length)) C h_a rfl (c_Jx4a65c_size_8abf5 D A l h_a) (cwV 0 C.1.2.2.2.2 gX7_scanRow_Jx4a65c_size_8abf5 rfl rfl rfl (by decide +kernel) ⟨Nat.le_of_ble_eq_true rfl, Nat.le_of_ble_eq_true rfl⟩) rfl rfl (Nat.le_of_ble_eq_true rfl) dX7_scanRow_7 ⟨Nat.le_of_ble_eq_true rfl, Nat.le_of_ble_eq_true rfl⟩ ?_
    refine m_icmp_ge (tgt := 95) C dX7_scanRow_10 (by decide) (fun h_1 => ?_) (fun h_1 => ?_)
    · refine m_sub (L' := [(0, .ref (Z 0)), (1, .int (nI y9))]) [1, 2] rfl ?_
      have hkm : i9 = (pre9 ar 0).length := by
        have := (nI_leI (a := (pre9 ar 0).length) (b := i9) (by omega) (by omega)).mp h_1
        omega
      rw [hkm, List.take_length] at h1 h2
      exact kx nl M hR (fun n hn x hx => h1 n (od_all hw hn) x hx) (fun n hn x hx => h2 n (od_all hw hn) x hx)
    · have hkm : i9 < (pre9 ar 0).length := by
        rcases Nat.lt_or_ge i9 (pre9 ar 0).length with z | z
        · exact z
        · exact absurd (nI_le (a := (pre9 ar 0).length) (b := i9) z (by omega)) h_1
      obtain ⟨a9, ha9⟩ : ∃ z : Nat, z = (pre9 ar 0).getD i9 0 := ⟨_, rfl⟩
      have hna : cP ar cm a9 := by rw [ha9]; exact wf_preL hw (wf_root hw).1 (wf_root hw).2 i9 hkm
      have hob := off_b hw hb hna
      have o0 : fi 0 a9 = q_off ar 8 (chn ar a9) 0 := hfv a9 hna 0 (by decide)
      have o1 : fi 1 a9 = q_off ar 9 (chn ar a9) 0 := hfv a9 hna 1 (by decide)
      have d0 : (fi 0 a9).toInt.natAbs ≤ 4000 := by rw [o0]; exact hob.1
      have d1 : (fi 1 a9).toInt.natAbs ≤ 4000 := by rw [o1]; exact hob.2
      have k56 : ∀ (r9 : Int64) (M : Mm), cS D Z F cm g ar fi (nl1 nl 0 a9 r9) (pre9 ar 0) rw M → (∀ x, x < 64 → bL r9 x = q_sS ar (nI x) (nI y9) a9) → mV p l e ({ frames := 7, cells := 0, slots := 0, locals := 420 } : Room) s m args below meth c 4 D A Q M 0 0 [(3, .ref (Z (100 + a9))), (2, .int (nI i9)), (0, .ref (Z 0)), (1, .int (nI y9))] [] 56 := by
        intro r9 M hR hr9
        obtain ⟨m_2, em_2⟩ : ∃ z : Nat → Nat → Int64, z = nl1 nl 0 a9 r9 := ⟨_, rfl⟩
        rw [← em_2] at hR
        refine m_aload_n C dX7_scanRow_56 rfl 0 rfl ?_
        refine m_aload_n C dX7_scanRow_57 rfl 0 rfl ?_
        refine m_get (ref := "PaintLayers$Node") C (hR.nd hna) rfl i_X3 10 (by decide) (by decide +kernel) (fun x h => h) (v := va_rf (nCl Z ar a9)) rfl dX7_scanRow_58 ?_
        by_cases hc : 0 < ar 14 (4 * a9 + 2)
        · rw [show nCl Z ar a9 = some (Z (900 + a9)) from if_pos hc]
          refine m_ifnonnull (x := some (Z (900 + a9))) (tgt := 70) C dX7_scanRow_61 (by decide) (fun _ _ => ?_) (fun h => absurd h (by simp))
          refine m_aload_n C dX7_scanRow_70 rfl 0 rfl ?_
          refine m_get (ref := "PaintLayers$Node") C (hR.nd hna) rfl i_X3 10 (by decide) (by decide +kernel) (fun x h => h) (v := va_rf (nCl Z ar a9)) rfl dX7_scanRow_71 ?_
          rw [show nCl Z ar a9 = some (Z (900 + a9)) from if_pos hc]
          refine m_iload_n C dX7_scanRow_74 rfl 3 rfl ?_
          refine m_aload_n C dX7_scanRow_75 rfl 0 rfl ?_
          refine m_get (ref := "PaintLayers$Node") C (hR.nd hna) rfl i_X3 11 (by decide) (by decide +kernel) (fun x h => h) (v := .int (fi 0 a9)) rfl dX7_scanRow_76 ?_
          refine m_aload_n C dX7_scanRow_79 rfl 0 rfl ?_
          refine m_get (ref := "PaintLayers$Node") C (hR.nd hna) rfl i_X3 12 (by decide) (by decide +kernel) (fun x h => h) (v := .int (fi 1 a9)) rfl dX7_scanRow_80 ?_
          have h_c := hR.1.fr ((hR.2 a9 hna).2.2.2 hc)
          refine m_callVPl (As := [.int (nI y9), .int (fi 0 a9), .int (fi 1 a9)]) (st := [.ref (Z (100 + a9))]) C h_c rfl (c_X0_rowBits D A l h_c) (cwV 3 C.1.2.2.2.2 gX7_scanRow_X0_rowBits rfl rfl rfl (by decide +kernel) ⟨Nat.le_of_ble_eq_true rfl, Nat.le_of_ble_eq_true rfl⟩) rfl rfl (Nat.le_of_ble_eq_true rfl) dX7_scanRow_83 ⟨Nat.le_of_ble_eq_true rfl, Nat.le_of_ble_eq_true rfl⟩ (fun r8 hr8 => ?_)
          have hbx := (hb a9 hna).2.2.2.2.2 hc
          have hcl : ∀ x9, x9 < 64 → bL r8 x9 = q_clpA ar (nI x9) (nI y9) a9 := fun x9 hx9 => by
            rw [hr8 x9 hx9, o0, o1, gb_box hx9 hy9 hbx.1.1 hbx.1.2 hbx.2.1 hbx.2.2 hob.1 hob.2]
            unfold q_clpA q_box
            rw [decide_eq_true hc, Bool.not_true, Bool.false_or]
          refine m_put (ref := "PaintLayers$Node") C (hR.nd hna) rfl i_X3 tyX3 tyX3_ok nmX3 17 (by decide) (by decide +kernel) (fun x h => h) rfl rfl rfl (Nat.le_of_ble_eq_true rfl) (e' := .inr (6, nF Z ar fi (nl1 m_2 1 a9 r8) a9)) (congrArg (fun l9 : List Value => (.inr (6, l9) : va_E)) nF_sn1) dX7_scanRow_86 ?_
          have hR9 := hR.snl hna 1 r8
          revert hR9
          generalize m_up M _ _ = M
          intro hR
          obtain ⟨m_3, em_3⟩ : ∃ z : Nat → Nat → Int64, z = nl1 m_2 1 a9 r8 := ⟨_, rfl⟩
          rw [← em_3] at hR
          obtain ⟨x_4, ex_4⟩ : ∃ z : Int32, z = nI i9 + 1 := ⟨_, rfl⟩
          refine m_iinc (q := 1) (v := x_4) (L' := [(2, .int x_4), (3, .ref (Z (100 + a9))), (0, .ref (Z 0)), (1, .int (nI y9))]) C dX7_scanRow_89 rfl (by rw [ex_4]; rfl) (by decide) rfl ?_
          refine m_goto (tgt := 2) C dX7_scanRow_92 (by decide) ?_
          rw [nI_1] at ex_4
          subst ex_4
          refine m_sub (L' := [(2, .int (nI (i9 + 1))), (0, .ref (Z 0)), (1, .int (nI y9))]) [0, 2, 3] rfl ?_
          refine ih ((pre9 ar 0).length - (i9 + 1)) (by omega) (i9 + 1) m_3 M rfl (by omega) hR (fun n hn x hx => ?_) (fun n hn x hx => ?_)
          · rw [take_s hkm, ← ha9] at hn
            by_cases hna9 : n = a9
            · rw [hna9, ← hr9 x hx]; congr 1; simp [em_3, em_2, nl1_u]
            · rw [em_3, nl1_o hna9, em_2, nl1_o hna9]
              rcases List.mem_append.mp hn with z | z
              · exact h1 n z x hx
              · exact absurd (List.mem_singleton.mp z) hna9
          · rw [take_s hkm, ← ha9] at hn
            by_cases hna9 : n = a9
            · rw [hna9, ← hcl x hx]; congr 1; simp [em_3, em_2, nl1_u]
            · rw [em_3, nl1_o hna9, em_2, nl1_o hna9]
              rcases List.mem_append.mp hn with z | z
              · exact h2 n z x hx
              · exact absurd (List.mem_singleton.mp z) hna9
        · rw [show nCl Z ar a9 = none from if_neg hc]
          refine m_ifnonnull (x := none) (tgt := 70) C dX7_scanRow_61 (by decide) (fun q h => absurd h (by simp)) (fun _ => ?_)
          refine m_ldc2l (index := 290) (v := -1) C (by decide +kernel) dX7_scanRow_64 ?_
          have hcl : ∀ x9, x9 < 64 → bL (-1) x9 = q_clpA ar (nI x9) (nI y9) a9 := fun x9 hx9 => by
            unfold q_clpA
            rw [decide_eq_false hc, Bool.not_false, Bool.true_or]
            exact bL_m1 x9 hx9
          refine m_goto (tgt := 86) C dX7_scanRow_67 (by decide) ?_
          refine m_put (ref := "PaintLayers$Node") C (hR.nd hna) rfl i_X3 tyX3 tyX3_ok nmX3 17 (by decide) (by decide +kernel) (fun x h => h) rfl rfl rfl (Nat.le_of_ble_eq_true rfl) (e' := .inr (6, nF Z ar fi (nl1 m_2 1 a9 (-1)) a9)) (congrArg (fun l9 : List Value => (.inr (6, l9) : va_E)) nF_sn1) dX7_scanRow_86 ?_
          have hR9 := hR.snl hna 1 (-1)
          revert hR9
          generalize m_up M _ _ = M
          intro hR
          obtain ⟨m_5, em_5⟩ : ∃ z : Nat → Nat → Int64, z = nl1 m_2 1 a9 (-1) := ⟨_, rfl⟩
          rw [← em_5] at hR
          obtain ⟨x_6, ex_6⟩ : ∃ z : Int32, z = nI i9 + 1 := ⟨_, rfl⟩
          refine m_iinc (q := 1) (v := x_6) (L' := [(2, .int x_6), (3, .ref (Z (100 + a9))), (0, .ref (Z 0)), (1, .int (nI y9))]) C dX7_scanRow_89 rfl (by rw [ex_6]; rfl) (by decide) rfl ?_
          refine m_goto (tgt := 2) C dX7_scanRow_92 (by decide) ?_
          rw [nI_1] at ex_6
          subst ex_6
          refine m_sub (L' := [(2, .int (nI (i9 + 1))), (0, .ref (Z 0)), (1, .int (nI y9))]) [0, 2, 3] rfl ?_
          refine ih ((pre9 ar 0).length - (i9 + 1)) (by omega) (i9 + 1) m_5 M rfl (by omega) hR (fun n hn x hx => ?_) (fun n hn x hx => ?_)
          · rw [take_s hkm, ← ha9] at hn
            by_cases hna9 : n = a9
            · rw [hna9, ← hr9 x hx]; congr 1; simp [em_5, em_2, nl1_u]
            · rw [em_5, nl1_o hna9, em_2, nl1_o hna9]
              rcases List.mem_append.mp hn with z | z
              · exact h1 n z x hx
              · exact absurd (List.mem_singleton.mp z) hna9
          · rw [take_s hkm, ← ha9] at hn
            by_cases hna9 : n = a9
            · rw [hna9, ← hcl x hx]; congr 1; simp [em_5, em_2, nl1_u]
            · rw [em_5, nl1_o hna9, em_2, nl1_o hna9]
              rcases List.mem_append.mp hn with z | z
              · exact h2 n z x hx
              · exact absurd (List.mem_singleton.mp z) hna9
      refine m_aload_n C dX7_scanRow_13 rfl 1 rfl ?_
      refine m_get (ref := "PaintLayers") C hR.me rfl i_X7 2 (by decide) (by decide +kernel) (fun x h => h) (v := .ref (Z 240)) rfl dX7_scanRow_14 ?_
      refine m_iload_n C dX7_scanRow_17 rfl 0 rfl ?_
      have h_b := hB9.own (by omega)
      refine m_callVFq (As := [.int (nI i9)]) (st := []) C h_a rfl (c_Jx4a65c_get_915e3 D A l h_a h_b (j := i9) hkm ⟨hnc, by omega⟩) (cwV 1 C.1.2.2.2.2 gX7_scanRow_Jx4a65c_get_915e3 rfl rfl rfl (by decide +kernel) ⟨Nat.le_of_ble_eq_true rfl, Nat.le_of_ble_eq_true rfl⟩) rfl rfl (Nat.le_of_ble_eq_true rfl) dX7_scanRow_18 ⟨Nat.le_of_ble_eq_true rfl, Nat.le_of_ble_eq_true rfl⟩ ?_
      rw [hf9 i9 hkm, ← ha9]
      refine m_castN C (hR.nd hna) (by decide +kernel) dX7_scanRow_21 ?_
      refine m_astore_n (L' := [(3, .ref (Z (100 + a9))), (2, .int (nI i9)), (0, .ref (Z 0)), (1, .int (nI y9))]) C dX7_scanRow_24 rfl (by decide) rfl ?_
      refine m_aload_n C dX7_scanRow_25 rfl 0 rfl ?_
      refine m_aload_n C dX7_scanRow_26 rfl 0 rfl ?_
      refine m_get (ref := "PaintLayers$Node") C (hR.nd hna) rfl i_X3 1 (by decide) (by decide +kernel) (fun x h => h) (v := va_rf (nSh Z ar a9)) rfl dX7_scanRow_27 ?_
      by_cases h3 : ar 3 a9 = 0
      · rw [show nSh Z ar a9 = none from if_pos h3]
        refine m_ifnonnull (x := none) (tgt := 37) C dX7_scanRow_30 (by decide) (fun q h => absurd h (by simp)) (fun _ => ?_)
        have hsh : ∀ x, x < 64 → bL 0 x = q_sS ar (nI x) (nI y9) a9 := fun x hx => by unfold q_sS; rw [decide_eq_false (fun z => z h3), Bool.false_and]; exact bL_0 x
        refine m_lconst (v := 0) C dX7_scanRow_33 rfl ?_
        refine m_goto (tgt := 53) C dX7_scanRow_34 (by decide) ?_
        refine m_put (ref := "PaintLayers$Node") C (hR.nd hna) rfl i_X3 tyX3 tyX3_ok nmX3 16 (by decide) (by decide +kernel) (fun x h => h) rfl rfl rfl (Nat.le_of_ble_eq_true rfl) (e' := .inr (6, nF Z ar fi (nl1 nl 0 a9 0) a9)) (congrArg (fun l9 : List Value => (.inr (6, l9) : va_E)) nF_sn0) dX7_scanRow_53 ?_
        have hR9 := hR.snl hna 0 0
        revert hR9
        generalize m_up M _ _ = M
        intro hR
        obtain ⟨m_7, em_7⟩ : ∃ z : Nat → Nat → Int64, z = nl1 nl 0 a9 0 := ⟨_, rfl⟩
        rw [← em_7] at hR
        rw [em_7] at hR
        refine m_sub (L' := [(3, .ref (Z (100 + a9))), (2, .int (nI i9)), (0, .ref (Z 0)), (1, .int (nI y9))]) [0, 1, 2, 3] rfl ?_
        exact k56 _ M hR hsh
      · rw [show nSh Z ar a9 = some (Z (400 + a9)) from if_neg h3]
        refine m_ifnonnull (x := some (Z (400 + a9))) (tgt := 37) C dX7_scanRow_30 (by decide) (fun _ _ => ?_) (fun h => absurd h (by simp))
        refine m_aload_n C dX7_scanRow_37 rfl 0 rfl ?_
        refine m_get (ref := "PaintLayers$Node") C (hR.nd hna) rfl i_X3 1 (by decide) (by decide +kernel) (fun x h => h) (v := va_rf (nSh Z ar a9)) rfl dX7_scanRow_38 ?_
        rw [show nSh Z ar a9 = some (Z (400 + a9)) from if_neg h3]
        refine m_iload_n C dX7_scanRow_41 rfl 3 rfl ?_
        refine m_aload_n C dX7_scanRow_42 rfl 0 rfl ?_
        refine m_get (ref := "PaintLayers$Node") C (hR.nd hna) rfl i_X3 11 (by decide) (by decide +kernel) (fun x h => h) (v := .int (fi 0 a9)) rfl dX7_scanRow_43 ?_
        refine m_aload_n C dX7_scanRow_46 rfl 0 rfl ?_
        refine m_get (ref := "PaintLayers$Node") C (hR.nd hna) rfl i_X3 12 (by decide) (by decide +kernel) (fun x h => h) (v := .int (fi 1 a9)) rfl dX7_scanRow_47 ?_
        have ey := inx (x := y9) (by omega) d1
        rcases (hb a9 hna).2.1 with k3 | k3 | k3 | k3
        · exact absurd k3 h3
        · have hF := (hR.2 a9 hna).1 k3
          have h_s := hR.1.fr hF.1
          have h_b := hR.1.fr hF.2
          have hbb := (hb a9 hna).2.2.1 k3
          refine m_callUPl (As := [.int (nI y9), .int (fi 0 a9), .int (fi 1 a9)]) (st := [.ref (Z (100 + a9))]) C h_s rfl (c_X5_rowBits_X4 D A l h_s h_b (fun _ _ _ _ _ _ _ _ => rfl)) (va_cwU 3 C.1.2.2.2.2 gX7_scanRow_X5_rowBits_u283X4 rfl rfl rfl rfl (by decide +kernel) ⟨Nat.le_of_ble_eq_true rfl, Nat.le_of_ble_eq_true rfl⟩) rfl rfl (Nat.le_of_ble_eq_true rfl) dX7_scanRow_50 ⟨Nat.le_of_ble_eq_true rfl, Nat.le_of_ble_eq_true rfl⟩ (fun r9 hr9 => ?_)
          have hsh : ∀ x, x < 64 → bL r9 x = q_sS ar (nI x) (nI y9) a9 := fun x hx => by
            rw [hr9 x hx, sS_at h3, q_geo, if_pos k3, Bool.and_true, gb_box hx hy9 hbb.1.1 hbb.1.2 hbb.2.1 hbb.2.2 d0 d1, o0, o1]
            rfl
          refine m_put (ref := "PaintLayers$Node") C (hR.nd hna) rfl i_X3 tyX3 tyX3_ok nmX3 16 (by decide) (by decide +kernel) (fun x h => h) rfl rfl rfl (Nat.le_of_ble_eq_true rfl) (e' := .inr (6, nF Z ar fi (nl1 nl 0 a9 r9) a9)) (congrArg (fun l9 : List Value => (.inr (6, l9) : va_E)) nF_sn0) dX7_scanRow_53 ?_
          have hR9 := hR.snl hna 0 r9
          revert hR9
          generalize m_up M _ _ = M
          intro hR
          obtain ⟨m_8, em_8⟩ : ∃ z : Nat → Nat → Int64, z = nl1 nl 0 a9 r9 := ⟨_, rfl⟩
          rw [← em_8] at hR
          rw [em_8] at hR
          refine m_sub (L' := [(3, .ref (Z (100 + a9))), (2, .int (nI i9)), (0, .ref (Z 0)), (1, .int (nI y9))]) [0, 1, 2, 3] rfl ?_
          exact k56 _ M hR hsh
        · obtain ⟨hF, lf, tp, rt, bt, hF2, q1, q2, q3, q4⟩ := (hR.2 a9 hna).2.1 k3
          have h_s := hR.1.fr hF
          have h_b := hR.1.fr hF2
          have hbb := (hb a9 hna).2.2.2.1 k3
          refine m_callUPl (As := [.int (nI y9), .int (fi 0 a9), .int (fi 1 a9)]) (st := [.ref (Z (100 + a9))]) C h_s rfl (c_X5_rowBits_X2 D A l h_s h_b (cv_disc hbb.1 (by omega) d0 (by rw [ey]; omega))) (va_cwU 3 C.1.2.2.2.2 gX7_scanRow_X5_rowBits_u283X2 rfl rfl rfl rfl (by decide +kernel) ⟨Nat.le_of_ble_eq_true rfl, Nat.le_of_ble_eq_true rfl⟩) rfl rfl (Nat.le_of_ble_eq_true rfl) dX7_scanRow_50 ⟨Nat.le_of_ble_eq_true rfl, Nat.le_of_ble_eq_true rfl⟩ (fun r9 hr9 => ?_)
          have hsh : ∀ x, x < 64 → bL r9 x = q_sS ar (nI x) (nI y9) a9 := fun x hx => by
            rw [hr9 x hx, gb_disc hx hy9 hbb.1 hbb.2 d0 d1 q1 q2 q3 q4, sS_at h3, q_geo, if_neg (by rw [k3]; decide), if_pos k3, o0, o1]
            unfold hD q_disc
            rw [decide_eq_decide, Int32.not_lt]
          refine m_put (ref := "PaintLayers$Node") C (hR.nd hna) rfl i_X3 tyX3 tyX3_ok nmX3 16 (by decide) (by decide +kernel) (fun x h => h) rfl rfl rfl (Nat.le_of_ble_eq_true rfl) (e' := .inr (6, nF Z ar fi (nl1 nl 0 a9 r9) a9)) (congrArg (fun l9 : List Value => (.inr (6, l9) : va_E)) nF_sn0) dX7_scanRow_53 ?_
          have hR9 := hR.snl hna 0 r9
          revert hR9
          generalize m_up M _ _ = M
          intro hR
          obtain ⟨m_9, em_9⟩ : ∃ z : Nat → Nat → Int64, z = nl1 nl 0 a9 r9 := ⟨_, rfl⟩
          rw [← em_9] at hR
          rw [em_9] at hR
          refine m_sub (L' := [(3, .ref (Z (100 + a9))), (2, .int (nI i9)), (0, .ref (Z 0)), (1, .int (nI y9))]) [0, 1, 2, 3] rfl ?_
          exact k56 _ M hR hsh
        · obtain ⟨hF, hFa, hFb, hFc, lf, tp, rt, bt, hF2, q1, q2, q3, q4⟩ := (hR.2 a9 hna).2.2.1 k3
          have h_s := hR.1.fr hF
          have h_b := hR.1.fr hF2
          have hbb := (hb a9 hna).2.2.2.2.1 k3
          refine m_callUPl (As := [.int (nI y9), .int (fi 0 a9), .int (fi 1 a9)]) (st := [.ref (Z (100 + a9))]) C h_s rfl (c_X5_rowBits_X6 D A l h_s h_b (hR.1.fr hFa) (hR.1.fr hFb) (hR.1.fr hFc) (cv_tri ⟨hbb 0 (by decide), hbb 1 (by decide)⟩ ⟨hbb 2 (by decide), hbb 3 (by decide)⟩ ⟨hbb 4 (by decide), hbb 5 (by decide)⟩ d0 (by rw [ey]; omega))) (va_cwU 3 C.1.2.2.2.2 gX7_scanRow_X5_rowBits_u283X6 rfl rfl rfl rfl (by decide +kernel) ⟨Nat.le_of_ble_eq_true rfl, Nat.le_of_ble_eq_true rfl⟩) rfl rfl (Nat.le_of_ble_eq_true rfl) dX7_scanRow_50 ⟨Nat.le_of_ble_eq_true rfl, Nat.le_of_ble_eq_true rfl⟩ (fun r9 hr9 => ?_)
          have hsh : ∀ x, x < 64 → bL r9 x = q_sS ar (nI x) (nI y9) a9 := fun x hx => by
            rw [hr9 x hx, gb_tri (f := ar 7) (a := 6 * a9) hx hy9 hbb d0 d1 q1 q2 q3 q4, sS_at h3, q_geo, if_neg (by rw [k3]; decide), if_neg (by rw [k3]; decide), o0, o1]
          refine m_put (ref := "PaintLayers$Node") C (hR.nd hna) rfl i_X3 tyX3 tyX3_ok nmX3 16 (by decide) (by decide +kernel) (fun x h => h) rfl rfl rfl (Nat.le_of_ble_eq_true rfl) (e' := .inr (6, nF Z ar fi (nl1 nl 0 a9 r9) a9)) (congrArg (fun l9 : List Value => (.inr (6, l9) : va_E)) nF_sn0) dX7_scanRow_53 ?_
          have hR9 := hR.snl hna 0 r9
          revert hR9
          generalize m_up M _ _ = M
          intro hR
          obtain ⟨m_10, em_10⟩ : ∃ z : Nat → Nat → Int64, z = nl1 nl 0 a9 r9 := ⟨_, rfl⟩
          rw [← em_10] at hR
          rw [em_10] at hR
          refine m_sub (L' := [(3, .ref (Z (100 + a9))), (2, .int (nI i9)), (0, .ref (Z 0)), (1, .int (nI y9))]) [0, 1, 2, 3] rfl ?_
          exact k56 _ M hR hsh
set_option maxHeartbeats 4000000 in
set_option maxRecDepth 100000 in
theorem lp_X7_scanRow2 {p : Program} {l : Launch} {e : Env} {s : State} {m : MethodId} {args : Array Value} {below : List Frame} {meth : Method} {c : Code} {Q : State → Prop} {D : mD} {A : Nat → Prop} {Z : Nat → Nat} {F : Mm} {cm : Nat} {g : Int32} {ar : rA} {fi : Nat → Nat → Int32} {rw : Nat → Int32} (hw : wf ar cm) (hb : BD ar cm) (hfv : FV ar cm fi) (i_X7 : ∀ w ∈ wsX70, w ∈ wsX7_scanRow) (i_X3 : ∀ w ∈ wsX30, w ∈ wsX7_scanRow) (iL : ∀ w ∈ wsJx4a65c0, w ∈ wsX7_scanRow) (i_X0 : ∀ w ∈ wsX00, w ∈ wsX7_scanRow) {y9 : Nat} (hy9 : y9 < 48) {o9 : Nat → Int64} (C : mC p m meth c cX7_scanRow 4 s args wsX7_scanRow yX7_scanRow.cls D A yX7_scanRow none) (kx : ∀ (nl : Nat → Nat → Int64) (M : Mm), cS D Z F cm g ar fi nl (pre9 ar 0) rw M → SC ar cm nl 0 y9 (fun n px py => (pre9 ar n).any (fun m => q_sS ar px py m)) → (∀ n, nl 1 n = o9 n) → mV p l e ({ frames := 7, cells := 0, slots := 0, locals := 420 } : Room) s m args below meth c 4 D A Q M 0 0 [(0, .ref (Z 0)), (1, .int (nI y9))] [] 150) : ∀ (N : Nat) (j9 : Nat) (x2 : Int32) (nl : Nat → Nat → Int64) (M : Mm), j9 = N → (j9 ≤ (pre9 ar 0).length) → (x2 = nI j9 - 1) → (cS D Z F cm g ar fi nl (pre9 ar 0) rw M) → (SC ar cm nl 0 y9 (fun n px py => q_bk ar (fun m => q_sS ar px py m) j9 n)) → (∀ n, nl 1 n = o9 n) → mV p l e ({ frames := 7, cells := 0, slots := 0, locals := 420 } : Room) s m args below meth c 4 D A Q M 0 0 [(2, .int x2), (0, .ref (Z 0)), (1, .int (nI y9))] [] 105 := by
  intro N
  induction N using Nat.strongRecOn with
  | _ N ih =>
    intro j9 x2 nl M hN hk hx hR hB hO
    have hcm := hw.1.2
    obtain ⟨b9, cap9, f9, mc9, h_a, hB9, hnc, h60, hf9, hall⟩ := hR.od
    refine m_iload_n C dX7_scanRow_105 rfl 0 rfl ?_
    refine m_if_lt (tgt := 150) C dX7_scanRow_106 (by decide) (fun h_1 => ?_) (fun h_1 => ?_)
    · refine m_sub (L' := [(0, .ref (Z 0)), (1, .int (nI y9))]) [1, 2] rfl ?_
      have hz : j9 = 0 := by
        rcases Nat.eq_zero_or_pos j9 with z | z
        · exact z
        · rw [hx, show (1 : Int32) = nI 1 from rfl, pk_sub z] at h_1
          exact absurd h_1 (nI_pos (by omega))
      subst hz
      exact kx nl M hR (fun n hn x hx => by rw [hB n hn x hx]; exact bk_0 hw hn) hO
    · have hj1 : 0 < j9 := by
        rcases Nat.eq_zero_or_pos j9 with z | z
        · rw [hx, z] at h_1
          exact absurd (show nI 0 - 1 < 0 by decide) h_1
        · exact z
      obtain ⟨k9, rfl⟩ : ∃ k9, j9 = k9 + 1 := ⟨j9 - 1, by omega⟩
      rw [nI_pred] at hx
      subst hx
      have hkm : k9 < (pre9 ar 0).length := hk
      obtain ⟨a9, ha9⟩ : ∃ z : Nat, z = (pre9 ar 0).getD k9 0 := ⟨_, rfl⟩
      have hna : cP ar cm a9 := by rw [ha9]; exact wf_preL hw (wf_root hw).1 (wf_root hw).2 k9 hkm
      refine m_aload_n C dX7_scanRow_109 rfl 1 rfl ?_
      refine m_get (ref := "PaintLayers") C hR.me rfl i_X7 2 (by decide) (by decide +kernel) (fun x h => h) (v := .ref (Z 240)) rfl dX7_scanRow_110 ?_
      refine m_iload_n C dX7_scanRow_113 rfl 0 rfl ?_
      have h_b := hB9.own (by omega)
      refine m_callVFq (As := [.int (nI k9)]) (st := []) C h_a rfl (c_Jx4a65c_get_915e3 D A l h_a h_b (j := k9) hkm ⟨hnc, by omega⟩) (cwV 1 C.1.2.2.2.2 gX7_scanRow_Jx4a65c_get_915e3 rfl rfl rfl (by decide +kernel) ⟨Nat.le_of_ble_eq_true rfl, Nat.le_of_ble_eq_true rfl⟩) rfl rfl (Nat.le_of_ble_eq_true rfl) dX7_scanRow_114 ⟨Nat.le_of_ble_eq_true rfl, Nat.le_of_ble_eq_true rfl⟩ ?_
      rw [hf9 k9 hkm, ← ha9]
      refine m_castN C (hR.nd hna) (by decide +kernel) dX7_scanRow_117 ?_
      refine m_astore_n (L' := [(3, .ref (Z (100 + a9))), (2, .int (nI k9)), (0, .ref (Z 0)), (1, .int (nI y9))]) C dX7_scanRow_120 rfl (by decide) rfl ?_
      refine m_aload_n C dX7_scanRow_121 rfl 0 rfl ?_
      refine m_get (ref := "PaintLayers$Node") C (hR.nd hna) rfl i_X3 3 (by decide) (by decide +kernel) (fun x h => h) (v := va_rf (nPa Z ar a9)) rfl dX7_scanRow_122 ?_
      by_cases h0 : a9 = 0
      · rw [show nPa Z ar a9 = none from if_pos h0]
        refine m_ifnull (x := none) (tgt := 144) C dX7_scanRow_125 (by decide) (fun _ => ?_) (fun q h => absurd h (by simp))
        obtain ⟨x4, ex4⟩ : ∃ y : Int32, y = nI k9 - 1 := ⟨_, rfl⟩
        refine m_iinc (q := 1) (v := x4) (L' := [(2, .int x4), (3, .ref (Z (100 + a9))), (0, .ref (Z 0)), (1, .int (nI y9))]) C dX7_scanRow_144 rfl (by rw [ex4, Int32.sub_eq_add_neg]; rfl) (by decide) rfl ?_
        refine m_goto (tgt := 105) C dX7_scanRow_147 (by decide) ?_
        refine m_sub (L' := [(2, .int x4), (0, .ref (Z 0)), (1, .int (nI y9))]) [0, 2, 3] rfl ?_
        refine ih k9 (by omega) k9 x4 nl M rfl (by omega) ex4 hR (fun n hn x hx => ?_) hO
        have hs := bk_s (ar := ar) (f := fun m => q_sS ar (nI x) (nI y9) m) (n := n) hkm
        rw [← ha9] at hs
        show bL (nl 0 n) x = q_bk ar (fun m => q_sS ar (nI x) (nI y9) m) k9 n
        have hB9 : ∀ n, cP ar cm n → bL (nl 0 n) x = q_bk ar (fun m => q_sS ar (nI x) (nI y9) m) (k9 + 1) n := fun n hn => hB n hn x hx
        rw [hs]
        rw [decide_eq_false (fun z => z h0), Bool.false_and, Bool.false_and, Bool.or_false]
        exact hB9 n hn
      · have hpP : cP ar cm (par9 ar a9) := (wf_chp hw hna.1 hna.2 h0).2
        rw [show nPa Z ar a9 = some (Z (100 + par9 ar a9)) from if_neg h0]
        refine m_ifnull (x := some (Z (100 + par9 ar a9))) (tgt := 144) C dX7_scanRow_125 (by decide) (fun h => absurd h (by simp)) (fun _ _ => ?_)
        refine m_aload_n C dX7_scanRow_128 rfl 0 rfl ?_
        refine m_get (ref := "PaintLayers$Node") C (hR.nd hna) rfl i_X3 3 (by decide) (by decide +kernel) (fun x h => h) (v := va_rf (nPa Z ar a9)) rfl dX7_scanRow_129 ?_
        rw [show nPa Z ar a9 = some (Z (100 + par9 ar a9)) from if_neg h0]
        refine m_dup C dX7_scanRow_132 rfl ?_
        refine m_get (ref := "PaintLayers$Node") C (hR.nd hpP) rfl i_X3 16 (by decide) (by decide +kernel) (fun x h => h) (v := .long (nl 0 (par9 ar a9))) rfl dX7_scanRow_133 ?_
        refine m_aload_n C dX7_scanRow_136 rfl 0 rfl ?_
        refine m_get (ref := "PaintLayers$Node") C (hR.nd hna) rfl i_X3 16 (by decide) (by decide +kernel) (fun x h => h) (v := .long (nl 0 a9)) rfl dX7_scanRow_137 ?_
        refine m_lor C dX7_scanRow_140 ?_
        refine m_put (ref := "PaintLayers$Node") C (hR.nd hpP) rfl i_X3 tyX3 tyX3_ok nmX3 16 (by decide) (by decide +kernel) (fun x h => h) rfl rfl rfl (Nat.le_of_ble_eq_true rfl) (e' := .inr (6, nF Z ar fi (nl1 nl 0 (par9 ar a9) ((nl 0 (par9 ar a9)) ||| (nl 0 a9))) (par9 ar a9))) (congrArg (fun l9 : List Value => (.inr (6, l9) : va_E)) nF_sn0) dX7_scanRow_141 ?_
        have hR9 := hR.snl hpP 0 ((nl 0 (par9 ar a9)) ||| (nl 0 a9))
        revert hR9
        generalize m_up M _ _ = M
        intro hR
        obtain ⟨m_2, em_2⟩ : ∃ z : Nat → Nat → Int64, z = nl1 nl 0 (par9 ar a9) ((nl 0 (par9 ar a9)) ||| (nl 0 a9)) := ⟨_, rfl⟩
        rw [← em_2] at hR
        obtain ⟨x4, ex4⟩ : ∃ y : Int32, y = nI k9 - 1 := ⟨_, rfl⟩
        refine m_iinc (q := 1) (v := x4) (L' := [(2, .int x4), (3, .ref (Z (100 + a9))), (0, .ref (Z 0)), (1, .int (nI y9))]) C dX7_scanRow_144 rfl (by rw [ex4, Int32.sub_eq_add_neg]; rfl) (by decide) rfl ?_
        refine m_goto (tgt := 105) C dX7_scanRow_147 (by decide) ?_
        refine m_sub (L' := [(2, .int x4), (0, .ref (Z 0)), (1, .int (nI y9))]) [0, 2, 3] rfl ?_
        refine ih k9 (by omega) k9 x4 m_2 M rfl (by omega) ex4 hR (fun n hn x hx => ?_) (fun n => by rw [em_2, nl1_j (by decide)]; exact hO n)
        have hs := bk_s (ar := ar) (f := fun m => q_sS ar (nI x) (nI y9) m) (n := n) hkm
        rw [← ha9] at hs
        show bL (m_2 0 n) x = q_bk ar (fun m => q_sS ar (nI x) (nI y9) m) k9 n
        have hB9 : ∀ n, cP ar cm n → bL (nl 0 n) x = q_bk ar (fun m => q_sS ar (nI x) (nI y9) m) (k9 + 1) n := fun n hn => hB n hn x hx
        rw [hs]
        have ho := bk_own hw (f := fun m => q_sS ar (nI x) (nI y9) m) hkm (Nat.le_refl _)
        rw [← ha9] at ho
        by_cases hnp : n = par9 ar a9
        · rw [hnp, em_2, nl1_s, bL_or, hB9 _ hpP, hB9 _ hna, decide_eq_true h0, decide_eq_true rfl, Bool.true_and, Bool.true_and]
          exact congrArg _ ho
        · rw [em_2, nl1_o hnp, decide_eq_false (show ¬ par9 ar a9 = n from fun z => hnp z.symm), Bool.and_false, Bool.false_and, Bool.or_false]
          exact hB9 n hn
set_option maxHeartbeats 4000000 in
set_option maxRecDepth 100000 in
theorem lp_X7_scanRow4 {p : Program} {l : Launch} {e : Env} {s : State} {m : MethodId} {args : Array Value} {below : List Frame} {meth : Method} {c : Code} {Q : State → Prop} {D : mD} {A : Nat → Prop} {Z : Nat → Nat} {F : Mm} {cm : Nat} {g : Int32} {ar : rA} {fi : Nat → Nat → Int32} {rw : Nat → Int32} (hw : wf ar cm) (hb : BD ar cm) (hfv : FV ar cm fi) (i_X7 : ∀ w ∈ wsX70, w ∈ wsX7_scanRow) (i_X3 : ∀ w ∈ wsX30, w ∈ wsX7_scanRow) (iL : ∀ w ∈ wsJx4a65c0, w ∈ wsX7_scanRow) (i_X0 : ∀ w ∈ wsX00, w ∈ wsX7_scanRow) {y9 : Nat} (hy9 : y9 < 48) {o9 : Nat → Int64} (C : mC p m meth c cX7_scanRow 4 s args wsX7_scanRow yX7_scanRow.cls D A yX7_scanRow none) (kx : ∀ (nl : Nat → Nat → Int64) (M : Mm), cS D Z F cm g ar fi nl (pre9 ar 0) rw M → SC ar cm nl 2 y9 (fun n px py => (pre9 ar n).any (fun m => q_shown ar m px py)) → (∀ n, nl 1 n = o9 n) → mV p l e ({ frames := 7, cells := 0, slots := 0, locals := 420 } : Room) s m args below meth c 4 D A Q M 0 0 [(0, .ref (Z 0))] [] 209) : ∀ (N : Nat) (j9 : Nat) (x2 : Int32) (nl : Nat → Nat → Int64) (M : Mm), j9 = N → (j9 ≤ (pre9 ar 0).length) → (x2 = nI j9 - 1) → (cS D Z F cm g ar fi nl (pre9 ar 0) rw M) → (SC ar cm nl 2 y9 (fun n px py => q_bk ar (fun m => q_shown ar m px py) j9 n)) → (∀ n, nl 1 n = o9 n) → mV p l e ({ frames := 7, cells := 0, slots := 0, locals := 420 } : Room) s m args below meth c 4 D A Q M 0 0 [(2, .int x2), (0, .ref (Z 0))] [] 164 := by
  intro N
  induction N using Nat.strongRecOn with
  | _ N ih =>
    intro j9 x2 nl M hN hk hx hR hB hO
    have hcm := hw.1.2
    obtain ⟨b9, cap9, f9, mc9, h_a, hB9, hnc, h60, hf9, hall⟩ := hR.od
    refine m_iload_n C dX7_scanRow_164 rfl 0 rfl ?_
    refine m_if_lt (tgt := 209) C dX7_scanRow_165 (by decide) (fun h_1 => ?_) (fun h_1 => ?_)
    · refine m_sub (L' := [(0, .ref (Z 0))]) [1] rfl ?_
      have hz : j9 = 0 := by
        rcases Nat.eq_zero_or_pos j9 with z | z
        · exact z
        · rw [hx, show (1 : Int32) = nI 1 from rfl, pk_sub z] at h_1
          exact absurd h_1 (nI_pos (by omega))
      subst hz
      exact kx nl M hR (fun n hn x hx => by rw [hB n hn x hx]; exact bk_0 hw hn) hO
    · have hj1 : 0 < j9 := by
        rcases Nat.eq_zero_or_pos j9 with z | z
        · rw [hx, z] at h_1
          exact absurd (show nI 0 - 1 < 0 by decide) h_1
        · exact z
      obtain ⟨k9, rfl⟩ : ∃ k9, j9 = k9 + 1 := ⟨j9 - 1, by omega⟩
      rw [nI_pred] at hx
      subst hx
      have hkm : k9 < (pre9 ar 0).length := hk
      obtain ⟨a9, ha9⟩ : ∃ z : Nat, z = (pre9 ar 0).getD k9 0 := ⟨_, rfl⟩
      have hna : cP ar cm a9 := by rw [ha9]; exact wf_preL hw (wf_root hw).1 (wf_root hw).2 k9 hkm
      refine m_aload_n C dX7_scanRow_168 rfl 1 rfl ?_
      refine m_get (ref := "PaintLayers") C hR.me rfl i_X7 2 (by decide) (by decide +kernel) (fun x h => h) (v := .ref (Z 240)) rfl dX7_scanRow_169 ?_
      refine m_iload_n C dX7_scanRow_172 rfl 0 rfl ?_
      have h_b := hB9.own (by omega)
      refine m_callVFq (As := [.int (nI k9)]) (st := []) C h_a rfl (c_Jx4a65c_get_915e3 D A l h_a h_b (j := k9) hkm ⟨hnc, by omega⟩) (cwV 1 C.1.2.2.2.2 gX7_scanRow_Jx4a65c_get_915e3 rfl rfl rfl (by decide +kernel) ⟨Nat.le_of_ble_eq_true rfl, Nat.le_of_ble_eq_true rfl⟩) rfl rfl (Nat.le_of_ble_eq_true rfl) dX7_scanRow_173 ⟨Nat.le_of_ble_eq_true rfl, Nat.le_of_ble_eq_true rfl⟩ ?_
      rw [hf9 k9 hkm, ← ha9]
      refine m_castN C (hR.nd hna) (by decide +kernel) dX7_scanRow_176 ?_
      refine m_astore_n (L' := [(3, .ref (Z (100 + a9))), (2, .int (nI k9)), (0, .ref (Z 0))]) C dX7_scanRow_179 rfl (by decide) rfl ?_
      refine m_aload_n C dX7_scanRow_180 rfl 0 rfl ?_
      refine m_get (ref := "PaintLayers$Node") C (hR.nd hna) rfl i_X3 3 (by decide) (by decide +kernel) (fun x h => h) (v := va_rf (nPa Z ar a9)) rfl dX7_scanRow_181 ?_
      by_cases h0 : a9 = 0
      · rw [show nPa Z ar a9 = none from if_pos h0]
        refine m_ifnull (x := none) (tgt := 203) C dX7_scanRow_184 (by decide) (fun _ => ?_) (fun q h => absurd h (by simp))
        obtain ⟨x4, ex4⟩ : ∃ y : Int32, y = nI k9 - 1 := ⟨_, rfl⟩
        refine m_iinc (q := 1) (v := x4) (L' := [(2, .int x4), (3, .ref (Z (100 + a9))), (0, .ref (Z 0))]) C dX7_scanRow_203 rfl (by rw [ex4, Int32.sub_eq_add_neg]; rfl) (by decide) rfl ?_
        refine m_goto (tgt := 164) C dX7_scanRow_206 (by decide) ?_
        refine m_sub (L' := [(2, .int x4), (0, .ref (Z 0))]) [0, 2] rfl ?_
        refine ih k9 (by omega) k9 x4 nl M rfl (by omega) ex4 hR (fun n hn x hx => ?_) hO
        have hs := bk_s (ar := ar) (f := fun m => q_shown ar m (nI x) (nI y9)) (n := n) hkm
        rw [← ha9] at hs
        show bL (nl 2 n) x = q_bk ar (fun m => q_shown ar m (nI x) (nI y9)) k9 n
        have hB9 : ∀ n, cP ar cm n → bL (nl 2 n) x = q_bk ar (fun m => q_shown ar m (nI x) (nI y9)) (k9 + 1) n := fun n hn => hB n hn x hx
        rw [hs]
        rw [decide_eq_false (fun z => z h0), Bool.false_and, Bool.false_and, Bool.or_false]
        exact hB9 n hn
      · have hpP : cP ar cm (par9 ar a9) := (wf_chp hw hna.1 hna.2 h0).2
        rw [show nPa Z ar a9 = some (Z (100 + par9 ar a9)) from if_neg h0]
        refine m_ifnull (x := some (Z (100 + par9 ar a9))) (tgt := 203) C dX7_scanRow_184 (by decide) (fun h => absurd h (by simp)) (fun _ _ => ?_)
        refine m_aload_n C dX7_scanRow_187 rfl 0 rfl ?_
        refine m_get (ref := "PaintLayers$Node") C (hR.nd hna) rfl i_X3 3 (by decide) (by decide +kernel) (fun x h => h) (v := va_rf (nPa Z ar a9)) rfl dX7_scanRow_188 ?_
        rw [show nPa Z ar a9 = some (Z (100 + par9 ar a9)) from if_neg h0]
        refine m_dup C dX7_scanRow_191 rfl ?_
        refine m_get (ref := "PaintLayers$Node") C (hR.nd hpP) rfl i_X3 18 (by decide) (by decide +kernel) (fun x h => h) (v := .long (nl 2 (par9 ar a9))) rfl dX7_scanRow_192 ?_
        refine m_aload_n C dX7_scanRow_195 rfl 0 rfl ?_
        refine m_get (ref := "PaintLayers$Node") C (hR.nd hna) rfl i_X3 18 (by decide) (by decide +kernel) (fun x h => h) (v := .long (nl 2 a9)) rfl dX7_scanRow_196 ?_
        refine m_lor C dX7_scanRow_199 ?_
        refine m_put (ref := "PaintLayers$Node") C (hR.nd hpP) rfl i_X3 tyX3 tyX3_ok nmX3 18 (by decide) (by decide +kernel) (fun x h => h) rfl rfl rfl (Nat.le_of_ble_eq_true rfl) (e' := .inr (6, nF Z ar fi (nl1 nl 2 (par9 ar a9) ((nl 2 (par9 ar a9)) ||| (nl 2 a9))) (par9 ar a9))) (congrArg (fun l9 : List Value => (.inr (6, l9) : va_E)) nF_sn2) dX7_scanRow_200 ?_
        have hR9 := hR.snl hpP 2 ((nl 2 (par9 ar a9)) ||| (nl 2 a9))
        revert hR9
        generalize m_up M _ _ = M
        intro hR
        obtain ⟨m_2, em_2⟩ : ∃ z : Nat → Nat → Int64, z = nl1 nl 2 (par9 ar a9) ((nl 2 (par9 ar a9)) ||| (nl 2 a9)) := ⟨_, rfl⟩
        rw [← em_2] at hR
        obtain ⟨x4, ex4⟩ : ∃ y : Int32, y = nI k9 - 1 := ⟨_, rfl⟩
        refine m_iinc (q := 1) (v := x4) (L' := [(2, .int x4), (3, .ref (Z (100 + a9))), (0, .ref (Z 0))]) C dX7_scanRow_203 rfl (by rw [ex4, Int32.sub_eq_add_neg]; rfl) (by decide) rfl ?_
        refine m_goto (tgt := 164) C dX7_scanRow_206 (by decide) ?_
        refine m_sub (L' := [(2, .int x4), (0, .ref (Z 0))]) [0, 2] rfl ?_
        refine ih k9 (by omega) k9 x4 m_2 M rfl (by omega) ex4 hR (fun n hn x hx => ?_) (fun n => by rw [em_2, nl1_j (by decide)]; exact hO n)
        have hs := bk_s (ar := ar) (f := fun m => q_shown ar m (nI x) (nI y9)) (n := n) hkm
        rw [← ha9] at hs
        show bL (m_2 2 n) x = q_bk ar (fun m => q_shown ar m (nI x) (nI y9)) k9 n
        have hB9 : ∀ n, cP ar cm n → bL (nl 2 n) x = q_bk ar (fun m => q_shown ar m (nI x) (nI y9)) (k9 + 1) n := fun n hn => hB n hn x hx
        rw [hs]
        have ho := bk_own hw (f := fun m => q_shown ar m (nI x) (nI y9)) hkm (Nat.le_refl _)
        rw [← ha9] at ho
        by_cases hnp : n = par9 ar a9
        · rw [hnp, em_2, nl1_s, bL_or, hB9 _ hpP, hB9 _ hna, decide_eq_true h0, decide_eq_true rfl, Bool.true_and, Bool.true_and]
          exact congrArg _ ho
        · rw [em_2, nl1_o hnp, decide_eq_false (show ¬ par9 ar a9 = n from fun z => hnp z.symm), Bool.and_false, Bool.false_and, Bool.or_false]
          exact hB9 n hn
set_option maxHeartbeats 4000000 in
set_option maxRecDepth 100000 in
theorem c_X7_scanRow (D : mD) (A : Nat → Prop) (l : Launch) {Z : Nat → Nat} {F : Mm} {cm : Nat} {g : Int32} {ar : rA} {fi : Nat → Nat → Int32} {nl : Nat → Nat → Int64} {rw : Nat → Int32} {M : Mm} (hR : cS D Z F cm g ar fi nl (pre9 ar 0) rw M) (hw : wf ar cm) (hb : BD ar cm) (hfv : FV ar cm fi) {y9 : Nat} (hy9 : y9 < 48) : mMv D A l yX7_scanRow wsX7_scanRow ({ frames := 7, cells := 0, slots := 0, locals := 420 } : Room) [.ref (Z 0), .int (nI y9)] M (fun M' => ∃ nl' : Nat → Nat → Int64, cS D Z F cm g ar fi nl' (pre9 ar 0) rw M' ∧ SC ar cm nl' 2 y9 (fun n => q_any ar (pre9 ar n))) 0 0 := by
  refine m_start (cc := cX7_scanRow) (maxL := 4) (ret := none) (by decide) rfl (Nat.le_of_ble_eq_true rfl) ?_
  intro p e s m args below meth c C
  have i_X7 : ∀ w ∈ wsX70, w ∈ wsX7_scanRow := by decide +kernel
  have i_X3 : ∀ w ∈ wsX30, w ∈ wsX7_scanRow := by decide +kernel
  have iL : ∀ w ∈ wsJx4a65c0, w ∈ wsX7_scanRow := by decide +kernel
  have i_X0 : ∀ w ∈ wsX00, w ∈ wsX7_scanRow := by decide +kernel
  refine m_sub (L' := [(0, .ref (Z 0)), (1, .int (nI y9))]) [0, 1] rfl ?_
  have hcm := hw.1.2
  obtain ⟨b9, cap9, f9, mc9, h_a, hB9, hnc, h60, hf9, hall⟩ := hR.od
  refine m_iconst (v := 0) C dX7_scanRow_0 (by decide) ?_
  refine m_istore_n (L' := [(2, .int 0), (0, .ref (Z 0)), (1, .int (nI y9))]) C dX7_scanRow_1 rfl (by decide) rfl ?_
  refine m_sub (L' := [(2, .int 0), (0, .ref (Z 0)), (1, .int (nI y9))]) [0, 1, 2] rfl ?_
  refine lp_X7_scanRow1 hw hb hfv i_X7 i_X3 iL i_X0 hy9 C (fun m1 M1 hR1 hs1 hc1 => ?_) _ 0 nl M rfl (Nat.zero_le _) hR (fun n hn => by cases hn) (fun n hn => by cases hn)
  clear hB9 h_a hf9 hR hall hnc
  rename cS D Z F cm g ar fi m1 (pre9 ar 0) rw M1 => hR
  obtain ⟨b9, cap9, f9, mc9, h_a, hB9, hnc, h60, hf9, hall⟩ := hR.od
  refine m_aload_n C dX7_scanRow_95 rfl 0 rfl ?_
  refine m_get (ref := "PaintLayers") C hR.me rfl i_X7 2 (by decide) (by decide +kernel) (fun x h => h) (v := .ref (Z 240)) rfl dX7_scanRow_96 ?_
  refine m_callVFi (As := []) (st := []) (v := nI ((pre9 ar 0).length)) C h_a rfl (c_Jx4a65c_size_8abf5 D A l h_a) (cwV 0 C.1.2.2.2.2 gX7_scanRow_Jx4a65c_size_8abf5 rfl rfl rfl (by decide +kernel) ⟨Nat.le_of_ble_eq_true rfl, Nat.le_of_ble_eq_true rfl⟩) rfl rfl (Nat.le_of_ble_eq_true rfl) dX7_scanRow_99 ⟨Nat.le_of_ble_eq_true rfl, Nat.le_of_ble_eq_true rfl⟩ ?_
  refine m_iconst (v := 1) C dX7_scanRow_102 (by decide) ?_
  refine m_isub C dX7_scanRow_103 ?_
  refine m_istore_n (L' := [(2, .int ((nI ((pre9 ar 0).length)) - 1)), (0, .ref (Z 0)), (1, .int (nI y9))]) C dX7_scanRow_104 rfl (by decide) rfl ?_
  refine m_sub (L' := [(2, .int ((nI ((pre9 ar 0).length)) - 1)), (0, .ref (Z 0)), (1, .int (nI y9))]) [0, 1, 2] rfl ?_
  refine lp_X7_scanRow2 hw hb hfv i_X7 i_X3 iL i_X0 hy9 C (fun m2 M2 hR2 hs2 ho2 => ?_) _ (pre9 ar 0).length _ m1 M1 rfl (Nat.le_refl _) rfl hR (fun n hn x hx => by rw [hs1 n hn x hx]; exact (bk_end (f := fun m => q_sS ar (nI x) (nI y9) m)).symm) (fun n => rfl)
  refine m_aload_n C dX7_scanRow_150 rfl 0 rfl ?_
  refine m_callVv (As := []) (st := []) C hR2.me rfl (c_X7_handDownOpen D A l hR2 hw hb hfv hy9 hs2 (fun n hn x hx => by rw [ho2 n]; exact hc1 n hn x hx)) (cwV 0 C.1.2.2.2.2 gX7_scanRow_X7_handDownOpen rfl rfl rfl (by decide +kernel) ⟨Nat.le_of_ble_eq_true rfl, Nat.le_of_ble_eq_true rfl⟩) rfl rfl (Nat.le_of_ble_eq_true rfl) dX7_scanRow_151 ⟨Nat.le_of_ble_eq_true rfl, Nat.le_of_ble_eq_true rfl⟩ (fun M3 hq3 => ?_)
  obtain ⟨m3, hR3, hs3⟩ := hq3
  clear hB9 h_a hf9 hR hall hnc
  rename cS D Z F cm g ar fi m3 (pre9 ar 0) rw M3 => hR
  obtain ⟨b9, cap9, f9, mc9, h_a, hB9, hnc, h60, hf9, hall⟩ := hR.od
  refine m_aload_n C dX7_scanRow_154 rfl 0 rfl ?_
  refine m_get (ref := "PaintLayers") C hR.me rfl i_X7 2 (by decide) (by decide +kernel) (fun x h => h) (v := .ref (Z 240)) rfl dX7_scanRow_155 ?_
  refine m_callVFi (As := []) (st := []) (v := nI ((pre9 ar 0).length)) C h_a rfl (c_Jx4a65c_size_8abf5 D A l h_a) (cwV 0 C.1.2.2.2.2 gX7_scanRow_Jx4a65c_size_8abf5 rfl rfl rfl (by decide +kernel) ⟨Nat.le_of_ble_eq_true rfl, Nat.le_of_ble_eq_true rfl⟩) rfl rfl (Nat.le_of_ble_eq_true rfl) dX7_scanRow_158 ⟨Nat.le_of_ble_eq_true rfl, Nat.le_of_ble_eq_true rfl⟩ ?_
  refine m_iconst (v := 1) C dX7_scanRow_161 (by decide) ?_
  refine m_isub C dX7_scanRow_162 ?_
  refine m_istore_n (L' := [(2, .int ((nI ((pre9 ar 0).length)) - 1)), (0, .ref (Z 0)), (1, .int (nI y9))]) C dX7_scanRow_163 rfl (by decide) rfl ?_
  refine m_sub (L' := [(2, .int ((nI ((pre9 ar 0).length)) - 1)), (0, .ref (Z 0))]) [0, 1] rfl ?_
  refine lp_X7_scanRow4 hw hb hfv i_X7 i_X3 iL i_X0 hy9 C (fun m4 M4 hR4 hs4 _ => ?_) _ (pre9 ar 0).length _ m3 M3 rfl (Nat.le_refl _) rfl hR (fun n hn x hx => by rw [hs3 n hn x hx]; exact (bk_end (f := fun m => q_shown ar m (nI x) (nI y9))).symm) (fun n => rfl)
  exact m_vret C (Nat.le_of_ble_eq_true rfl) (Nat.le_of_ble_eq_true rfl) dX7_scanRow_209 (⟨m4, hR4, hs4⟩)

