/-! ===== the class: a row is let through, from the root down ===== -/
theorem nl1_u {nl : Nat → Nat → Int64} {j n : Nat} {v : Int64} {i m : Nat} : nl1 nl j n v i m = if i = j ∧ m = n then v else nl i m := by
  by_cases hi : i = j
  · by_cases hm : m = n
    · rw [if_pos ⟨hi, hm⟩, hi, hm, nl1_s]
    · rw [if_neg (fun z => hm z.2), nl1_o hm]
  · rw [if_neg (fun z => hi z.1), nl1_j hi]
theorem nl1_same {nl : Nat → Nat → Int64} {j n : Nat} : nl1 nl j n (nl j n) = nl := by
  funext i m
  rw [nl1_u]
  by_cases z : i = j ∧ m = n
  · rw [if_pos z, z.1, z.2]
  · rw [if_neg z]
theorem nl1_twice {nl : Nat → Nat → Int64} {j n : Nat} {u v : Int64} : nl1 (nl1 nl j n u) j n v = nl1 nl j n v := by
  funext i m
  rw [nl1_u, nl1_u, nl1_u]
  by_cases z : i = j ∧ m = n
  · rw [if_pos z, if_pos z]
  · rw [if_neg z, if_neg z, if_neg z]
theorem opr_step {ar : rA} {cm i9 y9 : Nat} {nl m : Nat → Nat → Int64} (hw : wf ar cm) (hi : i9 < (pre9 ar 0).length)
    (h1 : ∀ n ∈ (pre9 ar 0).take i9, ∀ x, x < 64 → bL (nl 1 n) x = q_opf ar n (nI x) (nI y9)) (h2 : ∀ n ∈ (pre9 ar 0).take i9, ∀ x, x < 64 → bL (nl 2 n) x = q_shown ar n (nI x) (nI y9))
    (zo : ∀ j n, n ≠ (pre9 ar 0).getD i9 0 → m j n = nl j n) (z1 : ∀ x, x < 64 → bL (m 1 ((pre9 ar 0).getD i9 0)) x = q_opf ar ((pre9 ar 0).getD i9 0) (nI x) (nI y9)) (z2 : ∀ x, x < 64 → bL (m 2 ((pre9 ar 0).getD i9 0)) x = q_shown ar ((pre9 ar 0).getD i9 0) (nI x) (nI y9)) :
    (∀ n ∈ (pre9 ar 0).take (i9 + 1), ∀ x, x < 64 → bL (m 1 n) x = q_opf ar n (nI x) (nI y9)) ∧ ∀ n ∈ (pre9 ar 0).take (i9 + 1), ∀ x, x < 64 → bL (m 2 n) x = q_shown ar n (nI x) (nI y9) := by
  have hnd := od_nd hw hi
  rw [take_s hi]
  constructor
  · intro n hn x hx
    rcases List.mem_append.mp hn with z | z
    · rw [zo 1 n (fun y => hnd (by rw [← y]; exact z))]
      exact h1 n z x hx
    · rw [List.mem_singleton.mp z]
      exact z1 x hx
  · intro n hn x hx
    rcases List.mem_append.mp hn with z | z
    · rw [zo 2 n (fun y => hnd (by rw [← y]; exact z))]
      exact h2 n z x hx
    · rw [List.mem_singleton.mp z]
      exact z2 x hx
set_option maxHeartbeats 4000000 in
set_option maxRecDepth 100000 in
theorem lp_X7_handDownOpen {p : Program} {l : Launch} {e : Env} {s : State} {m : MethodId} {args : Array Value} {below : List Frame} {meth : Method} {c : Code} {Q : State → Prop} {D : mD} {A : Nat → Prop} {Z : Nat → Nat} {F : Mm} {cm : Nat} {g : Int32} {ar : rA} {fi : Nat → Nat → Int32} {rw : Nat → Int32} (hw : wf ar cm) (hb : BD ar cm) (hfv : FV ar cm fi) (i_X7 : ∀ w ∈ wsX70, w ∈ wsX7_handDownOpen) (i_X3 : ∀ w ∈ wsX30, w ∈ wsX7_handDownOpen) (iL : ∀ w ∈ wsJx4a65c0, w ∈ wsX7_handDownOpen) {y9 : Nat} (hy9 : y9 < 48) (C : mC p m meth c cX7_handDownOpen 4 s args wsX7_handDownOpen yX7_handDownOpen.cls D A yX7_handDownOpen none) (kx : ∀ (nl : Nat → Nat → Int64) (M : Mm), cS D Z F cm g ar fi nl (pre9 ar 0) rw M → SC ar cm nl 2 y9 (q_shown ar) → mV p l e ({ frames := 6, cells := 0, slots := 0, locals := 340 } : Room) s m args below meth c 4 D A Q M 0 0 [(0, .ref (Z 0))] [] 123) : ∀ (N : Nat) (i9 : Nat) (nl : Nat → Nat → Int64) (M : Mm), (pre9 ar 0).length - i9 = N → (i9 ≤ (pre9 ar 0).length) → (cS D Z F cm g ar fi nl (pre9 ar 0) rw M) → (SC ar cm nl 0 y9 (q_inT ar)) → (∀ n, cP ar cm n → n ∉ (pre9 ar 0).take i9 → ∀ x, x < 64 → bL (nl 1 n) x = q_clpA ar (nI x) (nI y9) n) → (∀ n ∈ (pre9 ar 0).take i9, ∀ x, x < 64 → bL (nl 1 n) x = q_opf ar n (nI x) (nI y9)) → (∀ n ∈ (pre9 ar 0).take i9, ∀ x, x < 64 → bL (nl 2 n) x = q_shown ar n (nI x) (nI y9)) → mV p l e ({ frames := 6, cells := 0, slots := 0, locals := 340 } : Room) s m args below meth c 4 D A Q M 0 0 [(1, .int (nI i9)), (0, .ref (Z 0))] [] 2 := by
  intro N
  induction N using Nat.strongRecOn with
  | _ N ih =>
    intro i9 nl M hN hk hR h0 hO h1 h2
    have hcm := hw.1.2
    obtain ⟨b9, cap9, f9, mc9, h_a, hB9, hnc, h60, hf9, hall⟩ := hR.od
    refine m_iload_n C dX7_handDownOpen_2 rfl 0 rfl ?_
    refine m_aload_n C dX7_handDownOpen_3 rfl 1 rfl ?_
    refine m_get (ref := "PaintLayers") C hR.me rfl i_X7 2 (by decide) (by decide +kernel) (fun x h => h) (v := .ref (Z 240)) rfl dX7_handDownOpen_4 ?_
    refine m_callVFi (As := []) (st := [.int (nI i9)]) (v := nI ((pre9 ar 0).length)) C h_a rfl (c_Jx4a65c_size_8abf5 D A l h_a) (cwV 0 C.1.2.2.2.2 gX7_handDownOpen_Jx4a65c_size_8abf5 rfl rfl rfl (by decide +kernel) ⟨Nat.le_of_ble_eq_true rfl, Nat.le_of_ble_eq_true rfl⟩) rfl rfl (Nat.le_of_ble_eq_true rfl) dX7_handDownOpen_7 ⟨Nat.le_of_ble_eq_true rfl, Nat.le_of_ble_eq_true rfl⟩ ?_
    refine m_icmp_ge (tgt := 123) C dX7_handDownOpen_10 (by decide) (fun h_1 => ?_) (fun h_1 => ?_)
    · refine m_sub (L' := [(0, .ref (Z 0))]) [1] rfl ?_
      have hkm : i9 = (pre9 ar 0).length := by
        have := (nI_leI (a := (pre9 ar 0).length) (b := i9) (by omega) (by omega)).mp h_1
        omega
      rw [hkm, List.take_length] at h2
      exact kx nl M hR (fun n hn x hx => h2 n (od_all hw hn) x hx)
    · have hkm : i9 < (pre9 ar 0).length := by
        rcases Nat.lt_or_ge i9 (pre9 ar 0).length with z | z
        · exact z
        · exact absurd (nI_le (a := (pre9 ar 0).length) (b := i9) z (by omega)) h_1
      obtain ⟨a9, ha9⟩ : ∃ z : Nat, z = (pre9 ar 0).getD i9 0 := ⟨_, rfl⟩
      have hna : cP ar cm a9 := by rw [ha9]; exact wf_preL hw (wf_root hw).1 (wf_root hw).2 i9 hkm
      have hnd9 : a9 ∉ (pre9 ar 0).take i9 := by rw [ha9]; exact od_nd hw hkm
      have hcl9 : ∀ x, x < 64 → bL (nl 1 a9) x = q_clpA ar (nI x) (nI y9) a9 := hO a9 hna hnd9
      have hU : ∀ x9, q_opn ar a9 (nI x9) (nI y9) = ((decide (ar 12 a9 = 0) && !(q_isM ar a9) && q_clpA ar (nI x9) (nI y9) a9) && (if a9 = 0 then true else q_opf ar (par9 ar a9) (nI x9) (nI y9))) := fun x9 => opn_u hw hna (nI x9) (nI y9)
      have hoP : ∀ c, (if a9 = 0 then none else some (par9 ar a9) : Option Nat) = some c → cP ar cm c := fun c hc => by
        by_cases h0 : a9 = 0
        · rw [if_pos h0] at hc; cases hc
        · rw [if_neg h0] at hc; rw [← Option.some.inj hc]; exact (wf_chp hw hna.1 hna.2 h0).2
      have hmP : ∀ c, (if a9 = 0 then none else some (par9 ar a9) : Option Nat).bind (q_mk ar) = some c → cP ar cm c := fun c hc => by
        by_cases h0 : a9 = 0
        · rw [if_pos h0] at hc; cases hc
        · rw [if_neg h0] at hc; exact (q_mk_P hw (wf_chp hw hna.1 hna.2 h0).2 hc).1
      have hM9 := isM_mk hw hna
      have hop : a9 ≠ 0 → ∀ x9, x9 < 64 → bL (nl 1 (par9 ar a9)) x9 = q_opf ar (par9 ar a9) (nI x9) (nI y9) := fun h0 x9 hx9 => h1 _ (by rw [ha9] at h0 ⊢; exact od_par hw hkm h0) x9 hx9
      have hpa : a9 ≠ 0 → par9 ar a9 ≠ a9 := fun h0 z => hnd9 (by
        have h8 : par9 ar a9 ∈ (pre9 ar 0).take i9 := by rw [ha9] at h0 ⊢; exact od_par hw hkm h0
        rw [z] at h8; exact h8)
      have k71 : ∀ (r9 : Int64) (M : Mm), cS D Z F cm g ar fi (nl1 nl 1 a9 r9) (pre9 ar 0) rw M → (∀ x, x < 64 → bL r9 x = q_opn ar a9 (nI x) (nI y9)) → mV p l e ({ frames := 6, cells := 0, slots := 0, locals := 340 } : Room) s m args below meth c 4 D A Q M 0 0 [(2, .ref (Z (100 + a9))), (1, .int (nI i9)), (0, .ref (Z 0))] [] 71 := by
        intro r9 M hR hr9
        obtain ⟨m_2, em_2⟩ : ∃ z : Nat → Nat → Int64, z = nl1 nl 1 a9 r9 := ⟨_, rfl⟩
        rw [← em_2] at hR
        refine m_aload_n C dX7_handDownOpen_71 rfl 0 rfl ?_
        refine m_aload_n C dX7_handDownOpen_72 rfl 0 rfl ?_
        refine m_get (ref := "PaintLayers$Node") C (hR.nd hna) rfl i_X3 1 (by decide) (by decide +kernel) (fun x h => h) (v := va_rf (nSh Z ar a9)) rfl dX7_handDownOpen_73 ?_
        by_cases h3 : ar 3 a9 = 0
        · rw [show nSh Z ar a9 = none from if_pos h3]
          refine m_ifnonnull (x := none) (tgt := 83) C dX7_handDownOpen_76 (by decide) (fun q h => absurd h (by simp)) (fun _ => ?_)
          have hsh : ∀ x, x < 64 → bL 0 x = q_shown ar a9 (nI x) (nI y9) := fun x hx => by rw [shown_opn hw hna, if_pos h3]; exact bL_0 x
          refine m_lconst (v := 0) C dX7_handDownOpen_79 rfl ?_
          refine m_goto (tgt := 92) C dX7_handDownOpen_80 (by decide) ?_
          refine m_put (ref := "PaintLayers$Node") C (hR.nd hna) rfl i_X3 tyX3 tyX3_ok nmX3 18 (by decide) (by decide +kernel) (fun x h => h) rfl rfl rfl (Nat.le_of_ble_eq_true rfl) (e' := .inr (6, nF Z ar fi (nl1 m_2 2 a9 0) a9)) (congrArg (fun l9 : List Value => (.inr (6, l9) : va_E)) nF_sn2) dX7_handDownOpen_92 ?_
          have hR9 := hR.snl hna 2 0
          revert hR9
          generalize m_up M _ _ = M
          intro hR
          obtain ⟨m_3, em_3⟩ : ∃ z : Nat → Nat → Int64, z = nl1 m_2 2 a9 0 := ⟨_, rfl⟩
          rw [← em_3] at hR
          refine m_aload_n C dX7_handDownOpen_95 rfl 0 rfl ?_
          refine m_callSFq (As := [va_rf (zO Z (some a9))]) (st := []) C (c_X7_maskOf D A l hR hcm (cP_kid hw) (on9 := some a9) (fun n hn => by rw [← Option.some.inj hn]; exact hna)) (va_cwS 1 C.1.2.2.2.2 gX7_handDownOpen_X7_maskOf rfl rfl rfl (by decide +kernel) ⟨Nat.le_of_ble_eq_true rfl, Nat.le_of_ble_eq_true rfl⟩) rfl rfl (Nat.le_of_ble_eq_true rfl) dX7_handDownOpen_96 ⟨Nat.le_of_ble_eq_true rfl, Nat.le_of_ble_eq_true rfl⟩ ?_
          rw [show (some a9).bind (q_mk ar) = q_mk ar a9 from rfl]
          cases hmk : q_mk ar a9 with
          | none =>
            rw [show zO Z none = none from rfl]
            refine m_astore_nq (x := none) (L' := [(3, .null), (2, .ref (Z (100 + a9))), (1, .int (nI i9)), (0, .ref (Z 0))]) C dX7_handDownOpen_99 rfl (by decide) rfl ?_
            refine m_aload_nq (x := none) C dX7_handDownOpen_100 rfl 0 rfl ?_
            refine m_ifnull (x := none) (tgt := 117) C dX7_handDownOpen_101 (by decide) (fun _ => ?_) (fun q h => absurd h (by simp))
            obtain ⟨x_4, ex_4⟩ : ∃ z : Int32, z = nI i9 + 1 := ⟨_, rfl⟩
            refine m_iinc (q := 2) (v := x_4) (L' := [(1, .int x_4), (3, .null), (2, .ref (Z (100 + a9))), (0, .ref (Z 0))]) C dX7_handDownOpen_117 rfl (by rw [ex_4]; rfl) (by decide) rfl ?_
            refine m_goto (tgt := 2) C dX7_handDownOpen_120 (by decide) ?_
            rw [nI_1] at ex_4
            subst ex_4
            refine m_sub (L' := [(1, .int (nI (i9 + 1))), (0, .ref (Z 0))]) [0, 3] rfl ?_
            have hst := opr_step (m := m_3) hw hkm h1 h2 (by rw [← ha9]; exact fun j n hn => by rw [em_3, nl1_o hn, em_2, nl1_o hn]) (by rw [← ha9]; exact fun x hx => by unfold q_opf; rw [hmk, Bool.and_true, ← hr9 x hx]; congr 1; simp [em_3, em_2, nl1_u]) (by rw [← ha9]; exact fun x hx => by rw [← hsh x hx]; congr 1; simp [em_3, em_2, nl1_u])
            exact ih ((pre9 ar 0).length - (i9 + 1)) (by omega) (i9 + 1) m_3 M rfl (by omega) hR (fun n hn x hx => by rw [show m_3 0 n = nl 0 n by simp [em_3, em_2, nl1_u]]; exact h0 n hn x hx) (fun n hn hz x hx => by
              rw [take_s hkm, ← ha9, List.mem_append, List.mem_singleton] at hz
              have hna8 : n ≠ a9 := fun z => hz (Or.inr z)
              rw [em_3, nl1_o hna8, em_2, nl1_o hna8]; exact hO n hn (fun z => hz (Or.inl z)) x hx) hst.1 hst.2
          | some c9 =>
            have hcP : cP ar cm c9 := (q_mk_P hw hna hmk).1
            have hc13 := (q_mk_P hw hna hmk).2.1
            have hca : c9 ≠ a9 := fun z => by
              have e8 := (q_mk_P hw hna hmk).2.2
              have hm0 : 0 < mny ar a9 := by
                rcases Nat.eq_zero_or_pos (mny ar a9) with u | u
                · unfold q_mk at hmk; rw [if_pos (Or.inr u)] at hmk; cases hmk
                · exact u
              have hk8 := wf_kids_not hw hna.1 hna.2 hm0
              rw [← e8, z] at hk8
              exact hk8 (wf_self hw hna.1 hna.2)
            rw [show zO Z (some c9) = some (Z (100 + c9)) from rfl]
            refine m_astore_n (L' := [(3, .ref (Z (100 + c9))), (2, .ref (Z (100 + a9))), (1, .int (nI i9)), (0, .ref (Z 0))]) C dX7_handDownOpen_99 rfl (by decide) rfl ?_
            refine m_aload_n C dX7_handDownOpen_100 rfl 0 rfl ?_
            refine m_ifnull (x := some (Z (100 + c9))) (tgt := 117) C dX7_handDownOpen_101 (by decide) (fun h => absurd h (by simp)) (fun _ _ => ?_)
            refine m_aload_n C dX7_handDownOpen_104 rfl 1 rfl ?_
            refine m_dup C dX7_handDownOpen_105 rfl ?_
            refine m_get (ref := "PaintLayers$Node") C (hR.nd hna) rfl i_X3 17 (by decide) (by decide +kernel) (fun x h => h) (v := .long (m_3 1 a9)) rfl dX7_handDownOpen_106 ?_
            refine m_l (y := r9) (by simp [em_3, em_2, nl1_u]) ?_
            refine m_aload_n C dX7_handDownOpen_109 rfl 0 rfl ?_
            refine m_get (ref := "PaintLayers$Node") C (hR.nd hcP) rfl i_X3 16 (by decide) (by decide +kernel) (fun x h => h) (v := .long (m_3 0 c9)) rfl dX7_handDownOpen_110 ?_
            refine m_l (y := nl 0 c9) (by simp [em_3, em_2, nl1_u]) ?_
            refine m_land C dX7_handDownOpen_113 ?_
            refine m_put (ref := "PaintLayers$Node") C (hR.nd hna) rfl i_X3 tyX3 tyX3_ok nmX3 17 (by decide) (by decide +kernel) (fun x h => h) rfl rfl rfl (Nat.le_of_ble_eq_true rfl) (e' := .inr (6, nF Z ar fi (nl1 m_3 1 a9 (r9 &&& (nl 0 c9))) a9)) (congrArg (fun l9 : List Value => (.inr (6, l9) : va_E)) nF_sn1) dX7_handDownOpen_114 ?_
            have hR9 := hR.snl hna 1 (r9 &&& (nl 0 c9))
            revert hR9
            generalize m_up M _ _ = M
            intro hR
            obtain ⟨m_5, em_5⟩ : ∃ z : Nat → Nat → Int64, z = nl1 m_3 1 a9 (r9 &&& (nl 0 c9)) := ⟨_, rfl⟩
            rw [← em_5] at hR
            obtain ⟨x_6, ex_6⟩ : ∃ z : Int32, z = nI i9 + 1 := ⟨_, rfl⟩
            refine m_iinc (q := 2) (v := x_6) (L' := [(1, .int x_6), (3, .ref (Z (100 + c9))), (2, .ref (Z (100 + a9))), (0, .ref (Z 0))]) C dX7_handDownOpen_117 rfl (by rw [ex_6]; rfl) (by decide) rfl ?_
            refine m_goto (tgt := 2) C dX7_handDownOpen_120 (by decide) ?_
            rw [nI_1] at ex_6
            subst ex_6
            refine m_sub (L' := [(1, .int (nI (i9 + 1))), (0, .ref (Z 0))]) [0, 3] rfl ?_
            have hst := opr_step (m := m_5) hw hkm h1 h2 (by rw [← ha9]; exact fun j n hn => by rw [em_5, nl1_o hn, em_3, nl1_o hn, em_2, nl1_o hn]) (by rw [← ha9]; exact fun x hx => by unfold q_opf; rw [hmk]; show _ = (q_opn ar a9 (nI x) (nI y9) && q_inT ar c9 (nI x) (nI y9)); rw [← hr9 x hx, ← h0 c9 hcP x hx, ← bL_and]; congr 1; simp [em_5, em_3, em_2, nl1_u]) (by rw [← ha9]; exact fun x hx => by rw [← hsh x hx]; congr 1; simp [em_5, em_3, em_2, nl1_u])
            exact ih ((pre9 ar 0).length - (i9 + 1)) (by omega) (i9 + 1) m_5 M rfl (by omega) hR (fun n hn x hx => by rw [show m_5 0 n = nl 0 n by simp [em_5, em_3, em_2, nl1_u]]; exact h0 n hn x hx) (fun n hn hz x hx => by
              rw [take_s hkm, ← ha9, List.mem_append, List.mem_singleton] at hz
              have hna8 : n ≠ a9 := fun z => hz (Or.inr z)
              rw [em_5, nl1_o hna8, em_3, nl1_o hna8, em_2, nl1_o hna8]; exact hO n hn (fun z => hz (Or.inl z)) x hx) hst.1 hst.2
        · rw [show nSh Z ar a9 = some (Z (400 + a9)) from if_neg h3]
          refine m_ifnonnull (x := some (Z (400 + a9))) (tgt := 83) C dX7_handDownOpen_76 (by decide) (fun _ _ => ?_) (fun h => absurd h (by simp))
          refine m_aload_n C dX7_handDownOpen_83 rfl 0 rfl ?_
          refine m_get (ref := "PaintLayers$Node") C (hR.nd hna) rfl i_X3 17 (by decide) (by decide +kernel) (fun x h => h) (v := .long (m_2 1 a9)) rfl dX7_handDownOpen_84 ?_
          refine m_l (y := r9) (by rw [em_2, nl1_s]) ?_
          refine m_aload_n C dX7_handDownOpen_87 rfl 0 rfl ?_
          refine m_get (ref := "PaintLayers$Node") C (hR.nd hna) rfl i_X3 16 (by decide) (by decide +kernel) (fun x h => h) (v := .long (m_2 0 a9)) rfl dX7_handDownOpen_88 ?_
          refine m_l (y := nl 0 a9) (by rw [em_2, nl1_j (by decide)]) ?_
          have hsh : ∀ x, x < 64 → bL (r9 &&& nl 0 a9) x = q_shown ar a9 (nI x) (nI y9) := fun x hx => by rw [shown_opn hw hna, if_neg h3, bL_and, hr9 x hx, h0 a9 hna x hx]
          refine m_land C dX7_handDownOpen_91 ?_
          refine m_put (ref := "PaintLayers$Node") C (hR.nd hna) rfl i_X3 tyX3 tyX3_ok nmX3 18 (by decide) (by decide +kernel) (fun x h => h) rfl rfl rfl (Nat.le_of_ble_eq_true rfl) (e' := .inr (6, nF Z ar fi (nl1 m_2 2 a9 (r9 &&& (nl 0 a9))) a9)) (congrArg (fun l9 : List Value => (.inr (6, l9) : va_E)) nF_sn2) dX7_handDownOpen_92 ?_
          have hR9 := hR.snl hna 2 (r9 &&& (nl 0 a9))
          revert hR9
          generalize m_up M _ _ = M
          intro hR
          obtain ⟨m_7, em_7⟩ : ∃ z : Nat → Nat → Int64, z = nl1 m_2 2 a9 (r9 &&& (nl 0 a9)) := ⟨_, rfl⟩
          rw [← em_7] at hR
          refine m_aload_n C dX7_handDownOpen_95 rfl 0 rfl ?_
          refine m_callSFq (As := [va_rf (zO Z (some a9))]) (st := []) C (c_X7_maskOf D A l hR hcm (cP_kid hw) (on9 := some a9) (fun n hn => by rw [← Option.some.inj hn]; exact hna)) (va_cwS 1 C.1.2.2.2.2 gX7_handDownOpen_X7_maskOf rfl rfl rfl (by decide +kernel) ⟨Nat.le_of_ble_eq_true rfl, Nat.le_of_ble_eq_true rfl⟩) rfl rfl (Nat.le_of_ble_eq_true rfl) dX7_handDownOpen_96 ⟨Nat.le_of_ble_eq_true rfl, Nat.le_of_ble_eq_true rfl⟩ ?_
          rw [show (some a9).bind (q_mk ar) = q_mk ar a9 from rfl]
          cases hmk : q_mk ar a9 with
          | none =>
            rw [show zO Z none = none from rfl]
            refine m_astore_nq (x := none) (L' := [(3, .null), (2, .ref (Z (100 + a9))), (1, .int (nI i9)), (0, .ref (Z 0))]) C dX7_handDownOpen_99 rfl (by decide) rfl ?_
            refine m_aload_nq (x := none) C dX7_handDownOpen_100 rfl 0 rfl ?_
            refine m_ifnull (x := none) (tgt := 117) C dX7_handDownOpen_101 (by decide) (fun _ => ?_) (fun q h => absurd h (by simp))
            obtain ⟨x_8, ex_8⟩ : ∃ z : Int32, z = nI i9 + 1 := ⟨_, rfl⟩
            refine m_iinc (q := 2) (v := x_8) (L' := [(1, .int x_8), (3, .null), (2, .ref (Z (100 + a9))), (0, .ref (Z 0))]) C dX7_handDownOpen_117 rfl (by rw [ex_8]; rfl) (by decide) rfl ?_
            refine m_goto (tgt := 2) C dX7_handDownOpen_120 (by decide) ?_
            rw [nI_1] at ex_8
            subst ex_8
            refine m_sub (L' := [(1, .int (nI (i9 + 1))), (0, .ref (Z 0))]) [0, 3] rfl ?_
            have hst := opr_step (m := m_7) hw hkm h1 h2 (by rw [← ha9]; exact fun j n hn => by rw [em_7, nl1_o hn, em_2, nl1_o hn]) (by rw [← ha9]; exact fun x hx => by unfold q_opf; rw [hmk, Bool.and_true, ← hr9 x hx]; congr 1; simp [em_7, em_2, nl1_u]) (by rw [← ha9]; exact fun x hx => by rw [← hsh x hx]; congr 1; simp [em_7, em_2, nl1_u])
            exact ih ((pre9 ar 0).length - (i9 + 1)) (by omega) (i9 + 1) m_7 M rfl (by omega) hR (fun n hn x hx => by rw [show m_7 0 n = nl 0 n by simp [em_7, em_2, nl1_u]]; exact h0 n hn x hx) (fun n hn hz x hx => by
              rw [take_s hkm, ← ha9, List.mem_append, List.mem_singleton] at hz
              have hna8 : n ≠ a9 := fun z => hz (Or.inr z)
              rw [em_7, nl1_o hna8, em_2, nl1_o hna8]; exact hO n hn (fun z => hz (Or.inl z)) x hx) hst.1 hst.2
          | some c9 =>
            have hcP : cP ar cm c9 := (q_mk_P hw hna hmk).1
            have hc13 := (q_mk_P hw hna hmk).2.1
            have hca : c9 ≠ a9 := fun z => by
              have e8 := (q_mk_P hw hna hmk).2.2
              have hm0 : 0 < mny ar a9 := by
                rcases Nat.eq_zero_or_pos (mny ar a9) with u | u
                · unfold q_mk at hmk; rw [if_pos (Or.inr u)] at hmk; cases hmk
                · exact u
              have hk8 := wf_kids_not hw hna.1 hna.2 hm0
              rw [← e8, z] at hk8
              exact hk8 (wf_self hw hna.1 hna.2)
            rw [show zO Z (some c9) = some (Z (100 + c9)) from rfl]
            refine m_astore_n (L' := [(3, .ref (Z (100 + c9))), (2, .ref (Z (100 + a9))), (1, .int (nI i9)), (0, .ref (Z 0))]) C dX7_handDownOpen_99 rfl (by decide) rfl ?_
            refine m_aload_n C dX7_handDownOpen_100 rfl 0 rfl ?_
            refine m_ifnull (x := some (Z (100 + c9))) (tgt := 117) C dX7_handDownOpen_101 (by decide) (fun h => absurd h (by simp)) (fun _ _ => ?_)
            refine m_aload_n C dX7_handDownOpen_104 rfl 1 rfl ?_
            refine m_dup C dX7_handDownOpen_105 rfl ?_
            refine m_get (ref := "PaintLayers$Node") C (hR.nd hna) rfl i_X3 17 (by decide) (by decide +kernel) (fun x h => h) (v := .long (m_7 1 a9)) rfl dX7_handDownOpen_106 ?_
            refine m_l (y := r9) (by simp [em_7, em_2, nl1_u]) ?_
            refine m_aload_n C dX7_handDownOpen_109 rfl 0 rfl ?_
            refine m_get (ref := "PaintLayers$Node") C (hR.nd hcP) rfl i_X3 16 (by decide) (by decide +kernel) (fun x h => h) (v := .long (m_7 0 c9)) rfl dX7_handDownOpen_110 ?_
            refine m_l (y := nl 0 c9) (by simp [em_7, em_2, nl1_u]) ?_
            refine m_land C dX7_handDownOpen_113 ?_
            refine m_put (ref := "PaintLayers$Node") C (hR.nd hna) rfl i_X3 tyX3 tyX3_ok nmX3 17 (by decide) (by decide +kernel) (fun x h => h) rfl rfl rfl (Nat.le_of_ble_eq_true rfl) (e' := .inr (6, nF Z ar fi (nl1 m_7 1 a9 (r9 &&& (nl 0 c9))) a9)) (congrArg (fun l9 : List Value => (.inr (6, l9) : va_E)) nF_sn1) dX7_handDownOpen_114 ?_
            have hR9 := hR.snl hna 1 (r9 &&& (nl 0 c9))
            revert hR9
            generalize m_up M _ _ = M
            intro hR
            obtain ⟨m_9, em_9⟩ : ∃ z : Nat → Nat → Int64, z = nl1 m_7 1 a9 (r9 &&& (nl 0 c9)) := ⟨_, rfl⟩
            rw [← em_9] at hR
            obtain ⟨x_10, ex_10⟩ : ∃ z : Int32, z = nI i9 + 1 := ⟨_, rfl⟩
            refine m_iinc (q := 2) (v := x_10) (L' := [(1, .int x_10), (3, .ref (Z (100 + c9))), (2, .ref (Z (100 + a9))), (0, .ref (Z 0))]) C dX7_handDownOpen_117 rfl (by rw [ex_10]; rfl) (by decide) rfl ?_
            refine m_goto (tgt := 2) C dX7_handDownOpen_120 (by decide) ?_
            rw [nI_1] at ex_10
            subst ex_10
            refine m_sub (L' := [(1, .int (nI (i9 + 1))), (0, .ref (Z 0))]) [0, 3] rfl ?_
            have hst := opr_step (m := m_9) hw hkm h1 h2 (by rw [← ha9]; exact fun j n hn => by rw [em_9, nl1_o hn, em_7, nl1_o hn, em_2, nl1_o hn]) (by rw [← ha9]; exact fun x hx => by unfold q_opf; rw [hmk]; show _ = (q_opn ar a9 (nI x) (nI y9) && q_inT ar c9 (nI x) (nI y9)); rw [← hr9 x hx, ← h0 c9 hcP x hx, ← bL_and]; congr 1; simp [em_9, em_7, em_2, nl1_u]) (by rw [← ha9]; exact fun x hx => by rw [← hsh x hx]; congr 1; simp [em_9, em_7, em_2, nl1_u])
            exact ih ((pre9 ar 0).length - (i9 + 1)) (by omega) (i9 + 1) m_9 M rfl (by omega) hR (fun n hn x hx => by rw [show m_9 0 n = nl 0 n by simp [em_9, em_7, em_2, nl1_u]]; exact h0 n hn x hx) (fun n hn hz x hx => by
              rw [take_s hkm, ← ha9, List.mem_append, List.mem_singleton] at hz
              have hna8 : n ≠ a9 := fun z => hz (Or.inr z)
              rw [em_9, nl1_o hna8, em_7, nl1_o hna8, em_2, nl1_o hna8]; exact hO n hn (fun z => hz (Or.inl z)) x hx) hst.1 hst.2
      have k48 : ∀ (r9 : Int64) (M : Mm), cS D Z F cm g ar fi (nl1 nl 1 a9 r9) (pre9 ar 0) rw M → (∀ x, x < 64 → bL r9 x = ((decide (ar 12 a9 = 0) && !(q_isM ar a9)) && q_clpA ar (nI x) (nI y9) a9)) → mV p l e ({ frames := 6, cells := 0, slots := 0, locals := 340 } : Room) s m args below meth c 4 D A Q M 0 0 [(2, .ref (Z (100 + a9))), (1, .int (nI i9)), (0, .ref (Z 0))] [] 48 := by
        intro r9 M hR hr9
        obtain ⟨m_11, em_11⟩ : ∃ z : Nat → Nat → Int64, z = nl1 nl 1 a9 r9 := ⟨_, rfl⟩
        rw [← em_11] at hR
        refine m_aload_n C dX7_handDownOpen_48 rfl 0 rfl ?_
        refine m_get (ref := "PaintLayers$Node") C (hR.nd hna) rfl i_X3 3 (by decide) (by decide +kernel) (fun x h => h) (v := va_rf (nPa Z ar a9)) rfl dX7_handDownOpen_49 ?_
        by_cases h0 : a9 = 0
        · rw [show nPa Z ar a9 = none from if_pos h0]
          refine m_ifnull (x := none) (tgt := 71) C dX7_handDownOpen_52 (by decide) (fun _ => ?_) (fun q h => absurd h (by simp))
          rw [em_11] at hR
          refine m_sub (L' := [(2, .ref (Z (100 + a9))), (1, .int (nI i9)), (0, .ref (Z 0))]) [0, 1, 2] rfl ?_
          exact k71 r9 M hR (fun x hx => by rw [hU, if_pos h0, Bool.and_true]; exact hr9 x hx)
        · have hpP : cP ar cm (par9 ar a9) := (wf_chp hw hna.1 hna.2 h0).2
          rw [show nPa Z ar a9 = some (Z (100 + par9 ar a9)) from if_neg h0]
          refine m_ifnull (x := some (Z (100 + par9 ar a9))) (tgt := 71) C dX7_handDownOpen_52 (by decide) (fun h => absurd h (by simp)) (fun _ _ => ?_)
          refine m_aload_n C dX7_handDownOpen_55 rfl 0 rfl ?_
          refine m_dup C dX7_handDownOpen_56 rfl ?_
          refine m_get (ref := "PaintLayers$Node") C (hR.nd hna) rfl i_X3 17 (by decide) (by decide +kernel) (fun x h => h) (v := .long (m_11 1 a9)) rfl dX7_handDownOpen_57 ?_
          refine m_l (y := r9) (by rw [em_11, nl1_s]) ?_
          refine m_aload_n C dX7_handDownOpen_60 rfl 0 rfl ?_
          refine m_get (ref := "PaintLayers$Node") C (hR.nd hna) rfl i_X3 3 (by decide) (by decide +kernel) (fun x h => h) (v := va_rf (nPa Z ar a9)) rfl dX7_handDownOpen_61 ?_
          rw [show nPa Z ar a9 = some (Z (100 + par9 ar a9)) from if_neg h0]
          refine m_get (ref := "PaintLayers$Node") C (hR.nd hpP) rfl i_X3 17 (by decide) (by decide +kernel) (fun x h => h) (v := .long (m_11 1 (par9 ar a9))) rfl dX7_handDownOpen_64 ?_
          refine m_l (y := nl 1 (par9 ar a9)) (by rw [em_11, nl1_o (hpa h0)]) ?_
          refine m_land C dX7_handDownOpen_67 ?_
          refine m_put (ref := "PaintLayers$Node") C (hR.nd hna) rfl i_X3 tyX3 tyX3_ok nmX3 17 (by decide) (by decide +kernel) (fun x h => h) rfl rfl rfl (Nat.le_of_ble_eq_true rfl) (e' := .inr (6, nF Z ar fi (nl1 m_11 1 a9 (r9 &&& (nl 1 (par9 ar a9)))) a9)) (congrArg (fun l9 : List Value => (.inr (6, l9) : va_E)) nF_sn1) dX7_handDownOpen_68 ?_
          have hR9 := hR.snl hna 1 (r9 &&& (nl 1 (par9 ar a9)))
          revert hR9
          generalize m_up M _ _ = M
          intro hR
          obtain ⟨m_12, em_12⟩ : ∃ z : Nat → Nat → Int64, z = nl1 m_11 1 a9 (r9 &&& (nl 1 (par9 ar a9))) := ⟨_, rfl⟩
          rw [← em_12] at hR
          rw [em_12, em_11, nl1_twice] at hR
          refine m_sub (L' := [(2, .ref (Z (100 + a9))), (1, .int (nI i9)), (0, .ref (Z 0))]) [0, 1, 2] rfl ?_
          exact k71 _ M hR (fun x hx => by rw [hU, if_neg h0, bL_and, hr9 x hx, hop h0 x hx])
      refine m_aload_n C dX7_handDownOpen_13 rfl 1 rfl ?_
      refine m_get (ref := "PaintLayers") C hR.me rfl i_X7 2 (by decide) (by decide +kernel) (fun x h => h) (v := .ref (Z 240)) rfl dX7_handDownOpen_14 ?_
      refine m_iload_n C dX7_handDownOpen_17 rfl 0 rfl ?_
      have h_b := hB9.own (by omega)
      refine m_callVFq (As := [.int (nI i9)]) (st := []) C h_a rfl (c_Jx4a65c_get_915e3 D A l h_a h_b (j := i9) hkm ⟨hnc, by omega⟩) (cwV 1 C.1.2.2.2.2 gX7_handDownOpen_Jx4a65c_get_915e3 rfl rfl rfl (by decide +kernel) ⟨Nat.le_of_ble_eq_true rfl, Nat.le_of_ble_eq_true rfl⟩) rfl rfl (Nat.le_of_ble_eq_true rfl) dX7_handDownOpen_18 ⟨Nat.le_of_ble_eq_true rfl, Nat.le_of_ble_eq_true rfl⟩ ?_
      rw [hf9 i9 hkm, ← ha9]
      refine m_castN C (hR.nd hna) (by decide +kernel) dX7_handDownOpen_21 ?_
      refine m_astore_n (L' := [(2, .ref (Z (100 + a9))), (1, .int (nI i9)), (0, .ref (Z 0))]) C dX7_handDownOpen_24 rfl (by decide) rfl ?_
      refine m_aload_n C dX7_handDownOpen_25 rfl 0 rfl ?_
      refine m_get (ref := "PaintLayers$Node") C (hR.nd hna) rfl i_X3 8 (by decide) (by decide +kernel) (fun x h => h) (v := .int (ar 12 a9)) rfl dX7_handDownOpen_26 ?_
      refine m_if_ne (tgt := 43) C dX7_handDownOpen_29 (by decide) (fun h_13 => ?_) (fun h_13 => ?_)
      · refine m_aload_n C dX7_handDownOpen_43 rfl 0 rfl ?_
        refine m_lconst (v := 0) C dX7_handDownOpen_44 rfl ?_
        refine m_put (ref := "PaintLayers$Node") C (hR.nd hna) rfl i_X3 tyX3 tyX3_ok nmX3 17 (by decide) (by decide +kernel) (fun x h => h) rfl rfl rfl (Nat.le_of_ble_eq_true rfl) (e' := .inr (6, nF Z ar fi (nl1 nl 1 a9 0) a9)) (congrArg (fun l9 : List Value => (.inr (6, l9) : va_E)) nF_sn1) dX7_handDownOpen_45 ?_
        have hR9 := hR.snl hna 1 0
        revert hR9
        generalize m_up M _ _ = M
        intro hR
        obtain ⟨m_14, em_14⟩ : ∃ z : Nat → Nat → Int64, z = nl1 nl 1 a9 0 := ⟨_, rfl⟩
        rw [← em_14] at hR
        rw [em_14] at hR
        refine m_sub (L' := [(2, .ref (Z (100 + a9))), (1, .int (nI i9)), (0, .ref (Z 0))]) [0, 1, 2] rfl ?_
        exact k48 _ M hR (fun x hx => by rw [decide_eq_false h_13, Bool.false_and, Bool.false_and]; exact bL_0 x)
      · refine m_aload_n C dX7_handDownOpen_32 rfl 0 rfl ?_
        refine m_get (ref := "PaintLayers$Node") C (hR.nd hna) rfl i_X3 3 (by decide) (by decide +kernel) (fun x h => h) (v := va_rf (nPa Z ar a9)) rfl dX7_handDownOpen_33 ?_
        rw [zO_nPa]
        refine m_callSFq (As := [va_rf (zO Z (if a9 = 0 then none else some (par9 ar a9)))]) (st := []) C (c_X7_maskOf D A l hR hcm (cP_kid hw) hoP) (va_cwS 1 C.1.2.2.2.2 gX7_handDownOpen_X7_maskOf rfl rfl rfl (by decide +kernel) ⟨Nat.le_of_ble_eq_true rfl, Nat.le_of_ble_eq_true rfl⟩) rfl rfl (Nat.le_of_ble_eq_true rfl) dX7_handDownOpen_36 ⟨Nat.le_of_ble_eq_true rfl, Nat.le_of_ble_eq_true rfl⟩ ?_
        refine m_aload_n C dX7_handDownOpen_39 rfl 0 rfl ?_
        refine m_acmp_ne (x := zO Z ((if a9 = 0 then none else some (par9 ar a9) : Option Nat).bind (q_mk ar))) (y := some (Z (100 + a9))) (tgt := 48) C dX7_handDownOpen_40 (by decide) (fun h_15 => ?_) (fun h_15 => ?_)
        · rw [zO_eq hR.1 hmP hna] at h_15
          rw [decide_eq_false h_15] at hM9
          refine m_sub (L' := [(2, .ref (Z (100 + a9))), (1, .int (nI i9)), (0, .ref (Z 0))]) [0, 1, 2] rfl ?_
          exact k48 (nl 1 a9) M (by rw [nl1_same]; exact hR) (fun x hx => by rw [hM9, decide_eq_true h_13, Bool.true_and, Bool.not_false, Bool.true_and]; exact hcl9 x hx)
        · rw [zO_eq hR.1 hmP hna] at h_15
          rw [decide_eq_true h_15] at hM9
          refine m_aload_n C dX7_handDownOpen_43 rfl 0 rfl ?_
          refine m_lconst (v := 0) C dX7_handDownOpen_44 rfl ?_
          refine m_put (ref := "PaintLayers$Node") C (hR.nd hna) rfl i_X3 tyX3 tyX3_ok nmX3 17 (by decide) (by decide +kernel) (fun x h => h) rfl rfl rfl (Nat.le_of_ble_eq_true rfl) (e' := .inr (6, nF Z ar fi (nl1 nl 1 a9 0) a9)) (congrArg (fun l9 : List Value => (.inr (6, l9) : va_E)) nF_sn1) dX7_handDownOpen_45 ?_
          have hR9 := hR.snl hna 1 0
          revert hR9
          generalize m_up M _ _ = M
          intro hR
          obtain ⟨m_16, em_16⟩ : ∃ z : Nat → Nat → Int64, z = nl1 nl 1 a9 0 := ⟨_, rfl⟩
          rw [← em_16] at hR
          rw [em_16] at hR
          refine m_sub (L' := [(2, .ref (Z (100 + a9))), (1, .int (nI i9)), (0, .ref (Z 0))]) [0, 1, 2] rfl ?_
          exact k48 _ M hR (fun x hx => by rw [hM9, Bool.not_true, Bool.and_false, Bool.false_and]; exact bL_0 x)
set_option maxHeartbeats 4000000 in
set_option maxRecDepth 100000 in
theorem c_X7_handDownOpen (D : mD) (A : Nat → Prop) (l : Launch) {Z : Nat → Nat} {F : Mm} {cm : Nat} {g : Int32} {ar : rA} {fi : Nat → Nat → Int32} {nl : Nat → Nat → Int64} {rw : Nat → Int32} {M : Mm} (hR : cS D Z F cm g ar fi nl (pre9 ar 0) rw M) (hw : wf ar cm) (hb : BD ar cm) (hfv : FV ar cm fi) {y9 : Nat} (hy9 : y9 < 48) (h0 : SC ar cm nl 0 y9 (q_inT ar)) (hO : SC ar cm nl 1 y9 (fun n px py => q_clpA ar px py n)) : mMv D A l yX7_handDownOpen wsX7_handDownOpen ({ frames := 6, cells := 0, slots := 0, locals := 340 } : Room) [.ref (Z 0)] M (fun M' => ∃ nl' : Nat → Nat → Int64, cS D Z F cm g ar fi nl' (pre9 ar 0) rw M' ∧ SC ar cm nl' 2 y9 (q_shown ar)) 0 0 := by
  refine m_start (cc := cX7_handDownOpen) (maxL := 4) (ret := none) (by decide) rfl (Nat.le_of_ble_eq_true rfl) ?_
  intro p e s m args below meth c C
  have i_X7 : ∀ w ∈ wsX70, w ∈ wsX7_handDownOpen := by decide +kernel
  have i_X3 : ∀ w ∈ wsX30, w ∈ wsX7_handDownOpen := by decide +kernel
  have iL : ∀ w ∈ wsJx4a65c0, w ∈ wsX7_handDownOpen := by decide +kernel
  refine m_sub (L' := [(0, .ref (Z 0))]) [0] rfl ?_
  refine m_iconst (v := 0) C dX7_handDownOpen_0 (by decide) ?_
  refine m_istore_n (L' := [(1, .int 0), (0, .ref (Z 0))]) C dX7_handDownOpen_1 rfl (by decide) rfl ?_
  refine m_sub (L' := [(1, .int 0), (0, .ref (Z 0))]) [0, 1] rfl ?_
  refine lp_X7_handDownOpen hw hb hfv i_X7 i_X3 iL hy9 C (fun m9 M9 hR9 h9 => ?_) _ 0 nl M rfl (Nat.zero_le _) hR h0 (fun n hn _ => hO n hn) (fun n hn => by cases hn) (fun n hn => by cases hn)
  exact m_vret C (Nat.le_of_ble_eq_true rfl) (Nat.le_of_ble_eq_true rfl) dX7_handDownOpen_123 (⟨m9, hR9, h9⟩)

