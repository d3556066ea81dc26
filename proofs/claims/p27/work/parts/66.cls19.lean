/-! ===== the class: settle ===== -/
set_option maxHeartbeats 4000000 in
set_option maxRecDepth 100000 in
theorem lp_X7_settle1 {p : Program} {l : Launch} {e : Env} {s : State} {m : MethodId} {args : Array Value} {below : List Frame} {meth : Method} {c : Code} {Q : State → Prop} {D : mD} {A : Nat → Prop} {Z : Nat → Nat} {F : Mm} {cm : Nat} {g : Int32} {ar : rA} {nl : Nat → Nat → Int64} {rw : Nat → Int32} (hw : wf ar cm) (i_X3 : ∀ w ∈ wsX30, w ∈ wsX7_settle) (iL : ∀ w ∈ wsJx4a65c0, w ∈ wsX7_settle) (i_X7 : ∀ w ∈ wsX70, w ∈ wsX7_settle) {fi : Nat → Nat → Int32} {l1 r9 : List Nat} {n9 : Nat} (hn9 : cP ar cm n9) (hlen : l1.length + 1 + mny ar n9 + r9.length ≤ 40) (C : mC p m meth c cX7_settle 4 s args wsX7_settle yX7_settle.cls D A yX7_settle none) (kx : ∀ M : Mm, cS D Z F cm g ar fi nl (l1 ++ n9 :: (kids ar n9 ++ r9)) rw M → mV p l e ({ frames := 7, cells := 40, slots := 2400, locals := 600 } : Room) s m args below meth c 4 D A Q M (l1 ++ n9 :: (kids ar n9 ++ r9)).length (60 * (l1 ++ n9 :: (kids ar n9 ++ r9)).length) [(1, .int (nI l1.length)), (0, .ref (Z 0))] [] 96) : ∀ (N : Nat) (k9 : Nat) (M : Mm), mny ar n9 - k9 = N → (k9 ≤ mny ar n9) → (cS D Z F cm g ar fi nl (l1 ++ n9 :: ((kids ar n9).take k9 ++ r9)) rw M) → mV p l e ({ frames := 7, cells := 40, slots := 2400, locals := 600 } : Room) s m args below meth c 4 D A Q M (l1 ++ n9 :: ((kids ar n9).take k9 ++ r9)).length (60 * (l1 ++ n9 :: ((kids ar n9).take k9 ++ r9)).length) [(3, .int (nI k9)), (2, .ref (Z (100 + n9))), (1, .int (nI l1.length)), (0, .ref (Z 0))] [] 56 := by
  intro N
  induction N using Nat.strongRecOn with
  | _ N ih =>
    intro k9 M hN hk hR
    have hl9 : (l1 ++ n9 :: ((kids ar n9).take k9 ++ r9)).length = l1.length + 1 + k9 + r9.length := by
      rw [List.length_append, List.length_cons, List.length_append, List.length_take, kids_len]
      omega
    have hcm := hw.1.2
    obtain ⟨bk, capk, fk, mck, h_k, hBk, hck, h60k, hfk⟩ := hR.kd hcm hn9
    refine m_iload_n C dX7_settle_56 rfl 0 rfl ?_
    refine m_aload_n C dX7_settle_57 rfl 1 rfl ?_
    refine m_get (ref := "PaintLayers$Node") C (hR.nd hn9) rfl i_X3 2 (by decide) (by decide +kernel) (fun x h => h) (v := .ref (Z (200 + n9))) rfl dX7_settle_58 ?_
    refine m_callVFi (As := []) (st := [.int (nI k9)]) (v := nI (mny ar n9)) C h_k rfl (c_Jx4a65c_size_8abf5 D A l h_k) (cwV 0 C.1.2.2.2.2 gX7_settle_Jx4a65c_size_8abf5 rfl rfl rfl (by decide +kernel) ⟨Nat.le_of_ble_eq_true rfl, Nat.le_of_ble_eq_true rfl⟩) rfl rfl (Nat.le_of_ble_eq_true rfl) dX7_settle_61 ⟨show _ ≤ 40 by omega, show _ ≤ 2400 by omega⟩ ?_
    refine m_icmp_ge (tgt := 96) C dX7_settle_64 (by decide) (fun h_1 => ?_) (fun h_1 => ?_)
    · refine m_sub (L' := [(1, .int (nI l1.length)), (0, .ref (Z 0))]) [2, 3] rfl ?_
      have hkm : k9 = mny ar n9 := by
        have := (nI_leI (a := mny ar n9) (b := k9) (by omega) (by omega)).mp h_1
        omega
      have ht : (kids ar n9).take k9 = kids ar n9 := List.take_of_length_le (by rw [kids_len, hkm]; exact Nat.le_refl _)
      rw [ht] at hR ⊢
      exact kx M hR
    · have hkm : k9 < (mny ar n9) := by
        rcases Nat.lt_or_ge k9 (mny ar n9) with z | z
        · exact z
        · exact absurd (nI_le (a := (mny ar n9)) (b := k9) z (by omega)) h_1
      have hkP : cP ar cm (kid ar n9 k9) := cP_kid hw n9 hn9 k9 hkm
      obtain ⟨b9, cap9, f9, mc9, h_a, hB, hnc, h60, hel, hf9, hall, hins⟩ := hR.ins
      refine m_aload_n C dX7_settle_67 rfl 3 rfl ?_
      refine m_get (ref := "PaintLayers") C hR.me rfl i_X7 2 (by decide) (by decide +kernel) (fun x h => h) (v := .ref (Z 240)) rfl dX7_settle_68 ?_
      refine m_iload_n C dX7_settle_71 rfl 2 rfl ?_
      refine m_iconst (v := 1) C dX7_settle_72 (by decide) ?_
      refine m_iadd C dX7_settle_73 ?_
      refine m_i (y := nI (l1.length + 1)) (nI_1 l1.length) ?_
      refine m_iload_n C dX7_settle_74 rfl 0 rfl ?_
      refine m_iadd C dX7_settle_75 ?_
      refine m_i (y := nI (l1.length + 1 + k9)) (nI_add _ _) ?_
      refine m_aload_n C dX7_settle_76 rfl 1 rfl ?_
      refine m_get (ref := "PaintLayers$Node") C (hR.nd hn9) rfl i_X3 2 (by decide) (by decide +kernel) (fun x h => h) (v := .ref (Z (200 + n9))) rfl dX7_settle_77 ?_
      refine m_iload_n C dX7_settle_80 rfl 0 rfl ?_
      have h_bk := hBk.own (by omega)
      refine m_callVFq (As := [.int (nI k9)]) (st := [.int (nI (l1.length + 1 + k9)), .ref (Z 240)]) C h_k rfl (c_Jx4a65c_get_915e3 D A l h_k h_bk hkm ⟨hck, by omega⟩) (cwV 1 C.1.2.2.2.2 gX7_settle_Jx4a65c_get_915e3 rfl rfl rfl (by decide +kernel) ⟨Nat.le_of_ble_eq_true rfl, Nat.le_of_ble_eq_true rfl⟩) rfl rfl (Nat.le_of_ble_eq_true rfl) dX7_settle_81 ⟨show _ ≤ 40 by omega, show _ ≤ 2400 by omega⟩ ?_
      rw [hfk k9 hkm]
      refine m_castN C (hR.nd hkP) (by decide +kernel) dX7_settle_84 ?_
      refine m_callVv (As := [.int (nI (l1.length + 1 + k9)), .ref (Z (100 + kid ar n9 k9))]) (st := []) C h_a rfl (c_Jx4a65c_add_7a177 D A l h_a hB hnc (by omega) hel (hR.nd hkP) (show l1.length + 1 + k9 ≤ (l1 ++ n9 :: ((kids ar n9).take k9 ++ r9)).length by omega)) (cwV 2 C.1.2.2.2.2 gX7_settle_Jx4a65c_add_7a177 rfl rfl rfl (by decide +kernel) ⟨Nat.le_of_ble_eq_true rfl, Nat.le_of_ble_eq_true rfl⟩) rfl rfl (Nat.le_of_ble_eq_true rfl) dX7_settle_87 ⟨show _ ≤ 40 by omega, show _ ≤ 2400 by omega⟩ (fun M9 hq9 => ?_)
      have hR9 := hins (kid ar n9 k9) (l1.length + 1 + k9) M9 (by omega) hkP hq9
      rw [← kids_at hkm, od_ins (by rw [kids_len]; exact hkm)] at hR9
      obtain ⟨x_2, ex_2⟩ : ∃ z : Int32, z = nI k9 + 1 := ⟨_, rfl⟩
      refine m_iinc (q := 0) (v := x_2) (L' := [(3, .int x_2), (2, .ref (Z (100 + n9))), (1, .int (nI l1.length)), (0, .ref (Z 0))]) C dX7_settle_90 rfl (by rw [ex_2]; rfl) (by decide) rfl ?_
      refine m_goto (tgt := 56) C dX7_settle_93 (by decide) ?_
      rw [nI_1] at ex_2
      subst ex_2
      refine m_sub (L' := [(3, .int (nI (k9 + 1))), (2, .ref (Z (100 + n9))), (1, .int (nI l1.length)), (0, .ref (Z 0))]) [0, 1, 2, 3] rfl ?_
      have hl8 : (l1 ++ n9 :: ((kids ar n9).take (k9 + 1) ++ r9)).length = l1.length + 1 + (k9 + 1) + r9.length := by
        rw [List.length_append, List.length_cons, List.length_append, List.length_take, kids_len]
        omega
      refine m_widen (k' := (l1 ++ n9 :: ((kids ar n9).take (k9 + 1) ++ r9)).length) (n' := 60 * (l1 ++ n9 :: ((kids ar n9).take (k9 + 1) ++ r9)).length) (by omega) (by omega) ?_
      exact ih (mny ar n9 - (k9 + 1)) (by omega) (k9 + 1) M9 rfl (by omega) hR9
set_option maxHeartbeats 4000000 in
set_option maxRecDepth 100000 in
theorem lp_X7_settle {p : Program} {l : Launch} {e : Env} {s : State} {m : MethodId} {args : Array Value} {below : List Frame} {meth : Method} {c : Code} {Q : State → Prop} {D : mD} {A : Nat → Prop} {Z : Nat → Nat} {F : Mm} {cm : Nat} {g : Int32} {ar : rA} {nl : Nat → Nat → Int64} {rw : Nat → Int32} (hw : wf ar cm) (i_X3 : ∀ w ∈ wsX30, w ∈ wsX7_settle) (iL : ∀ w ∈ wsJx4a65c0, w ∈ wsX7_settle) (i_X7 : ∀ w ∈ wsX70, w ∈ wsX7_settle) (C : mC p m meth c cX7_settle 4 s args wsX7_settle yX7_settle.cls D A yX7_settle none) (kx : ∀ (fi : Nat → Nat → Int32) (M : Mm), FV ar cm fi → cS D Z F cm g ar fi nl (pre9 ar 0) rw M → mV p l e ({ frames := 7, cells := 40, slots := 2400, locals := 600 } : Room) s m args below meth c 4 D A Q M (pre9 ar 0).length (60 * (pre9 ar 0).length) [(0, .ref (Z 0))] [] 102) : ∀ (N : Nat) (l1 : List Nat) (t9 : List Nat) (fi : Nat → Nat → Int32) (M : Mm), 40 - l1.length = N → (l1 ++ t9.flatMap (pre9 ar) = pre9 ar 0) → (∀ x ∈ t9, x ≠ 0 → par9 ar x ∈ l1) → (∀ x ∈ l1, ∀ i, i < 5 → fi i x = q_fv ar x i) → (cS D Z F cm g ar fi nl (l1 ++ t9) rw M) → mV p l e ({ frames := 7, cells := 40, slots := 2400, locals := 600 } : Room) s m args below meth c 4 D A Q M (l1 ++ t9).length (60 * (l1 ++ t9).length) [(1, .int (nI l1.length)), (0, .ref (Z 0))] [] 21 := by
  intro N
  induction N using Nat.strongRecOn with
  | _ N ih =>
    intro l1 t9 fi M hN hL hT hV hR
    have hcm := hw.1.2
    cases t9 with
    | nil =>
      obtain ⟨b9, cap9, f9, mc9, h_a, hB, hnc, h60, hf9, hall⟩ := hR.od
      have hl1 : (l1 ++ []).length = l1.length := by rw [List.append_nil]
      have h40 := od_len hw hL (fun n hn => by cases hn)
      rw [List.length_nil] at h40
      refine m_iload_n C dX7_settle_21 rfl 0 rfl ?_
      refine m_aload_n C dX7_settle_22 rfl 1 rfl ?_
      refine m_get (ref := "PaintLayers") C hR.me rfl i_X7 2 (by decide) (by decide +kernel) (fun x h => h) (v := .ref (Z 240)) rfl dX7_settle_23 ?_
      refine m_callVFi (As := []) (st := [.int (nI l1.length)]) (v := nI ((l1 ++ []).length)) C h_a rfl (c_Jx4a65c_size_8abf5 D A l h_a) (cwV 0 C.1.2.2.2.2 gX7_settle_Jx4a65c_size_8abf5 rfl rfl rfl (by decide +kernel) ⟨Nat.le_of_ble_eq_true rfl, Nat.le_of_ble_eq_true rfl⟩) rfl rfl (Nat.le_of_ble_eq_true rfl) dX7_settle_26 ⟨show _ ≤ 40 by omega, show _ ≤ 2400 by omega⟩ ?_
      refine m_icmp_ge (tgt := 102) C dX7_settle_29 (by decide) (fun h_1 => ?_) (fun h_1 => ?_)
      · refine m_sub (L' := [(0, .ref (Z 0))]) [1] rfl ?_
        have e9 : l1 ++ [] = pre9 ar 0 := hL
        rw [e9] at hR ⊢
        rw [List.append_nil] at e9
        exact kx fi M (fun n hn i hi => hV n (by rw [e9]; exact od_all hw hn) i hi) hR
      · exact absurd (nI_le (a := (l1 ++ []).length) (b := l1.length) (by omega) (by omega)) h_1
    | cons n9 r9 =>
      obtain ⟨b9, cap9, f9, mc9, h_a, hB, hnc, h60, hf9, hall⟩ := hR.od
      have hl9 : (l1 ++ n9 :: r9).length = l1.length + 1 + r9.length := by rw [List.length_append, List.length_cons]; omega
      have hn9 : cP ar cm n9 := hall n9 (by simp)
      have hT9 : ∀ x ∈ n9 :: r9, cP ar cm x := fun x hx => hall x (List.mem_append_right _ hx)
      have h40 := od_len hw hL hT9
      rw [List.length_cons] at h40
      refine m_iload_n C dX7_settle_21 rfl 0 rfl ?_
      refine m_aload_n C dX7_settle_22 rfl 1 rfl ?_
      refine m_get (ref := "PaintLayers") C hR.me rfl i_X7 2 (by decide) (by decide +kernel) (fun x h => h) (v := .ref (Z 240)) rfl dX7_settle_23 ?_
      refine m_callVFi (As := []) (st := [.int (nI l1.length)]) (v := nI ((l1 ++ n9 :: r9).length)) C h_a rfl (c_Jx4a65c_size_8abf5 D A l h_a) (cwV 0 C.1.2.2.2.2 gX7_settle_Jx4a65c_size_8abf5 rfl rfl rfl (by decide +kernel) ⟨Nat.le_of_ble_eq_true rfl, Nat.le_of_ble_eq_true rfl⟩) rfl rfl (Nat.le_of_ble_eq_true rfl) dX7_settle_26 ⟨show _ ≤ 40 by omega, show _ ≤ 2400 by omega⟩ ?_
      refine m_icmp_ge (tgt := 102) C dX7_settle_29 (by decide) (fun h_2 => ?_) (fun h_2 => ?_)
      · exact absurd ((nI_leI (a := (l1 ++ n9 :: r9).length) (b := l1.length) (by omega) (by omega)).mp h_2) (by omega)
      · refine m_iload_n C dX7_settle_32 rfl 0 rfl ?_
        refine m_bipush (v := 40) C dX7_settle_33 (by decide) ?_
        refine m_icmp_ge (tgt := 102) C dX7_settle_35 (by decide) (fun h_3 => ?_) (fun h_3 => ?_)
        · exact absurd (nI_lt (a := l1.length) (b := 40) (by omega) (by omega)) (Int32.not_lt.mpr h_3)
        · refine m_aload_n C dX7_settle_38 rfl 1 rfl ?_
          refine m_get (ref := "PaintLayers") C hR.me rfl i_X7 2 (by decide) (by decide +kernel) (fun x h => h) (v := .ref (Z 240)) rfl dX7_settle_39 ?_
          refine m_iload_n C dX7_settle_42 rfl 0 rfl ?_
          have h_b := hB.own (by omega)
          refine m_callVFq (As := [.int (nI l1.length)]) (st := []) C h_a rfl (c_Jx4a65c_get_915e3 D A l h_a h_b (j := l1.length) (by omega) ⟨hnc, by omega⟩) (cwV 1 C.1.2.2.2.2 gX7_settle_Jx4a65c_get_915e3 rfl rfl rfl (by decide +kernel) ⟨Nat.le_of_ble_eq_true rfl, Nat.le_of_ble_eq_true rfl⟩) rfl rfl (Nat.le_of_ble_eq_true rfl) dX7_settle_43 ⟨show _ ≤ 40 by omega, show _ ≤ 2400 by omega⟩ ?_
          rw [hf9 l1.length (by omega), od_mid]
          refine m_castN C (hR.nd hn9) (by decide +kernel) dX7_settle_46 ?_
          refine m_astore_n (L' := [(2, .ref (Z (100 + n9))), (1, .int (nI l1.length)), (0, .ref (Z 0))]) C dX7_settle_49 rfl (by decide) rfl ?_
          refine m_aload_n C dX7_settle_50 rfl 0 rfl ?_
          refine m_callVv (As := []) (st := []) C (hR.nd hn9) rfl (c_X3_inherit D A l hR hcm hw hn9) (cwV 0 C.1.2.2.2.2 gX7_settle_X3_inherit rfl rfl rfl (by decide +kernel) ⟨Nat.le_of_ble_eq_true rfl, Nat.le_of_ble_eq_true rfl⟩) rfl rfl (Nat.le_of_ble_eq_true rfl) dX7_settle_51 ⟨show _ ≤ 40 by omega, show _ ≤ 2400 by omega⟩ (fun M9 hq9 => ?_)
          obtain ⟨fj, hR9, ho, hi0, hi1, hi2, hi3, hi4⟩ := hq9
          have hnew := od_new hw hn9 hL
          have hfv := q_fv_inh (fi := fi) hw hn9 (fun h0 i hi => hV (par9 ar n9) (hT n9 List.mem_cons_self h0) i hi)
          have hVn : ∀ i, i < 5 → fj i n9 = q_fv ar n9 i := fun i hi => by
            rw [← hfv i hi]
            match i, hi with
            | 0, _ => exact hi0
            | 1, _ => exact hi1
            | 2, _ => exact hi2
            | 3, _ => exact hi3
            | 4, _ => exact hi4
            | k + 5, h => omega
          have hV9 : ∀ x ∈ l1 ++ [n9], ∀ i, i < 5 → fj i x = q_fv ar x i := fun x hx i hi => by
            by_cases hxn : x = n9
            · rw [hxn]; exact hVn i hi
            · rw [ho i x hxn]
              rcases List.mem_append.mp hx with z | z
              · exact hV x z i hi
              · exact absurd (List.mem_singleton.mp z) hxn
          refine m_iconst (v := 0) C dX7_settle_54 (by decide) ?_
          refine m_istore_n (L' := [(3, .int 0), (2, .ref (Z (100 + n9))), (1, .int (nI l1.length)), (0, .ref (Z 0))]) C dX7_settle_55 rfl (by decide) rfl ?_
          refine m_sub (L' := [(3, .int 0), (2, .ref (Z (100 + n9))), (1, .int (nI l1.length)), (0, .ref (Z 0))]) [0, 1, 2, 3] rfl ?_
          refine lp_X7_settle1 (l1 := l1) (r9 := r9) (n9 := n9) (fi := fj) hw i_X3 iL i_X7 hn9 ?_ C (fun M8 hR8 => ?_) _ 0 M9 rfl (Nat.zero_le _) hR9
          · have h2 := od_len hw (od_step hw hn9 hL) (fun x hx => by
              rcases List.mem_append.mp hx with z | z
              · obtain ⟨k, hk, rfl⟩ := mem_kids.mp z
                exact cP_kid hw n9 hn9 k hk
              · exact hT9 x (List.mem_cons_of_mem _ z))
            rw [List.length_append, List.length_append, kids_len] at h2
            have h3 : [n9].length = 1 := rfl
            omega
          · obtain ⟨x_4, ex_4⟩ : ∃ z : Int32, z = nI l1.length + 1 := ⟨_, rfl⟩
            refine m_iinc (q := 0) (v := x_4) (L' := [(1, .int x_4), (0, .ref (Z 0))]) C dX7_settle_96 rfl (by rw [ex_4]; rfl) (by decide) rfl ?_
            refine m_goto (tgt := 21) C dX7_settle_99 (by decide) ?_
            rw [nI_1] at ex_4
            subst ex_4
            refine m_sub (L' := [(1, .int (nI (l1.length + 1))), (0, .ref (Z 0))]) [0, 1] rfl ?_
            have e1 : l1 ++ n9 :: (kids ar n9 ++ r9) = (l1 ++ [n9]) ++ (kids ar n9 ++ r9) := by simp
            rw [e1] at hR8 ⊢
            have e2 : l1.length + 1 = (l1 ++ [n9]).length := by rw [List.length_append]; rfl
            rw [e2]
            have h39 : (l1 ++ [n9]).length ≤ 40 := by rw [← e2]; omega
            refine ih (40 - (l1 ++ [n9]).length) (by omega) (l1 ++ [n9]) (kids ar n9 ++ r9) fj M8 rfl (od_step hw hn9 hL) (fun x hx h0 => ?_) hV9 hR8
            rcases List.mem_append.mp hx with z | z
            · obtain ⟨k, hk, rfl⟩ := mem_kids.mp z
              rw [(wf_kid hw hn9.1 hn9.2 hk).2.2.2.2.2.2.1]
              exact List.mem_append_right _ (List.mem_singleton.mpr rfl)
            · exact List.mem_append_left _ (hT x (List.mem_cons_of_mem _ z) h0)
set_option maxHeartbeats 4000000 in
set_option maxRecDepth 100000 in
theorem c_X7_settle (D : mD) (A : Nat → Prop) (l : Launch) {Z : Nat → Nat} {F : Mm} {cm : Nat} {g : Int32} {ar : rA} {nl : Nat → Nat → Int64} {rw : Nat → Int32} {M : Mm} (hw : wf ar cm) (hR0 : cR D Z F cm g ar nl rw M) : mMv D A l yX7_settle wsX7_settle ({ frames := 7, cells := 40, slots := 2400, locals := 600 } : Room) [.ref (Z 0)] M (fun M' => ∃ fi : Nat → Nat → Int32, FV ar cm fi ∧ cS D Z F cm g ar fi nl (pre9 ar 0) rw M') 40 2400 := by
  refine m_start (cc := cX7_settle) (maxL := 4) (ret := none) (by decide) rfl (Nat.le_of_ble_eq_true rfl) ?_
  intro p e s m args below meth c C
  have i_X3 : ∀ w ∈ wsX30, w ∈ wsX7_settle := by decide +kernel
  have iL : ∀ w ∈ wsJx4a65c0, w ∈ wsX7_settle := by decide +kernel
  have i_X7 : ∀ w ∈ wsX70, w ∈ wsX7_settle := by decide +kernel
  refine m_sub (L' := [(0, .ref (Z 0))]) [0] rfl ?_
  have hcm := hw.1.2
  have hr0 : cP ar cm 0 := wf_root hw
  obtain ⟨n5, b5, cap5, f5, mc5, h_o, hB5, hn5, h60, hclr⟩ := hR0.clr hcm (cP_kid hw)
  refine m_aload_n C dX7_settle_0 rfl 0 rfl ?_
  refine m_get (ref := "PaintLayers") C hR0.me rfl i_X7 2 (by decide) (by decide +kernel) (fun x h => h) (v := .ref (Z 240)) rfl dX7_settle_1 ?_
  refine m_callVv (As := []) (st := []) C h_o rfl (c_Jx4a65c_clear_da8c8 D A l h_o hB5 hn5 h60) (cwV 0 C.1.2.2.2.2 gX7_settle_Jx4a65c_clear_da8c8 rfl rfl rfl (by decide +kernel) ⟨Nat.le_of_ble_eq_true rfl, Nat.le_of_ble_eq_true rfl⟩) rfl rfl (Nat.le_of_ble_eq_true rfl) dX7_settle_4 ⟨Nat.le_of_ble_eq_true rfl, Nat.le_of_ble_eq_true rfl⟩ (fun M1 hq1 => ?_)
  obtain ⟨fi, hR⟩ := hclr M1 hq1
  obtain ⟨b9, cap9, f9, mc9, h_a, hB, hnc, h69, hel, hf9, hall, hins⟩ := hR.ins
  refine m_aload_n C dX7_settle_7 rfl 0 rfl ?_
  refine m_get (ref := "PaintLayers") C hR.me rfl i_X7 2 (by decide) (by decide +kernel) (fun x h => h) (v := .ref (Z 240)) rfl dX7_settle_8 ?_
  refine m_aload_n C dX7_settle_11 rfl 0 rfl ?_
  refine m_get (ref := "PaintLayers") C hR.me rfl i_X7 1 (by decide) (by decide +kernel) (fun x h => h) (v := .ref (Z (100 + 0))) rfl dX7_settle_12 ?_
  refine m_callVi (As := [.ref (Z (100 + 0))]) (st := []) C h_a rfl (c_Jx4a65c_add_9ea2d D A l h_a hB hnc (Nat.zero_le _) hel (hR.nd hr0)) (cwV 1 C.1.2.2.2.2 gX7_settle_Jx4a65c_add_9ea2d rfl rfl rfl (by decide +kernel) ⟨Nat.le_of_ble_eq_true rfl, Nat.le_of_ble_eq_true rfl⟩) rfl rfl (Nat.le_of_ble_eq_true rfl) dX7_settle_15 ⟨Nat.le_of_ble_eq_true rfl, Nat.le_of_ble_eq_true rfl⟩ (fun r2 M2 hq2 => ?_)
  have hR2 : cS D Z F cm g ar fi nl [0] rw M2 := hins 0 0 M2 (Nat.le_refl _) hr0 (hq2.2.imp (fun g hg => ⟨hg.1, hg.2, fun k h1 h2 => absurd h2 (Nat.not_lt_zero k)⟩))
  refine m_pop C dX7_settle_18 rfl ?_
  refine m_iconst (v := 0) C dX7_settle_19 (by decide) ?_
  refine m_istore_n (L' := [(1, .int 0), (0, .ref (Z 0))]) C dX7_settle_20 rfl (by decide) rfl ?_
  refine m_sub (L' := [(1, .int 0), (0, .ref (Z 0))]) [0, 1] rfl ?_
  refine m_widen (k' := ([] ++ [0] : List Nat).length) (n' := 60 * ([] ++ [0] : List Nat).length) (Nat.le_refl _) (Nat.le_refl _) ?_
  refine lp_X7_settle hw i_X3 iL i_X7 C (fun fj M3 hfv hR3 => ?_) _ [] [0] fi M2 rfl (by simp [pre9]) (fun y hy h0 => absurd (List.mem_singleton.mp hy) h0) (fun y hy => by cases hy) hR2
  have h40 := wf_pre40 hw hr0.1 hr0.2
  refine m_widen (k' := 40) (n' := 2400) h40 (by omega) ?_
  exact m_vret C (Nat.le_of_ble_eq_true rfl) (Nat.le_of_ble_eq_true rfl) dX7_settle_102 (⟨fj, hfv, hR3⟩)

