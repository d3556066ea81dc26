/-! ===== the reference: values, hits ===== -/
set_option maxHeartbeats 4000000 in
set_option maxRecDepth 100000 in
theorem lp_X8_valueOf {p : Program} {l : Launch} {e : Env} {s : State} {m : MethodId} {args : Array Value} {below : List Frame} {meth : Method} {c : Code} {Q : State → Prop} {D : mD} {A : Nat → Prop} {G : Nat → Nat} {o : Nat} {F : Mm} {t g : Int32} {cm : Nat} {ar : rA} {od : Nat → Int32} {M : Mm} {L9 : List Nat} (hR : rW D G o F t (nI cm) g (nI L9.length) (upA ar 17 od) M) (hw : wf ar cm) (hlen : L9.length ≤ 40) (hod : ∀ k, k < L9.length → od k = nI (L9.getD k 0)) (hL : ∀ k, k < L9.length → L9.getD k 0 < cm ∧ ¬ ar 2 (L9.getD k 0) = 0) (hcm : 1 ≤ cm ∧ cm ≤ 40) {px py : Int32} (C : mC p m meth c cX8_valueOf 7 s args wsX8_valueOf yX8_valueOf.cls D A yX8_valueOf (some .int)) (i8 : ∀ w ∈ wsX80, w ∈ wsX8_valueOf) (kx : mV p l e ({ frames := 46, cells := 0, slots := 0, locals := 2900 } : Room) s m args below meth c 7 D A Q M 0 0 [(4, .int (nI L9.length)), (3, .int (q_val ar g L9 px py)), (0, .ref o), (1, .int px), (2, .int py)] [] 75) : ∀ (N : Nat) (k9 : Nat), L9.length - k9 = N → (k9 ≤ L9.length) → mV p l e ({ frames := 46, cells := 0, slots := 0, locals := 2900 } : Room) s m args below meth c 7 D A Q M 0 0 [(4, .int (nI k9)), (3, .int (q_val ar g (L9.take k9) px py)), (0, .ref o), (1, .int px), (2, .int py)] [] 8 := by
  intro N
  induction N using Nat.strongRecOn with
  | _ N ih =>
    intro k9 hN hk
    refine m_iload C dX8_valueOf_8 0 rfl ?_
    refine m_aload_n C dX8_valueOf_10 rfl 2 rfl ?_
    refine r_get C hR i8 18 (by decide) (by decide +kernel) rfl rfl dX8_valueOf_11 ?_
    refine m_icmp_ge (tgt := 75) C dX8_valueOf_14 (by decide) (fun h_1 => ?_) (fun h_1 => ?_)
    · have hkm : k9 = L9.length := by
        have := (nI_leI (by omega) (by omega)).mp h_1
        omega
      subst hkm
      rw [List.take_length]
      exact kx
    · have hkm : k9 < L9.length := by
        rcases Nat.lt_or_ge k9 L9.length with z | z
        · exact z
        · exact absurd (nI_le z (by omega)) h_1
      obtain ⟨nk, hnk⟩ : ∃ z : Nat, z = L9.getD k9 0 := ⟨_, rfl⟩
      obtain ⟨hnc, hnp⟩ := hL k9 hkm
      have hodk := hod k9 hkm
      rw [← hnk] at hnc hnp hodk
      obtain ⟨l2, hch, hCH, hl39, hmem, hnd⟩ := wf_at hw hnc hnp
      refine m_aload_n C dX8_valueOf_17 rfl 2 rfl ?_
      refine r_get C hR i8 17 (by decide) (by decide +kernel) rfl rfl dX8_valueOf_18 ?_
      refine m_iload C dX8_valueOf_21 0 rfl ?_
      refine r_iald C hR 17 (by decide) rfl k9 (show k9 < 40 by omega) (rfl) dX8_valueOf_23 ?_
      refine m_i (y := od k9) (rfl) ?_
      refine m_i (y := nI nk) (hodk) ?_
      refine m_istore (L' := [(5, .int (nI nk)), (4, .int (nI k9)), (3, .int (q_val ar g (L9.take k9) px py)), (0, .ref o), (1, .int px), (2, .int py)]) C dX8_valueOf_24 (by decide) rfl ?_
      refine m_aload_n C dX8_valueOf_26 rfl 3 rfl ?_
      refine m_iload C dX8_valueOf_27 0 rfl ?_
      refine m_iload_n C dX8_valueOf_29 rfl 4 rfl ?_
      refine m_iload_n C dX8_valueOf_30 rfl 5 rfl ?_
      refine m_callVFi (As := [.int (nI nk), .int px, .int py]) (st := []) C hR.1 rfl (c_X8_isShown D A l hR hw hnc hnp px py) (cwV 3 C.1.2.2.2.2 gX8_valueOf_X8_isShown rfl rfl rfl (by decide +kernel) ⟨Nat.le_of_ble_eq_true rfl, Nat.le_of_ble_eq_true rfl⟩) rfl rfl (Nat.le_of_ble_eq_true rfl) dX8_valueOf_31 ⟨Nat.le_of_ble_eq_true rfl, Nat.le_of_ble_eq_true rfl⟩ ?_
      refine m_if_ne (tgt := 40) C dX8_valueOf_34 (by decide) (fun h_2 => ?_) (fun h_2 => ?_)
      · have h_2 := bI_n h_2
        refine m_aload_n C dX8_valueOf_40 rfl 3 rfl ?_
        refine m_iload C dX8_valueOf_41 0 rfl ?_
        refine m_callVFi (As := [.int (nI nk)]) (st := []) (v := q_str ar (nk :: l2)) C hR.1 rfl (c_X8_strengthD D A l hR 40 nk l2 hCH (by omega)) (cwV 1 C.1.2.2.2.2 gX8_valueOf_X8_strength rfl rfl rfl (by decide +kernel) ⟨Nat.le_of_ble_eq_true rfl, Nat.le_of_ble_eq_true rfl⟩) rfl rfl (Nat.le_of_ble_eq_true rfl) dX8_valueOf_43 ⟨Nat.le_of_ble_eq_true rfl, Nat.le_of_ble_eq_true rfl⟩ ?_
        refine m_i (y := q_sn ar nk) (by rw [q_sn, hch]) ?_
        refine m_istore (L' := [(6, .int (q_sn ar nk)), (5, .int (nI nk)), (4, .int (nI k9)), (3, .int (q_val ar g (L9.take k9) px py)), (0, .ref o), (1, .int px), (2, .int py)]) C dX8_valueOf_46 (by decide) rfl ?_
        refine m_iload_n C dX8_valueOf_48 rfl 3 rfl ?_
        refine m_bipush (v := 8) C dX8_valueOf_49 (by decide) ?_
        refine m_iload C dX8_valueOf_51 0 rfl ?_
        refine m_isub C dX8_valueOf_53 ?_
        refine m_imul C dX8_valueOf_54 ?_
        refine m_aload_n C dX8_valueOf_55 rfl 4 rfl ?_
        refine m_iload C dX8_valueOf_56 1 rfl ?_
        refine m_callVFi (As := [.int (nI nk)]) (st := [.int ((q_val ar g (L9.take k9) px py) * (8 - (q_sn ar nk)))]) (v := q_fill ar (nk :: l2)) C hR.1 rfl (c_X8_fillOf D A l hR (l0 := nk :: l2) hCH) (cwV 1 C.1.2.2.2.2 gX8_valueOf_X8_fillOf rfl rfl rfl (by decide +kernel) ⟨Nat.le_of_ble_eq_true rfl, Nat.le_of_ble_eq_true rfl⟩) rfl rfl (Nat.le_of_ble_eq_true rfl) dX8_valueOf_58 ⟨Nat.le_of_ble_eq_true rfl, Nat.le_of_ble_eq_true rfl⟩ ?_
        refine m_i (y := q_fn ar nk) (by rw [q_fn, hch]) ?_
        refine m_iload C dX8_valueOf_61 0 rfl ?_
        refine m_imul C dX8_valueOf_63 ?_
        refine m_iadd C dX8_valueOf_64 ?_
        refine m_bipush (v := 8) C dX8_valueOf_65 (by decide) ?_
        refine m_idiv C dX8_valueOf_67 (by decide) ?_
        refine m_i (y := q_lay ar (q_val ar g (L9.take k9) px py) nk) (rfl) ?_
        refine m_istore_n (L' := [(3, .int (q_lay ar (q_val ar g (L9.take k9) px py) nk)), (6, .int (q_sn ar nk)), (5, .int (nI nk)), (4, .int (nI k9)), (0, .ref o), (1, .int px), (2, .int py)]) C dX8_valueOf_68 rfl (by decide) rfl ?_
        obtain ⟨x_3, ex_3⟩ : ∃ z : Int32, z = nI k9 + 1 := ⟨_, rfl⟩
        refine m_iinc (q := 3) (v := x_3) (L' := [(4, .int x_3), (3, .int (q_lay ar (q_val ar g (L9.take k9) px py) nk)), (6, .int (q_sn ar nk)), (5, .int (nI nk)), (0, .ref o), (1, .int px), (2, .int py)]) C dX8_valueOf_69 rfl (by rw [ex_3]; rfl) (by decide) rfl ?_
        refine m_goto (tgt := 8) C dX8_valueOf_72 (by decide) ?_
        rw [nI_1] at ex_3
        subst ex_3
        refine m_sub (L' := [(4, .int (nI (k9 + 1))), (3, .int (q_lay ar (q_val ar g (L9.take k9) px py) nk)), (0, .ref o), (1, .int px), (2, .int py)]) [0, 1, 4, 5, 6] rfl ?_
        rw [show q_lay ar (q_val ar g (L9.take k9) px py) nk = q_val ar g (L9.take (k9 + 1)) px py by rw [q_val_s hkm, ← hnk, q_mix, if_pos h_2]]
        exact ih (L9.length - (k9 + 1)) (by omega) (k9 + 1) rfl (by omega)
      · have h_2 := bI_z h_2
        have h_2 : ¬ q_shown ar nk px py = true := by rw [h_2]; decide
        refine m_goto (tgt := 69) C dX8_valueOf_37 (by decide) ?_
        obtain ⟨x_4, ex_4⟩ : ∃ z : Int32, z = nI k9 + 1 := ⟨_, rfl⟩
        refine m_iinc (q := 1) (v := x_4) (L' := [(4, .int x_4), (5, .int (nI nk)), (3, .int (q_val ar g (L9.take k9) px py)), (0, .ref o), (1, .int px), (2, .int py)]) C dX8_valueOf_69 rfl (by rw [ex_4]; rfl) (by decide) rfl ?_
        refine m_goto (tgt := 8) C dX8_valueOf_72 (by decide) ?_
        rw [nI_1] at ex_4
        subst ex_4
        refine m_sub (L' := [(4, .int (nI (k9 + 1))), (3, .int (q_val ar g (L9.take k9) px py)), (0, .ref o), (1, .int px), (2, .int py)]) [0, 2, 3, 4, 5] rfl ?_
        rw [show q_val ar g (L9.take k9) px py = q_val ar g (L9.take (k9 + 1)) px py by rw [q_val_s hkm, ← hnk, q_mix, if_neg h_2]]
        exact ih (L9.length - (k9 + 1)) (by omega) (k9 + 1) rfl (by omega)
set_option maxHeartbeats 4000000 in
set_option maxRecDepth 100000 in
theorem c_X8_valueOf (D : mD) (A : Nat → Prop) (l : Launch) {G : Nat → Nat} {o : Nat} {F : Mm} {t g : Int32} {cm : Nat} {ar : rA} {od : Nat → Int32} {M : Mm} {L9 : List Nat} (hR : rW D G o F t (nI cm) g (nI L9.length) (upA ar 17 od) M) (hw : wf ar cm) (hlen : L9.length ≤ 40) (hod : ∀ k, k < L9.length → od k = nI (L9.getD k 0)) (hL : ∀ k, k < L9.length → L9.getD k 0 < cm ∧ ¬ ar 2 (L9.getD k 0) = 0) (px py : Int32) : mMi D A l yX8_valueOf wsX8_valueOf ({ frames := 46, cells := 0, slots := 0, locals := 2900 } : Room) [.ref o, .int px, .int py] M (fun r M' => M' = M ∧ r = q_val ar g L9 px py) 0 0 := by
  have hcm := hw.1
  refine m_start (cc := cX8_valueOf) (maxL := 7) (ret := (some .int)) (by decide) rfl (Nat.le_of_ble_eq_true rfl) ?_
  intro p e s m args below meth c C
  have i8 : ∀ w ∈ wsX80, w ∈ wsX8_valueOf := by decide +kernel
  refine m_sub (L' := [(0, .ref o), (1, .int px), (2, .int py)]) [0, 1, 2] rfl ?_
  refine m_aload_n C dX8_valueOf_0 rfl 0 rfl ?_
  refine r_get C hR i8 15 (by decide) (by decide +kernel) rfl rfl dX8_valueOf_1 ?_
  refine m_istore_n (L' := [(3, .int g), (0, .ref o), (1, .int px), (2, .int py)]) C dX8_valueOf_4 rfl (by decide) rfl ?_
  refine m_iconst (v := 0) C dX8_valueOf_5 (by decide) ?_
  refine m_istore (L' := [(4, .int 0), (3, .int g), (0, .ref o), (1, .int px), (2, .int py)]) C dX8_valueOf_6 (by decide) rfl ?_
  refine m_sub (L' := [(4, .int 0), (3, .int g), (0, .ref o), (1, .int px), (2, .int py)]) [0, 1, 2, 3, 4] rfl ?_
  refine lp_X8_valueOf hR hw hlen hod hL hcm C i8 ?_ _ 0 rfl (Nat.zero_le _)
  refine m_iload_n C dX8_valueOf_75 rfl 1 rfl ?_
  exact m_iret C (Nat.le_of_ble_eq_true rfl) (Nat.le_of_ble_eq_true rfl) dX8_valueOf_76 (⟨rfl, rfl⟩)
set_option maxHeartbeats 4000000 in
set_option maxRecDepth 100000 in
theorem lp_X8_showsOne {p : Program} {l : Launch} {e : Env} {s : State} {m : MethodId} {args : Array Value} {below : List Frame} {meth : Method} {c : Code} {Q : State → Prop} {D : mD} {A : Nat → Prop} {G : Nat → Nat} {o : Nat} {F : Mm} {t g : Int32} {cm : Nat} {ar : rA} {od : Nat → Int32} {M : Mm} {L9 : List Nat} (hR : rW D G o F t (nI cm) g (nI L9.length) (upA ar 17 od) M) (hw : wf ar cm) (hlen : L9.length ≤ 40) (hod : ∀ k, k < L9.length → od k = nI (L9.getD k 0)) (hL : ∀ k, k < L9.length → L9.getD k 0 < cm ∧ ¬ ar 2 (L9.getD k 0) = 0) (hcm : 1 ≤ cm ∧ cm ≤ 40) {px py : Int32} (C : mC p m meth c cX8_showsOne 5 s args wsX8_showsOne yX8_showsOne.cls D A yX8_showsOne (some .boolean)) (i8 : ∀ w ∈ wsX80, w ∈ wsX8_showsOne) (kx : ∀ x4 : Int32, mV p l e ({ frames := 46, cells := 0, slots := 0, locals := 2900 } : Room) s m args below meth c 5 D A Q M 0 0 [(4, .int x4), (3, .int (bI (q_any ar L9 px py))), (0, .ref o), (1, .int px), (2, .int py)] [] 38) : ∀ (N : Nat) (k9 : Nat) (b9 : Bool), L9.length - k9 = N → (k9 ≤ L9.length) → (q_any ar (L9.take k9) px py = b9) → mV p l e ({ frames := 46, cells := 0, slots := 0, locals := 2900 } : Room) s m args below meth c 5 D A Q M 0 0 [(4, .int (nI k9)), (3, .int (bI b9)), (0, .ref o), (1, .int px), (2, .int py)] [] 5 := by
  intro N
  induction N using Nat.strongRecOn with
  | _ N ih =>
    intro k9 b9 hN hk hb
    refine m_iload C dX8_showsOne_5 0 rfl ?_
    refine m_aload_n C dX8_showsOne_7 rfl 2 rfl ?_
    refine r_get C hR i8 18 (by decide) (by decide +kernel) rfl rfl dX8_showsOne_8 ?_
    refine m_icmp_ge (tgt := 38) C dX8_showsOne_11 (by decide) (fun h_1 => ?_) (fun h_1 => ?_)
    · have hkm : k9 = L9.length := by
        have := (nI_leI (by omega) (by omega)).mp h_1
        omega
      subst hkm
      rw [List.take_length] at hb
      rw [← hb]
      exact kx _
    · have hkm : k9 < L9.length := by
        rcases Nat.lt_or_ge k9 L9.length with z | z
        · exact z
        · exact absurd (nI_le z (by omega)) h_1
      refine m_iload_n C dX8_showsOne_14 rfl 1 rfl ?_
      refine m_if_ne (tgt := 38) C dX8_showsOne_15 (by decide) (fun h_2 => ?_) (fun h_2 => ?_)
      · have h_2 := bI_n h_2
        rw [h_2, ← q_any_m (hb.trans h_2)]
        exact kx _
      · have h_2 := bI_z h_2
        obtain ⟨nk, hnk⟩ : ∃ z : Nat, z = L9.getD k9 0 := ⟨_, rfl⟩
        obtain ⟨hnc, hnp⟩ := hL k9 hkm
        have hodk := hod k9 hkm
        rw [← hnk] at hnc hnp hodk
        obtain ⟨l2, hch, hCH, hl39, hmem, hnd⟩ := wf_at hw hnc hnp
        refine m_aload_n C dX8_showsOne_18 rfl 2 rfl ?_
        refine m_aload_n C dX8_showsOne_19 rfl 2 rfl ?_
        refine r_get C hR i8 17 (by decide) (by decide +kernel) rfl rfl dX8_showsOne_20 ?_
        refine m_iload C dX8_showsOne_23 0 rfl ?_
        refine r_iald C hR 17 (by decide) rfl k9 (show k9 < 40 by omega) (rfl) dX8_showsOne_25 ?_
        refine m_i (y := od k9) (rfl) ?_
        refine m_i (y := nI nk) (hodk) ?_
        refine m_iload_n C dX8_showsOne_26 rfl 3 rfl ?_
        refine m_iload_n C dX8_showsOne_27 rfl 4 rfl ?_
        refine m_callVFi (As := [.int (nI nk), .int px, .int py]) (st := []) C hR.1 rfl (c_X8_isShown D A l hR hw hnc hnp px py) (cwV 3 C.1.2.2.2.2 gX8_showsOne_X8_isShown rfl rfl rfl (by decide +kernel) ⟨Nat.le_of_ble_eq_true rfl, Nat.le_of_ble_eq_true rfl⟩) rfl rfl (Nat.le_of_ble_eq_true rfl) dX8_showsOne_28 ⟨Nat.le_of_ble_eq_true rfl, Nat.le_of_ble_eq_true rfl⟩ ?_
        refine m_istore_n (L' := [(3, .int (bI (q_shown ar nk px py))), (4, .int (nI k9)), (0, .ref o), (1, .int px), (2, .int py)]) C dX8_showsOne_31 rfl (by decide) rfl ?_
        obtain ⟨x_3, ex_3⟩ : ∃ z : Int32, z = nI k9 + 1 := ⟨_, rfl⟩
        refine m_iinc (q := 1) (v := x_3) (L' := [(4, .int x_3), (3, .int (bI (q_shown ar nk px py))), (0, .ref o), (1, .int px), (2, .int py)]) C dX8_showsOne_32 rfl (by rw [ex_3]; rfl) (by decide) rfl ?_
        refine m_goto (tgt := 5) C dX8_showsOne_35 (by decide) ?_
        rw [nI_1] at ex_3
        subst ex_3
        refine m_sub (L' := [(4, .int (nI (k9 + 1))), (3, .int (bI (q_shown ar nk px py))), (0, .ref o), (1, .int px), (2, .int py)]) [0, 1, 2, 3, 4] rfl ?_
        exact ih (L9.length - (k9 + 1)) (by omega) (k9 + 1) _ rfl (by omega) (by rw [q_any_s hkm, ← hnk, hb, h_2, Bool.false_or])
set_option maxHeartbeats 4000000 in
set_option maxRecDepth 100000 in
theorem c_X8_showsOne (D : mD) (A : Nat → Prop) (l : Launch) {G : Nat → Nat} {o : Nat} {F : Mm} {t g : Int32} {cm : Nat} {ar : rA} {od : Nat → Int32} {M : Mm} {L9 : List Nat} (hR : rW D G o F t (nI cm) g (nI L9.length) (upA ar 17 od) M) (hw : wf ar cm) (hlen : L9.length ≤ 40) (hod : ∀ k, k < L9.length → od k = nI (L9.getD k 0)) (hL : ∀ k, k < L9.length → L9.getD k 0 < cm ∧ ¬ ar 2 (L9.getD k 0) = 0) (px py : Int32) : mMi D A l yX8_showsOne wsX8_showsOne ({ frames := 46, cells := 0, slots := 0, locals := 2900 } : Room) [.ref o, .int px, .int py] M (fun r M' => M' = M ∧ r = bI (q_any ar L9 px py)) 0 0 := by
  have hcm := hw.1
  refine m_start (cc := cX8_showsOne) (maxL := 5) (ret := (some .boolean)) (by decide) rfl (Nat.le_of_ble_eq_true rfl) ?_
  intro p e s m args below meth c C
  have i8 : ∀ w ∈ wsX80, w ∈ wsX8_showsOne := by decide +kernel
  refine m_sub (L' := [(0, .ref o), (1, .int px), (2, .int py)]) [0, 1, 2] rfl ?_
  refine m_iconst (v := 0) C dX8_showsOne_0 (by decide) ?_
  refine m_istore_n (L' := [(3, .int 0), (0, .ref o), (1, .int px), (2, .int py)]) C dX8_showsOne_1 rfl (by decide) rfl ?_
  refine m_iconst (v := 0) C dX8_showsOne_2 (by decide) ?_
  refine m_istore (L' := [(4, .int 0), (3, .int 0), (0, .ref o), (1, .int px), (2, .int py)]) C dX8_showsOne_3 (by decide) rfl ?_
  refine m_sub (L' := [(4, .int 0), (3, .int 0), (0, .ref o), (1, .int px), (2, .int py)]) [0, 1, 2, 3, 4] rfl ?_
  refine lp_X8_showsOne hR hw hlen hod hL hcm C i8 (fun x4 => ?_) _ 0 false rfl (Nat.zero_le _) rfl
  refine m_iload_n C dX8_showsOne_38 rfl 1 rfl ?_
  exact m_zret C (Nat.le_of_ble_eq_true rfl) (Nat.le_of_ble_eq_true rfl) dX8_showsOne_39 (bI_01 _) (⟨rfl, rfl⟩)
set_option maxHeartbeats 4000000 in
set_option maxRecDepth 100000 in
theorem c_X8_value (D : mD) (A : Nat → Prop) (l : Launch) {G : Nat → Nat} {o : Nat} {F : Mm} {t g u : Int32} {cm : Nat} {ar : rA} {od : Nat → Int32} {M : Mm} (hR : rW D G o F t (nI cm) g u (upA ar 17 od) M) (hw : wf ar cm) (x y : Int32) : mMi D A l yX8_value wsX8_value ({ frames := 47, cells := 0, slots := 0, locals := 3000 } : Room) [.ref o, .int x, .int y] M (fun r M' => (∃ (od2 : Nat → Int32) (u2 : Int32), rW D G o F (k_pix x y) (nI cm) g u2 (upA ar 17 od2) M') ∧ (k_pix x y = 0 → r = q_val ar g (pre9 ar 0) x y)) 0 0 := by
  have hcm := hw.1
  refine m_start (cc := cX8_value) (maxL := 3) (ret := (some .int)) (by decide) rfl (Nat.le_of_ble_eq_true rfl) ?_
  intro p e s m args below meth c C
  have i8 : ∀ w ∈ wsX80, w ∈ wsX8_value := by decide +kernel
  refine m_sub (L' := [(0, .ref o), (1, .int x), (2, .int y)]) [0, 1, 2] rfl ?_
  refine m_aload_n C dX8_value_0 rfl 0 rfl ?_
  refine m_iconst (v := 0) C dX8_value_1 (by decide) ?_
  refine r_putT C hR i8 (by decide +kernel) dX8_value_2 (fun M hR => ?_)
  refine m_iload_n C dX8_value_5 rfl 1 rfl ?_
  refine m_iload_n C dX8_value_6 rfl 2 rfl ?_
  refine m_callSFi (As := [.int x, .int y]) (st := []) C (c_X8_isPixel D A l M x y) (va_cwS 2 C.1.2.2.2.2 gX8_value_X8_isPixel rfl rfl rfl (by decide +kernel) ⟨Nat.le_of_ble_eq_true rfl, Nat.le_of_ble_eq_true rfl⟩) rfl rfl (Nat.le_of_ble_eq_true rfl) dX8_value_7 ⟨Nat.le_of_ble_eq_true rfl, Nat.le_of_ble_eq_true rfl⟩ ?_
  refine m_if_ne (tgt := 19) C dX8_value_10 (by decide) (fun h_1 => ?_) (fun h_1 => ?_)
  · have h_1 := bI_n h_1
    refine m_aload_n C dX8_value_19 rfl 0 rfl ?_
    refine m_iconst (v := 0) C dX8_value_20 (by decide) ?_
    refine m_callVv (As := [.int 0]) (st := []) C hR.1 rfl (c_X8_walkAll D A l hR (n0 := 0) (by omega) (wf_tr40 hw (wf_root hw).1 (wf_root hw).2) (wf_pre40 hw (wf_root hw).1 (wf_root hw).2)) (cwV 1 C.1.2.2.2.2 gX8_value_X8_walkAll rfl rfl rfl (by decide +kernel) ⟨Nat.le_of_ble_eq_true rfl, Nat.le_of_ble_eq_true rfl⟩) rfl rfl (Nat.le_of_ble_eq_true rfl) dX8_value_21 ⟨Nat.le_of_ble_eq_true rfl, Nat.le_of_ble_eq_true rfl⟩ (fun M hq9 => ?_)
    obtain ⟨od2, hod, hR⟩ := hq9
    have hL := wf_preL hw (wf_root hw).1 (wf_root hw).2
    have hlen := wf_pre40 hw (wf_root hw).1 (wf_root hw).2
    refine m_aload_n C dX8_value_24 rfl 0 rfl ?_
    refine m_iload_n C dX8_value_25 rfl 1 rfl ?_
    refine m_iload_n C dX8_value_26 rfl 2 rfl ?_
    refine m_callVFi (As := [.int x, .int y]) (st := []) (v := q_val ar g (pre9 ar 0) x y) C hR.1 rfl (c_X8_valueOf D A l (L9 := pre9 ar 0) hR hw hlen hod hL x y) (cwV 2 C.1.2.2.2.2 gX8_value_X8_valueOf rfl rfl rfl (by decide +kernel) ⟨Nat.le_of_ble_eq_true rfl, Nat.le_of_ble_eq_true rfl⟩) rfl rfl (Nat.le_of_ble_eq_true rfl) dX8_value_27 ⟨Nat.le_of_ble_eq_true rfl, Nat.le_of_ble_eq_true rfl⟩ ?_
    exact m_iret C (Nat.le_of_ble_eq_true rfl) (Nat.le_of_ble_eq_true rfl) dX8_value_30 (by rw [show k_pix x y = 0 by simp [k_pix, h_1]]; exact ⟨⟨_, _, hR⟩, fun _ => rfl⟩)
  · have h_1 := bI_z h_1
    refine m_aload_n C dX8_value_13 rfl 0 rfl ?_
    refine m_iconst (v := 1) C dX8_value_14 (by decide) ?_
    refine m_callVi (As := [.int 1]) (st := []) C hR.1 rfl (c_X8_fail D A l hR 1) (cwV 1 C.1.2.2.2.2 gX8_value_X8_fail rfl rfl rfl (by decide +kernel) ⟨Nat.le_of_ble_eq_true rfl, Nat.le_of_ble_eq_true rfl⟩) rfl rfl (Nat.le_of_ble_eq_true rfl) dX8_value_15 ⟨Nat.le_of_ble_eq_true rfl, Nat.le_of_ble_eq_true rfl⟩ (fun r M h => ?_)
    obtain ⟨rfl, hR⟩ := h
    exact m_iret C (Nat.le_of_ble_eq_true rfl) (Nat.le_of_ble_eq_true rfl) dX8_value_18 (by rw [show k_pix x y = 1 by simp [k_pix, h_1]]; exact ⟨⟨_, _, hR⟩, fun z => absurd z (by decide)⟩)
def k_shows (cm : Nat) (ar : rA) (v x y : Int32) : Int32 := if (q_node cm ar v && q_pix x y) = true then 0 else 1
set_option maxHeartbeats 4000000 in
set_option maxRecDepth 100000 in
theorem c_X8_shows (D : mD) (A : Nat → Prop) (l : Launch) {G : Nat → Nat} {o : Nat} {F : Mm} {t g u : Int32} {cm : Nat} {ar : rA} {od : Nat → Int32} {M : Mm} (hR : rW D G o F t (nI cm) g u (upA ar 17 od) M) (hw : wf ar cm) (v x y : Int32) : mMi D A l yX8_shows wsX8_shows ({ frames := 47, cells := 0, slots := 0, locals := 3000 } : Room) [.ref o, .int v, .int x, .int y] M (fun r M' => (∃ (od2 : Nat → Int32) (u2 : Int32), rW D G o F (k_shows cm ar v x y) (nI cm) g u2 (upA ar 17 od2) M') ∧ (k_shows cm ar v x y = 0 → r = bI (q_any ar (pre9 ar (jN v)) x y))) 0 0 := by
  have hcm := hw.1
  refine m_start (cc := cX8_shows) (maxL := 4) (ret := (some .boolean)) (by decide) rfl (Nat.le_of_ble_eq_true rfl) ?_
  intro p e s m args below meth c C
  have i8 : ∀ w ∈ wsX80, w ∈ wsX8_shows := by decide +kernel
  refine m_sub (L' := [(0, .ref o), (1, .int v), (2, .int x), (3, .int y)]) [0, 1, 2, 3] rfl ?_
  refine m_aload_n C dX8_shows_0 rfl 0 rfl ?_
  refine m_aload_n C dX8_shows_1 rfl 0 rfl ?_
  refine m_iload_n C dX8_shows_2 rfl 1 rfl ?_
  refine m_callVFi (As := [.int v]) (st := [.ref o]) C hR.1 rfl (c_X8_isNode D A l hR hw.1 v) (cwV 1 C.1.2.2.2.2 gX8_shows_X8_isNode rfl rfl rfl (by decide +kernel) ⟨Nat.le_of_ble_eq_true rfl, Nat.le_of_ble_eq_true rfl⟩) rfl rfl (Nat.le_of_ble_eq_true rfl) dX8_shows_3 ⟨Nat.le_of_ble_eq_true rfl, Nat.le_of_ble_eq_true rfl⟩ ?_
  refine m_if_eq (tgt := 21) C dX8_shows_6 (by decide) (fun h1 => ?_) (fun h1 => ?_)
  · have h1 := bI_z h1
    refine m_iconst (v := 1) C dX8_shows_21 (by decide) ?_
    refine r_putT C hR i8 (by decide +kernel) dX8_shows_22 (fun M hR => ?_)
    refine m_aload_n C dX8_shows_25 rfl 0 rfl ?_
    refine r_get C hR i8 0 (by decide) (by decide +kernel) rfl rfl dX8_shows_26 ?_
    refine m_if_eq (tgt := 34) C dX8_shows_29 (by decide) (fun h_1 => ?_) (fun h_1 => ?_)
    · exact absurd h_1 (by decide)
    · refine m_iconst (v := 0) C dX8_shows_32 (by decide) ?_
      exact m_zret C (Nat.le_of_ble_eq_true rfl) (Nat.le_of_ble_eq_true rfl) dX8_shows_33 (Or.inl rfl) (by rw [show k_shows cm ar v x y = 1 by simp [k_shows, h1]]; exact ⟨⟨_, _, hR⟩, fun z => absurd z (by decide)⟩)
  · have h1 := bI_n h1
    obtain ⟨j, hj, hvj, hp⟩ := q_node_J hw.1 h1
    subst hvj
    have hjc : jN (nI j) = j := nI_clamp (by omega)
    refine m_iload_n C dX8_shows_9 rfl 2 rfl ?_
    refine m_iload_n C dX8_shows_10 rfl 3 rfl ?_
    refine m_callSFi (As := [.int x, .int y]) (st := [.ref o]) C (c_X8_isPixel D A l M x y) (va_cwS 2 C.1.2.2.2.2 gX8_shows_X8_isPixel rfl rfl rfl (by decide +kernel) ⟨Nat.le_of_ble_eq_true rfl, Nat.le_of_ble_eq_true rfl⟩) rfl rfl (Nat.le_of_ble_eq_true rfl) dX8_shows_11 ⟨Nat.le_of_ble_eq_true rfl, Nat.le_of_ble_eq_true rfl⟩ ?_
    refine m_if_eq (tgt := 21) C dX8_shows_14 (by decide) (fun h_2 => ?_) (fun h_2 => ?_)
    · have h_2 := bI_z h_2
      refine m_iconst (v := 1) C dX8_shows_21 (by decide) ?_
      refine r_putT C hR i8 (by decide +kernel) dX8_shows_22 (fun M hR => ?_)
      refine m_aload_n C dX8_shows_25 rfl 0 rfl ?_
      refine r_get C hR i8 0 (by decide) (by decide +kernel) rfl rfl dX8_shows_26 ?_
      refine m_if_eq (tgt := 34) C dX8_shows_29 (by decide) (fun h_3 => ?_) (fun h_3 => ?_)
      · exact absurd h_3 (by decide)
      · refine m_iconst (v := 0) C dX8_shows_32 (by decide) ?_
        exact m_zret C (Nat.le_of_ble_eq_true rfl) (Nat.le_of_ble_eq_true rfl) dX8_shows_33 (Or.inl rfl) (by rw [show k_shows cm ar (nI j) x y = 1 by simp [k_shows, h1, hjc, h_2]]; exact ⟨⟨_, _, hR⟩, fun z => absurd z (by decide)⟩)
    · have h_2 := bI_n h_2
      refine m_iconst (v := 0) C dX8_shows_17 (by decide) ?_
      refine m_goto (tgt := 22) C dX8_shows_18 (by decide) ?_
      refine r_putT C hR i8 (by decide +kernel) dX8_shows_22 (fun M hR => ?_)
      refine m_aload_n C dX8_shows_25 rfl 0 rfl ?_
      refine r_get C hR i8 0 (by decide) (by decide +kernel) rfl rfl dX8_shows_26 ?_
      refine m_if_eq (tgt := 34) C dX8_shows_29 (by decide) (fun h_4 => ?_) (fun h_4 => ?_)
      · refine m_aload_n C dX8_shows_34 rfl 0 rfl ?_
        refine m_iload_n C dX8_shows_35 rfl 1 rfl ?_
        refine m_callVv (As := [.int (nI j)]) (st := []) C hR.1 rfl (c_X8_walkAll D A l hR (n0 := j) (by omega) (wf_tr40 hw hj hp) (wf_pre40 hw hj hp)) (cwV 1 C.1.2.2.2.2 gX8_shows_X8_walkAll rfl rfl rfl (by decide +kernel) ⟨Nat.le_of_ble_eq_true rfl, Nat.le_of_ble_eq_true rfl⟩) rfl rfl (Nat.le_of_ble_eq_true rfl) dX8_shows_36 ⟨Nat.le_of_ble_eq_true rfl, Nat.le_of_ble_eq_true rfl⟩ (fun M hq9 => ?_)
        obtain ⟨od2, hod, hR⟩ := hq9
        have hL := wf_preL hw hj hp
        have hlen := wf_pre40 hw hj hp
        refine m_aload_n C dX8_shows_39 rfl 0 rfl ?_
        refine m_iload_n C dX8_shows_40 rfl 2 rfl ?_
        refine m_iload_n C dX8_shows_41 rfl 3 rfl ?_
        refine m_callVFi (As := [.int x, .int y]) (st := []) (v := bI (q_any ar (pre9 ar j) x y)) C hR.1 rfl (c_X8_showsOne D A l (L9 := pre9 ar j) hR hw hlen hod hL x y) (cwV 2 C.1.2.2.2.2 gX8_shows_X8_showsOne rfl rfl rfl (by decide +kernel) ⟨Nat.le_of_ble_eq_true rfl, Nat.le_of_ble_eq_true rfl⟩) rfl rfl (Nat.le_of_ble_eq_true rfl) dX8_shows_42 ⟨Nat.le_of_ble_eq_true rfl, Nat.le_of_ble_eq_true rfl⟩ ?_
        exact m_zret C (Nat.le_of_ble_eq_true rfl) (Nat.le_of_ble_eq_true rfl) dX8_shows_45 (bI_01 _) (by rw [show k_shows cm ar (nI j) x y = 0 by simp [k_shows, h1, hjc, h_2]]; exact ⟨⟨_, _, hR⟩, fun _ => by rw [hjc]⟩)
      · exact absurd h_4 (by decide)
set_option maxHeartbeats 4000000 in
set_option maxRecDepth 100000 in
theorem lp_X8_hit {p : Program} {l : Launch} {e : Env} {s : State} {m : MethodId} {args : Array Value} {below : List Frame} {meth : Method} {c : Code} {Q : State → Prop} {D : mD} {A : Nat → Prop} {G : Nat → Nat} {o : Nat} {F : Mm} {g : Int32} {cm : Nat} {ar : rA} {od : Nat → Int32} {M : Mm} {L9 : List Nat} (hR : rW D G o F 0 (nI cm) g (nI L9.length) (upA ar 17 od) M) (hw : wf ar cm) (hlen : L9.length ≤ 40) (hod : ∀ k, k < L9.length → od k = nI (L9.getD k 0)) (hL : ∀ k, k < L9.length → L9.getD k 0 < cm ∧ ¬ ar 2 (L9.getD k 0) = 0) (hcm : 1 ≤ cm ∧ cm ≤ 40) {px py B : Int32} (C : mC p m meth c cX8_hit 4 s args wsX8_hit yX8_hit.cls D A yX8_hit (some .int)) (i8 : ∀ w ∈ wsX80, w ∈ wsX8_hit) (k76 : ∀ x3 : Int32, -1 = B → mV p l e ({ frames := 47, cells := 0, slots := 0, locals := 3000 } : Room) s m args below meth c 4 D A Q M 0 0 [(3, .int x3), (0, .ref o), (1, .int px), (2, .int py)] [] 76) (k69 : ∀ x3 v : Int32, v = B → mV p l e ({ frames := 47, cells := 0, slots := 0, locals := 3000 } : Room) s m args below meth c 4 D A Q M 0 0 [(3, .int x3), (0, .ref o), (1, .int px), (2, .int py)] [.int v] 69) : ∀ (N : Nat) (j9 : Nat) (x3 : Int32), j9 = N → (j9 ≤ L9.length) → (x3 = nI j9 - 1) → (q_hitL ar (L9.take j9) px py = B) → mV p l e ({ frames := 47, cells := 0, slots := 0, locals := 3000 } : Room) s m args below meth c 4 D A Q M 0 0 [(3, .int x3), (0, .ref o), (1, .int px), (2, .int py)] [] 31 := by
  intro N
  induction N using Nat.strongRecOn with
  | _ N ih =>
    intro j9 x3 hN hj hx hB
    refine m_iload_n C dX8_hit_31 rfl 0 rfl ?_
    refine m_if_lt (tgt := 76) C dX8_hit_32 (by decide) (fun h_1 => ?_) (fun h_1 => ?_)
    · have hjz : j9 = 0 := by
        rcases Nat.eq_zero_or_pos j9 with z | z
        · exact z
        · rw [hx, show (1 : Int32) = nI 1 from rfl, pk_sub z] at h_1
          exact absurd h_1 (nI_pos (by omega))
      subst hjz
      exact k76 _ (by rw [← hB]; rfl)
    · have hj1 : 0 < j9 := by
        rcases Nat.eq_zero_or_pos j9 with z | z
        · rw [hx, z] at h_1
          exact absurd (show nI 0 - 1 < 0 by decide) h_1
        · exact z
      obtain ⟨k9, rfl⟩ : ∃ k9, j9 = k9 + 1 := ⟨j9 - 1, by omega⟩
      rw [nI_pred] at hx
      subst hx
      have hkm : k9 < L9.length := by omega
      obtain ⟨nk, hnk⟩ : ∃ z : Nat, z = L9.getD k9 0 := ⟨_, rfl⟩
      obtain ⟨hnc, hnp⟩ := hL k9 hkm
      have hodk := hod k9 hkm
      rw [← hnk] at hnc hnp hodk
      obtain ⟨l2, hch, hCH, hl39, hmem, hnd⟩ := wf_at hw hnc hnp
      rw [q_hitL_s hkm, ← hnk] at hB
      refine m_aload_n C dX8_hit_35 rfl 1 rfl ?_
      refine m_aload_n C dX8_hit_36 rfl 1 rfl ?_
      refine r_get C hR i8 17 (by decide) (by decide +kernel) rfl rfl dX8_hit_37 ?_
      refine m_iload_n C dX8_hit_40 rfl 0 rfl ?_
      refine r_iald C hR 17 (by decide) rfl k9 (show k9 < 40 by omega) (rfl) dX8_hit_41 ?_
      refine m_i (y := od k9) (rfl) ?_
      refine m_i (y := nI nk) (hodk) ?_
      refine m_iload_n C dX8_hit_42 rfl 2 rfl ?_
      refine m_iload_n C dX8_hit_43 rfl 3 rfl ?_
      refine m_callVFi (As := [.int (nI nk), .int px, .int py]) (st := []) C hR.1 rfl (c_X8_isShown D A l hR hw hnc hnp px py) (cwV 3 C.1.2.2.2.2 gX8_hit_X8_isShown rfl rfl rfl (by decide +kernel) ⟨Nat.le_of_ble_eq_true rfl, Nat.le_of_ble_eq_true rfl⟩) rfl rfl (Nat.le_of_ble_eq_true rfl) dX8_hit_44 ⟨Nat.le_of_ble_eq_true rfl, Nat.le_of_ble_eq_true rfl⟩ ?_
      refine m_if_eq (tgt := 70) C dX8_hit_47 (by decide) (fun h_2 => ?_) (fun h_2 => ?_)
      · have h_2 := bI_z h_2
        obtain ⟨x4, ex4⟩ : ∃ y : Int32, y = nI k9 - 1 := ⟨_, rfl⟩
        refine m_iinc (q := 0) (v := x4) (L' := [(3, .int x4), (0, .ref o), (1, .int px), (2, .int py)]) C dX8_hit_70 rfl (by rw [ex4, Int32.sub_eq_add_neg]; rfl) (by decide) rfl ?_
        refine m_goto (tgt := 31) C dX8_hit_73 (by decide) ?_
        refine m_sub (L' := [(3, .int x4), (0, .ref o), (1, .int px), (2, .int py)]) [0, 1, 2, 3] rfl ?_
        exact ih k9 (by omega) k9 x4 rfl (by omega) ex4 (by rw [← hB, if_neg]; simp [h_2, Int32.not_lt])
      · have h_2 := bI_n h_2
        refine m_aload_n C dX8_hit_50 rfl 1 rfl ?_
        refine m_aload_n C dX8_hit_51 rfl 1 rfl ?_
        refine r_get C hR i8 17 (by decide) (by decide +kernel) rfl rfl dX8_hit_52 ?_
        refine m_iload_n C dX8_hit_55 rfl 0 rfl ?_
        refine r_iald C hR 17 (by decide) rfl k9 (show k9 < 40 by omega) (rfl) dX8_hit_56 ?_
        refine m_i (y := od k9) (rfl) ?_
        refine m_i (y := nI nk) (hodk) ?_
        refine m_callVFi (As := [.int (nI nk)]) (st := []) (v := q_str ar (nk :: l2)) C hR.1 rfl (c_X8_strengthD D A l hR 40 nk l2 hCH (by omega)) (cwV 1 C.1.2.2.2.2 gX8_hit_X8_strength rfl rfl rfl (by decide +kernel) ⟨Nat.le_of_ble_eq_true rfl, Nat.le_of_ble_eq_true rfl⟩) rfl rfl (Nat.le_of_ble_eq_true rfl) dX8_hit_57 ⟨Nat.le_of_ble_eq_true rfl, Nat.le_of_ble_eq_true rfl⟩ ?_
        refine m_i (y := q_sn ar nk) (by rw [q_sn, hch]) ?_
        refine m_if_le (tgt := 70) C dX8_hit_60 (by decide) (fun h_3 => ?_) (fun h_3 => ?_)
        · obtain ⟨x4, ex4⟩ : ∃ y : Int32, y = nI k9 - 1 := ⟨_, rfl⟩
          refine m_iinc (q := 0) (v := x4) (L' := [(3, .int x4), (0, .ref o), (1, .int px), (2, .int py)]) C dX8_hit_70 rfl (by rw [ex4, Int32.sub_eq_add_neg]; rfl) (by decide) rfl ?_
          refine m_goto (tgt := 31) C dX8_hit_73 (by decide) ?_
          refine m_sub (L' := [(3, .int x4), (0, .ref o), (1, .int px), (2, .int py)]) [0, 1, 2, 3] rfl ?_
          exact ih k9 (by omega) k9 x4 rfl (by omega) ex4 (by rw [← hB, if_neg]; simp [h_2, h_3, Int32.not_lt])
        · refine m_aload_n C dX8_hit_63 rfl 1 rfl ?_
          refine r_get C hR i8 17 (by decide) (by decide +kernel) rfl rfl dX8_hit_64 ?_
          refine m_iload_n C dX8_hit_67 rfl 0 rfl ?_
          refine r_iald C hR 17 (by decide) rfl k9 (show k9 < 40 by omega) (rfl) dX8_hit_68 ?_
          refine m_i (y := od k9) (rfl) ?_
          refine m_i (y := nI nk) (hodk) ?_
          exact k69 _ _ (by rw [← hB, if_pos]; simp [h_2, Int32.not_le.mp h_3, h_3])
set_option maxHeartbeats 4000000 in
set_option maxRecDepth 100000 in
theorem c_X8_hit (D : mD) (A : Nat → Prop) (l : Launch) {G : Nat → Nat} {o : Nat} {F : Mm} {t g u : Int32} {cm : Nat} {ar : rA} {od : Nat → Int32} {M : Mm} (hR : rW D G o F t (nI cm) g u (upA ar 17 od) M) (hw : wf ar cm) (x y : Int32) : mMi D A l yX8_hit wsX8_hit ({ frames := 47, cells := 0, slots := 0, locals := 3000 } : Room) [.ref o, .int x, .int y] M (fun r M' => (∃ (od2 : Nat → Int32) (u2 : Int32), rW D G o F (k_pix x y) (nI cm) g u2 (upA ar 17 od2) M') ∧ (k_pix x y = 0 → r = q_hitL ar (pre9 ar 0) x y)) 0 0 := by
  have hcm := hw.1
  refine m_start (cc := cX8_hit) (maxL := 4) (ret := (some .int)) (by decide) rfl (Nat.le_of_ble_eq_true rfl) ?_
  intro p e s m args below meth c C
  have i8 : ∀ w ∈ wsX80, w ∈ wsX8_hit := by decide +kernel
  refine m_sub (L' := [(0, .ref o), (1, .int x), (2, .int y)]) [0, 1, 2] rfl ?_
  refine m_aload_n C dX8_hit_0 rfl 0 rfl ?_
  refine m_iconst (v := 0) C dX8_hit_1 (by decide) ?_
  refine r_putT C hR i8 (by decide +kernel) dX8_hit_2 (fun M hR => ?_)
  refine m_iload_n C dX8_hit_5 rfl 1 rfl ?_
  refine m_iload_n C dX8_hit_6 rfl 2 rfl ?_
  refine m_callSFi (As := [.int x, .int y]) (st := []) C (c_X8_isPixel D A l M x y) (va_cwS 2 C.1.2.2.2.2 gX8_hit_X8_isPixel rfl rfl rfl (by decide +kernel) ⟨Nat.le_of_ble_eq_true rfl, Nat.le_of_ble_eq_true rfl⟩) rfl rfl (Nat.le_of_ble_eq_true rfl) dX8_hit_7 ⟨Nat.le_of_ble_eq_true rfl, Nat.le_of_ble_eq_true rfl⟩ ?_
  refine m_if_ne (tgt := 19) C dX8_hit_10 (by decide) (fun h_1 => ?_) (fun h_1 => ?_)
  · have h_1 := bI_n h_1
    refine m_aload_n C dX8_hit_19 rfl 0 rfl ?_
    refine m_iconst (v := 0) C dX8_hit_20 (by decide) ?_
    refine m_callVv (As := [.int 0]) (st := []) C hR.1 rfl (c_X8_walkAll D A l hR (n0 := 0) (by omega) (wf_tr40 hw (wf_root hw).1 (wf_root hw).2) (wf_pre40 hw (wf_root hw).1 (wf_root hw).2)) (cwV 1 C.1.2.2.2.2 gX8_hit_X8_walkAll rfl rfl rfl (by decide +kernel) ⟨Nat.le_of_ble_eq_true rfl, Nat.le_of_ble_eq_true rfl⟩) rfl rfl (Nat.le_of_ble_eq_true rfl) dX8_hit_21 ⟨Nat.le_of_ble_eq_true rfl, Nat.le_of_ble_eq_true rfl⟩ (fun M hq9 => ?_)
    obtain ⟨od2, hod, hR⟩ := hq9
    have hL := wf_preL hw (wf_root hw).1 (wf_root hw).2
    have hlen := wf_pre40 hw (wf_root hw).1 (wf_root hw).2
    refine m_aload_n C dX8_hit_24 rfl 0 rfl ?_
    refine r_get C hR i8 18 (by decide) (by decide +kernel) rfl rfl dX8_hit_25 ?_
    refine m_iconst (v := 1) C dX8_hit_28 (by decide) ?_
    refine m_isub C dX8_hit_29 ?_
    refine m_istore_n (L' := [(3, .int ((nI (pre9 ar 0).length) - 1)), (0, .ref o), (1, .int x), (2, .int y)]) C dX8_hit_30 rfl (by decide) rfl ?_
    refine m_sub (L' := [(3, .int ((nI (pre9 ar 0).length) - 1)), (0, .ref o), (1, .int x), (2, .int y)]) [0, 1, 2, 3] rfl ?_
    refine lp_X8_hit (L9 := pre9 ar 0) hR hw hlen hod hL hcm C i8 (fun x3 hB => ?_) (fun x3 v hB => ?_) _ (pre9 ar 0).length _ rfl (Nat.le_refl _) rfl (by rw [List.take_length])
    · refine m_iconst (v := (-1)) C dX8_hit_76 (by decide) ?_
      exact m_iret C (Nat.le_of_ble_eq_true rfl) (Nat.le_of_ble_eq_true rfl) dX8_hit_77 (by rw [show k_pix x y = 0 by simp [k_pix, h_1]]; exact ⟨⟨_, _, hR⟩, fun _ => hB⟩)
    · exact m_iret C (Nat.le_of_ble_eq_true rfl) (Nat.le_of_ble_eq_true rfl) dX8_hit_69 (by rw [show k_pix x y = 0 by simp [k_pix, h_1]]; exact ⟨⟨_, _, hR⟩, fun _ => hB⟩)
  · have h_1 := bI_z h_1
    refine m_aload_n C dX8_hit_13 rfl 0 rfl ?_
    refine m_iconst (v := 1) C dX8_hit_14 (by decide) ?_
    refine m_callVi (As := [.int 1]) (st := []) C hR.1 rfl (c_X8_fail D A l hR 1) (cwV 1 C.1.2.2.2.2 gX8_hit_X8_fail rfl rfl rfl (by decide +kernel) ⟨Nat.le_of_ble_eq_true rfl, Nat.le_of_ble_eq_true rfl⟩) rfl rfl (Nat.le_of_ble_eq_true rfl) dX8_hit_15 ⟨Nat.le_of_ble_eq_true rfl, Nat.le_of_ble_eq_true rfl⟩ (fun r M h => ?_)
    obtain ⟨rfl, hR⟩ := h
    exact m_iret C (Nat.le_of_ble_eq_true rfl) (Nat.le_of_ble_eq_true rfl) dX8_hit_18 (by rw [show k_pix x y = 1 by simp [k_pix, h_1]]; exact ⟨⟨_, _, hR⟩, fun z => absurd z (by decide)⟩)
