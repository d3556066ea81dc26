/-! ===== the reference: removing and moving ===== -/
theorem q_clr_take {f : Nat → Int32} {l1 : List Nat} {k : Nat} (hk : k < l1.length) : upd (q_clr f (l1.take k)) (l1.getD k 0) 0 = q_clr f (l1.take (k + 1)) := by
  unfold q_clr
  rw [List.take_succ, List.foldl_append, List.getD_eq_getElem?_getD, List.getElem?_eq_getElem hk]
  rfl
theorem wf_cut {ar : rA} {cm : Nat} (hw : wf ar cm) {n k9 m9 : Nat} (hn : n < cm) (hp : ¬ ar 2 n = 0) (h0 : n ≠ 0) (hm9 : m9 ≤ 40) : TR (q_out ar (par9 ar n) k9 m9) 40 n ∧ q_pre (q_out ar (par9 ar n) k9 m9) 40 n = pre9 ar n := by
  refine q_pre_cong 40 n (wf_tr40 hw hn hp) (fun x hx => ?_)
  have hne : x ≠ par9 ar n := fun z => wf_pos hw hn hp h0 (by rw [← z]; exact hx)
  exact ⟨(q_out_row (k9 := k9) hne (show 0 < 40 by decide) hm9).1, fun k hk => (q_out_row hne (by omega) hm9).2⟩
set_option maxHeartbeats 4000000 in
set_option maxRecDepth 100000 in
theorem lp_X8_remove {p : Program} {l : Launch} {e : Env} {s : State} {m : MethodId} {args : Array Value} {below : List Frame} {meth : Method} {c : Code} {Q : State → Prop} {D : mD} {A : Nat → Prop} {G : Nat → Nat} {o : Nat} {F : Mm} {g : Int32} {cm : Nat} {arx : rA} {od2 f0 : Nat → Int32} {x0 : Int32} {L9 : List Nat} (hlen : L9.length ≤ 40) (hod : ∀ k, k < L9.length → od2 k = nI (L9.getD k 0)) (hL : ∀ k, k < L9.length → L9.getD k 0 < 40) (C : mC p m meth c cX8_remove 3 s args wsX8_remove yX8_remove.cls D A yX8_remove (some .int)) (i8 : ∀ w ∈ wsX80, w ∈ wsX8_remove) (kx : ∀ M : Mm, rW D G o F 0 (nI cm) g (nI L9.length) (upA (upA arx 2 (q_clr f0 L9)) 17 od2) M → mV p l e ({ frames := 43, cells := 0, slots := 0, locals := 1820 } : Room) s m args below meth c 3 D A Q M 0 0 [(2, .int (nI L9.length)), (0, .ref o), (1, .int x0)] [] 67) : ∀ (N : Nat) (k9 : Nat) (M : Mm), L9.length - k9 = N → k9 ≤ L9.length → rW D G o F 0 (nI cm) g (nI L9.length) (upA (upA arx 2 (q_clr f0 (L9.take k9))) 17 od2) M → mV p l e ({ frames := 43, cells := 0, slots := 0, locals := 1820 } : Room) s m args below meth c 3 D A Q M 0 0 [(2, .int (nI k9)), (0, .ref o), (1, .int x0)] [] 41 := by
  intro N
  induction N using Nat.strongRecOn with
  | _ N ih =>
    intro k9 M hN hk hR
    refine m_iload_n C dX8_remove_41 rfl 0 rfl ?_
    refine m_aload_n C dX8_remove_42 rfl 1 rfl ?_
    refine r_get C hR i8 18 (by decide) (by decide +kernel) rfl rfl dX8_remove_43 ?_
    refine m_icmp_ge (tgt := 67) C dX8_remove_46 (by decide) (fun h_1 => ?_) (fun h_1 => ?_)
    · have hkm : k9 = L9.length := by
        have := (nI_leI (by omega) (by omega)).mp h_1
        omega
      subst hkm
      refine kx M ?_
      rw [List.take_length] at hR
      exact hR
    · have hkm : k9 < L9.length := by
        rcases Nat.lt_or_ge k9 L9.length with z | z
        · exact z
        · exact absurd (nI_le z (by omega)) h_1
      refine m_aload_n C dX8_remove_49 rfl 1 rfl ?_
      refine r_get C hR i8 2 (by decide) (by decide +kernel) rfl rfl dX8_remove_50 ?_
      refine m_aload_n C dX8_remove_53 rfl 1 rfl ?_
      refine r_get C hR i8 17 (by decide) (by decide +kernel) rfl rfl dX8_remove_54 ?_
      refine m_iload_n C dX8_remove_57 rfl 0 rfl ?_
      refine r_iald C hR 17 (by decide) rfl k9 (show k9 < 40 by omega) (rfl) dX8_remove_58 ?_
      refine m_i (y := od2 k9) (rfl) ?_
      refine m_i (y := nI (L9.getD k9 0)) (hod k9 hkm) ?_
      refine m_iconst (v := 0) C dX8_remove_59 (by decide) ?_
      refine r_zast C hR 2 (by decide) rfl (L9.getD k9 0) (hL k9 hkm) (rfl) (Or.inl rfl) dX8_remove_60 (fun M hR => ?_)
      have hR := r_c17 (f := 2) (v := upd (q_clr f0 (L9.take k9)) (L9.getD k9 0) 0) (by decide) hR
      rw [upA_upA] at hR
      obtain ⟨x_2, ex_2⟩ : ∃ z : Int32, z = nI k9 + 1 := ⟨_, rfl⟩
      refine m_iinc (q := 0) (v := x_2) (L' := [(2, .int x_2), (0, .ref o), (1, .int x0)]) C dX8_remove_61 rfl (by rw [ex_2]; rfl) (by decide) rfl ?_
      refine m_goto (tgt := 41) C dX8_remove_64 (by decide) ?_
      rw [q_clr_take hkm] at hR
      rw [nI_1] at ex_2
      subst ex_2
      refine m_sub (L' := [(2, .int (nI (k9 + 1))), (0, .ref o), (1, .int x0)]) [0, 1, 2] rfl ?_
      exact ih (L9.length - (k9 + 1)) (by omega) (k9 + 1) M rfl (by omega) hR
set_option maxHeartbeats 4000000 in
set_option maxRecDepth 100000 in
theorem c_X8_remove (D : mD) (A : Nat → Prop) (l : Launch) {G : Nat → Nat} {o : Nat} {F : Mm} {t g u : Int32} {cm : Nat} {ar : rA} {od : Nat → Int32} {M : Mm} (hR : rW D G o F t (nI cm) g u (upA ar 17 od) M) (hw : wf ar cm) (v : Int32) : mMi D A l yX8_remove wsX8_remove ({ frames := 43, cells := 0, slots := 0, locals := 1820 } : Room) [.ref o, .int v] M (fun r M' => ∃ od2 : Nat → Int32, (∃ u2 : Int32, rW D G o F (k_remove cm ar v) (nI cm) g u2 (upA (if k_remove cm ar v = 0 then s_remove ar v else ar) 17 od2) M') ∧ (k_remove cm ar v = 0 → r = nI (pre9 ar (jN v)).length)) 0 0 := by
  have hcm := hw.1
  refine m_start (cc := cX8_remove) (maxL := 3) (ret := (some .int)) (by decide) rfl (Nat.le_of_ble_eq_true rfl) ?_
  intro p e s m args below meth c C
  have i8 : ∀ w ∈ wsX80, w ∈ wsX8_remove := by decide +kernel
  refine m_sub (L' := [(0, .ref o), (1, .int v)]) [0, 1] rfl ?_
  refine m_aload_n C dX8_remove_0 rfl 0 rfl ?_
  refine m_iconst (v := 0) C dX8_remove_1 (by decide) ?_
  refine r_putT C hR i8 (by decide +kernel) dX8_remove_2 (fun M hR => ?_)
  refine m_aload_n C dX8_remove_5 rfl 0 rfl ?_
  refine m_iload_n C dX8_remove_6 rfl 1 rfl ?_
  refine m_callVFi (As := [.int v]) (st := []) C hR.1 rfl (c_X8_isNode D A l hR hw.1 v) (cwV 1 C.1.2.2.2.2 gX8_remove_X8_isNode rfl rfl rfl (by decide +kernel) ⟨Nat.le_of_ble_eq_true rfl, Nat.le_of_ble_eq_true rfl⟩) rfl rfl (Nat.le_of_ble_eq_true rfl) dX8_remove_7 ⟨Nat.le_of_ble_eq_true rfl, Nat.le_of_ble_eq_true rfl⟩ ?_
  refine m_if_ne (tgt := 19) C dX8_remove_10 (by decide) (fun h1 => ?_) (fun h1 => ?_)
  · have h1 := bI_n h1
    obtain ⟨j, hj, hvj, hp⟩ := q_node_J hw.1 h1
    subst hvj
    have hjc : jN (nI j) = j := nI_clamp (by omega)
    refine m_iload_n C dX8_remove_19 rfl 1 rfl ?_
    refine m_if_ne (tgt := 29) C dX8_remove_20 (by decide) (fun h_1 => ?_) (fun h_1 => ?_)
    · have hj0 : ¬ j = 0 := fun y => h_1 (by rw [y]; rfl)
      obtain ⟨q8, k8, m9, hT1, hT0, hTq, hTqp, hTq3, hT00, hT2, hT3, hT4, hT5, hT6, hTc⟩ := wf_par hw hj hp hj0
      subst hT0
      subst hT00
      have hmm : mny ar (par9 ar j) = m9 + 1 := by rw [mny, hT4, nI_clamp (by omega)]
      refine m_aload_n C dX8_remove_29 rfl 0 rfl ?_
      refine m_iload_n C dX8_remove_30 rfl 1 rfl ?_
      refine m_callVv (As := [.int (nI j)]) (st := []) C hR.1 rfl (c_X8_takeOut D A l hR (j := j) (q := par9 ar j) (k9 := plc ar j) (m9 := m9) (by omega) hj0 (by omega) hT1 (by omega) hT2 hT3 hT4 hT5 hT6) (cwV 1 C.1.2.2.2.2 gX8_remove_X8_takeOut rfl rfl rfl (by decide +kernel) ⟨Nat.le_of_ble_eq_true rfl, Nat.le_of_ble_eq_true rfl⟩) rfl rfl (Nat.le_of_ble_eq_true rfl) dX8_remove_31 ⟨Nat.le_of_ble_eq_true rfl, Nat.le_of_ble_eq_true rfl⟩ (fun M hR => ?_)
      refine m_aload_n C dX8_remove_34 rfl 0 rfl ?_
      refine m_iload_n C dX8_remove_35 rfl 1 rfl ?_
      obtain ⟨hcT, hcp⟩ := wf_cut (k9 := plc ar j) (m9 := m9) hw hj hp hj0 (by omega)
      have hwa := c_X8_walkAll D A l hR (n0 := j) (by omega) hcT (by rw [hcp]; exact wf_pre40 hw hj hp)
      rw [hcp] at hwa
      refine m_callVv (As := [.int (nI j)]) (st := []) C hR.1 rfl hwa (cwV 1 C.1.2.2.2.2 gX8_remove_X8_walkAll rfl rfl rfl (by decide +kernel) ⟨Nat.le_of_ble_eq_true rfl, Nat.le_of_ble_eq_true rfl⟩) rfl rfl (Nat.le_of_ble_eq_true rfl) dX8_remove_36 ⟨Nat.le_of_ble_eq_true rfl, Nat.le_of_ble_eq_true rfl⟩ (fun M hq9 => ?_)
      obtain ⟨od2, hod, hR⟩ := hq9
      refine m_iconst (v := 0) C dX8_remove_39 (by decide) ?_
      refine m_istore_n (L' := [(2, .int 0), (0, .ref o), (1, .int (nI j))]) C dX8_remove_40 rfl (by decide) rfl ?_
      have hR : rW D G o F 0 (nI cm) g (nI (pre9 ar j).length) (upA (upA (q_out ar (par9 ar j) (plc ar j) m9) 2 (q_clr (ar 2) ((pre9 ar j).take 0))) 17 od2) M := by
        rw [upA_eq (show (q_out ar (par9 ar j) (plc ar j) m9) 2 = q_clr (ar 2) ((pre9 ar j).take 0) from rfl)]
        exact hR
      refine m_sub (L' := [(2, .int 0), (0, .ref o), (1, .int (nI j))]) [0, 1, 2] rfl ?_
      refine lp_X8_remove (wf_pre40 hw hj hp) hod (fun k hk => ?_) C i8 (fun M hR => ?_) _ 0 M rfl (Nat.zero_le _) hR
      · have h9 := wf_pre_ch hw j hj hp ((pre9 ar j).getD k 0) (by rw [List.getD_eq_getElem?_getD, List.getElem?_eq_getElem hk]; exact List.getElem_mem hk)
        omega
      · refine m_aload_n C dX8_remove_67 rfl 1 rfl ?_
        refine r_get C hR i8 18 (by decide) (by decide +kernel) rfl rfl dX8_remove_68 ?_
        exact m_iret C (Nat.le_of_ble_eq_true rfl) (Nat.le_of_ble_eq_true rfl) dX8_remove_71 (⟨od2, by rw [show k_remove cm ar (nI j) = 0 by simp [k_remove, h1, h_1, hj0], if_pos rfl]; exact ⟨by rw [s_remove, hjc, hmm, Nat.add_sub_cancel]; exact ⟨_, hR⟩, fun _ => by rw [hjc]⟩⟩)
    · have hq0 : q_node cm ar 0 = true := h_1 ▸ h1
      refine m_aload_n C dX8_remove_23 rfl 0 rfl ?_
      refine m_iconst (v := 2) C dX8_remove_24 (by decide) ?_
      refine m_callVi (As := [.int 2]) (st := []) C hR.1 rfl (c_X8_fail D A l hR 2) (cwV 1 C.1.2.2.2.2 gX8_remove_X8_fail rfl rfl rfl (by decide +kernel) ⟨Nat.le_of_ble_eq_true rfl, Nat.le_of_ble_eq_true rfl⟩) rfl rfl (Nat.le_of_ble_eq_true rfl) dX8_remove_25 ⟨Nat.le_of_ble_eq_true rfl, Nat.le_of_ble_eq_true rfl⟩ (fun r M h => ?_)
      obtain ⟨rfl, hR⟩ := h
      exact m_iret C (Nat.le_of_ble_eq_true rfl) (Nat.le_of_ble_eq_true rfl) dX8_remove_28 (⟨od, by rw [show k_remove cm ar (nI j) = 2 by simp [k_remove, h1, h_1, hq0], if_neg (by decide)]; exact ⟨⟨_, hR⟩, fun z => absurd z (by decide)⟩⟩)
  · have h1 := bI_z h1
    refine m_aload_n C dX8_remove_13 rfl 0 rfl ?_
    refine m_iconst (v := 1) C dX8_remove_14 (by decide) ?_
    refine m_callVi (As := [.int 1]) (st := []) C hR.1 rfl (c_X8_fail D A l hR 1) (cwV 1 C.1.2.2.2.2 gX8_remove_X8_fail rfl rfl rfl (by decide +kernel) ⟨Nat.le_of_ble_eq_true rfl, Nat.le_of_ble_eq_true rfl⟩) rfl rfl (Nat.le_of_ble_eq_true rfl) dX8_remove_15 ⟨Nat.le_of_ble_eq_true rfl, Nat.le_of_ble_eq_true rfl⟩ (fun r M h => ?_)
    obtain ⟨rfl, hR⟩ := h
    exact m_iret C (Nat.le_of_ble_eq_true rfl) (Nat.le_of_ble_eq_true rfl) dX8_remove_18 (⟨od, by rw [show k_remove cm ar v = 1 by simp [k_remove, h1], if_neg (by decide)]; exact ⟨⟨_, hR⟩, fun z => absurd z (by decide)⟩⟩)
set_option maxHeartbeats 4000000 in
set_option maxRecDepth 100000 in
theorem c_X8_move (D : mD) (A : Nat → Prop) (l : Launch) {G : Nat → Nat} {o : Nat} {F : Mm} {t g u : Int32} {cm : Nat} {ar : rA} {od : Nat → Int32} {M : Mm} (hR : rW D G o F t (nI cm) g u (upA ar 17 od) M) (hw : wf ar cm) (v b pl : Int32) : mMi D A l yX8_move wsX8_move ({ frames := 3, cells := 0, slots := 0, locals := 160 } : Room) [.ref o, .int v, .int b, .int pl] M (fun r M' => rW D G o F (k_move cm ar v b pl) (nI cm) g u (upA (if k_move cm ar v b pl = 0 then s_move ar v b pl else ar) 17 od) M' ∧ (k_move cm ar v b pl = 0 → r = nI (plc ar (jN v)))) 0 0 := by
  have hcm := hw.1
  refine m_start (cc := cX8_move) (maxL := 5) (ret := (some .int)) (by decide) rfl (Nat.le_of_ble_eq_true rfl) ?_
  intro p e s m args below meth c C
  have i8 : ∀ w ∈ wsX80, w ∈ wsX8_move := by decide +kernel
  refine m_sub (L' := [(0, .ref o), (1, .int v), (2, .int b), (3, .int pl)]) [0, 1, 2, 3] rfl ?_
  refine m_aload_n C dX8_move_0 rfl 0 rfl ?_
  refine m_iconst (v := 0) C dX8_move_1 (by decide) ?_
  refine r_putT C hR i8 (by decide +kernel) dX8_move_2 (fun M hR => ?_)
  refine m_aload_n C dX8_move_5 rfl 0 rfl ?_
  refine m_iload_n C dX8_move_6 rfl 1 rfl ?_
  refine m_callVFi (As := [.int v]) (st := []) C hR.1 rfl (c_X8_isNode D A l hR hw.1 v) (cwV 1 C.1.2.2.2.2 gX8_move_X8_isNode rfl rfl rfl (by decide +kernel) ⟨Nat.le_of_ble_eq_true rfl, Nat.le_of_ble_eq_true rfl⟩) rfl rfl (Nat.le_of_ble_eq_true rfl) dX8_move_7 ⟨Nat.le_of_ble_eq_true rfl, Nat.le_of_ble_eq_true rfl⟩ ?_
  refine m_if_eq (tgt := 21) C dX8_move_10 (by decide) (fun h1 => ?_) (fun h1 => ?_)
  · have h1 := bI_z h1
    refine m_aload_n C dX8_move_21 rfl 0 rfl ?_
    refine m_iconst (v := 1) C dX8_move_22 (by decide) ?_
    refine m_callVi (As := [.int 1]) (st := []) C hR.1 rfl (c_X8_fail D A l hR 1) (cwV 1 C.1.2.2.2.2 gX8_move_X8_fail rfl rfl rfl (by decide +kernel) ⟨Nat.le_of_ble_eq_true rfl, Nat.le_of_ble_eq_true rfl⟩) rfl rfl (Nat.le_of_ble_eq_true rfl) dX8_move_23 ⟨Nat.le_of_ble_eq_true rfl, Nat.le_of_ble_eq_true rfl⟩ (fun r M h => ?_)
    obtain ⟨rfl, hR⟩ := h
    exact m_iret C (Nat.le_of_ble_eq_true rfl) (Nat.le_of_ble_eq_true rfl) dX8_move_26 (by rw [show k_move cm ar v b pl = 1 by simp [k_move, h1], if_neg (by decide)]; exact ⟨hR, fun z => absurd z (by decide)⟩)
  · have h1 := bI_n h1
    obtain ⟨j, hj, hvj, hp⟩ := q_node_J hw.1 h1
    subst hvj
    have hjc : jN (nI j) = j := nI_clamp (by omega)
    refine m_aload_n C dX8_move_13 rfl 0 rfl ?_
    refine m_iload_n C dX8_move_14 rfl 2 rfl ?_
    refine m_callVFi (As := [.int b]) (st := []) C hR.1 rfl (c_X8_isNode D A l hR hw.1 b) (cwV 1 C.1.2.2.2.2 gX8_move_X8_isNode rfl rfl rfl (by decide +kernel) ⟨Nat.le_of_ble_eq_true rfl, Nat.le_of_ble_eq_true rfl⟩) rfl rfl (Nat.le_of_ble_eq_true rfl) dX8_move_15 ⟨Nat.le_of_ble_eq_true rfl, Nat.le_of_ble_eq_true rfl⟩ ?_
    refine m_if_ne (tgt := 27) C dX8_move_18 (by decide) (fun h2 => ?_) (fun h2 => ?_)
    · have h2 := bI_n h2
      obtain ⟨b9, hb9, hvb, hbp⟩ := q_node_J hw.1 h2
      subst hvb
      have hbc : jN (nI b9) = b9 := nI_clamp (by omega)
      obtain ⟨lb, hbh, hbC, hbl, hbm, hbn⟩ := wf_at hw hb9 hbp
      obtain ⟨mb, hmb, hmb39⟩ := wf_hmn hw b9 hb9 hbp
      refine m_iload_n C dX8_move_27 rfl 1 rfl ?_
      refine m_if_eq (tgt := 78) C dX8_move_28 (by decide) (fun h_1 => ?_) (fun h_1 => ?_)
      · have hq0 : q_node cm ar 0 = true := h_1 ▸ h1
        refine m_aload_n C dX8_move_78 rfl 0 rfl ?_
        refine m_iconst (v := 2) C dX8_move_79 (by decide) ?_
        refine m_callVi (As := [.int 2]) (st := []) C hR.1 rfl (c_X8_fail D A l hR 2) (cwV 1 C.1.2.2.2.2 gX8_move_X8_fail rfl rfl rfl (by decide +kernel) ⟨Nat.le_of_ble_eq_true rfl, Nat.le_of_ble_eq_true rfl⟩) rfl rfl (Nat.le_of_ble_eq_true rfl) dX8_move_80 ⟨Nat.le_of_ble_eq_true rfl, Nat.le_of_ble_eq_true rfl⟩ (fun r M h => ?_)
        obtain ⟨rfl, hR⟩ := h
        exact m_iret C (Nat.le_of_ble_eq_true rfl) (Nat.le_of_ble_eq_true rfl) dX8_move_83 (by rw [show k_move cm ar (nI j) (nI b9) pl = 2 by simp [k_move, h1, h2, hjc, hbc, hbh, h_1, hq0], if_neg (by decide)]; exact ⟨hR, fun z => absurd z (by decide)⟩)
      · have hJ0 : ¬ j = 0 := fun y => h_1 (by rw [y]; rfl)
        refine m_aload_n C dX8_move_31 rfl 0 rfl ?_
        refine m_iload_n C dX8_move_32 rfl 2 rfl ?_
        refine m_callVFi (As := [.int (nI b9)]) (st := []) C hR.1 rfl (c_X8_isGroup D A l hR (j := b9) (by omega)) (cwV 1 C.1.2.2.2.2 gX8_move_X8_isGroup rfl rfl rfl (by decide +kernel) ⟨Nat.le_of_ble_eq_true rfl, Nat.le_of_ble_eq_true rfl⟩) rfl rfl (Nat.le_of_ble_eq_true rfl) dX8_move_33 ⟨Nat.le_of_ble_eq_true rfl, Nat.le_of_ble_eq_true rfl⟩ ?_
        refine m_if_eq (tgt := 78) C dX8_move_36 (by decide) (fun h_2 => ?_) (fun h_2 => ?_)
        · have h_2 := bI_z h_2
          have h_2 := of_decide_eq_false h_2
          refine m_aload_n C dX8_move_78 rfl 0 rfl ?_
          refine m_iconst (v := 2) C dX8_move_79 (by decide) ?_
          refine m_callVi (As := [.int 2]) (st := []) C hR.1 rfl (c_X8_fail D A l hR 2) (cwV 1 C.1.2.2.2.2 gX8_move_X8_fail rfl rfl rfl (by decide +kernel) ⟨Nat.le_of_ble_eq_true rfl, Nat.le_of_ble_eq_true rfl⟩) rfl rfl (Nat.le_of_ble_eq_true rfl) dX8_move_80 ⟨Nat.le_of_ble_eq_true rfl, Nat.le_of_ble_eq_true rfl⟩ (fun r M h => ?_)
          obtain ⟨rfl, hR⟩ := h
          exact m_iret C (Nat.le_of_ble_eq_true rfl) (Nat.le_of_ble_eq_true rfl) dX8_move_83 (by rw [show k_move cm ar (nI j) (nI b9) pl = 2 by simp [k_move, h1, h2, hjc, hbc, hbh, h_1, hJ0, h_2], if_neg (by decide)]; exact ⟨hR, fun z => absurd z (by decide)⟩)
        · have h_2 := bI_n h_2
          have h_2 := of_decide_eq_true h_2
          refine m_aload_n C dX8_move_39 rfl 0 rfl ?_
          refine m_iload_n C dX8_move_40 rfl 2 rfl ?_
          refine m_iload_n C dX8_move_41 rfl 1 rfl ?_
          refine m_callVFi (As := [.int (nI b9), .int (nI j)]) (st := []) C hR.1 rfl (c_X8_isWithin D A l hR (l0 := b9 :: lb) hbC (b9 := j) (by omega)) (cwV 2 C.1.2.2.2.2 gX8_move_X8_isWithin rfl rfl rfl (by decide +kernel) ⟨Nat.le_of_ble_eq_true rfl, Nat.le_of_ble_eq_true rfl⟩) rfl rfl (Nat.le_of_ble_eq_true rfl) dX8_move_42 ⟨Nat.le_of_ble_eq_true rfl, Nat.le_of_ble_eq_true rfl⟩ ?_
          refine m_if_ne (tgt := 78) C dX8_move_45 (by decide) (fun h_3 => ?_) (fun h_3 => ?_)
          · have h_3 := bI_n h_3
            have h_3 := of_decide_eq_true h_3
            refine m_aload_n C dX8_move_78 rfl 0 rfl ?_
            refine m_iconst (v := 2) C dX8_move_79 (by decide) ?_
            refine m_callVi (As := [.int 2]) (st := []) C hR.1 rfl (c_X8_fail D A l hR 2) (cwV 1 C.1.2.2.2.2 gX8_move_X8_fail rfl rfl rfl (by decide +kernel) ⟨Nat.le_of_ble_eq_true rfl, Nat.le_of_ble_eq_true rfl⟩) rfl rfl (Nat.le_of_ble_eq_true rfl) dX8_move_80 ⟨Nat.le_of_ble_eq_true rfl, Nat.le_of_ble_eq_true rfl⟩ (fun r M h => ?_)
            obtain ⟨rfl, hR⟩ := h
            exact m_iret C (Nat.le_of_ble_eq_true rfl) (Nat.le_of_ble_eq_true rfl) dX8_move_83 (by rw [show k_move cm ar (nI j) (nI b9) pl = 2 by simp [k_move, h1, h2, hjc, hbc, hbh, h_1, hJ0, h_2, h_3], if_neg (by decide)]; exact ⟨hR, fun z => absurd z (by decide)⟩)
          · have h_3 := bI_z h_3
            have h_3 := of_decide_eq_false h_3
            refine m_iload_n C dX8_move_48 rfl 3 rfl ?_
            refine m_iconst (v := 0) C dX8_move_49 (by decide) ?_
            refine m_aload_n C dX8_move_50 rfl 0 rfl ?_
            refine r_get C hR i8 5 (by decide) (by decide +kernel) rfl rfl dX8_move_51 ?_
            refine m_iload_n C dX8_move_54 rfl 2 rfl ?_
            refine r_iald C hR 5 (by decide) rfl b9 (show b9 < 40 by omega) (rfl) dX8_move_55 ?_
            refine m_i (y := ar 5 b9) (rfl) ?_
            refine m_aload_n C dX8_move_56 rfl 0 rfl ?_
            refine r_get C hR i8 4 (by decide) (by decide +kernel) rfl rfl dX8_move_57 ?_
            refine m_iload_n C dX8_move_60 rfl 1 rfl ?_
            refine r_iald C hR 4 (by decide) rfl j (show j < 40 by omega) (rfl) dX8_move_61 ?_
            refine m_i (y := ar 4 j) (rfl) ?_
            refine m_iload_n C dX8_move_62 rfl 2 rfl ?_
            refine m_icmp_ne (tgt := 70) C dX8_move_63 (by decide) (fun h_4 => ?_) (fun h_4 => ?_)
            · refine m_iconst (v := 0) C dX8_move_70 (by decide) ?_
              refine m_isub C dX8_move_71 ?_
              refine m_callSFi (As := [.int pl, .int 0, .int ((ar 5 b9) - 0)]) (st := []) C (c_X8_isIn D A l M pl 0 ((ar 5 b9) - 0)) (va_cwS 3 C.1.2.2.2.2 gX8_move_X8_isIn rfl rfl rfl (by decide +kernel) ⟨Nat.le_of_ble_eq_true rfl, Nat.le_of_ble_eq_true rfl⟩) rfl rfl (Nat.le_of_ble_eq_true rfl) dX8_move_72 ⟨Nat.le_of_ble_eq_true rfl, Nat.le_of_ble_eq_true rfl⟩ ?_
              refine m_if_ne (tgt := 84) C dX8_move_75 (by decide) (fun h_5 => ?_) (fun h_5 => ?_)
              · have h_5 := bI_n h_5
                have hin := h_5
                have hin0 := h_5
                rw [Int32.sub_zero] at hin0
                have hj0 : ¬ j = 0 := hJ0
                obtain ⟨q8, k8, m9, hT1, hT0, hTq, hTqp, hTq3, hT00, hT2, hT3, hT4, hT5, hT6, hTc⟩ := wf_par hw hj hp hj0
                subst hT0
                subst hT00
                have hmm : mny ar (par9 ar j) = m9 + 1 := by rw [mny, hT4, nI_clamp (by omega)]
                obtain ⟨m1, hm1o⟩ : ∃ m1 : Nat, (if par9 ar j = b9 then mny ar b9 - 1 else mny ar b9) = m1 := ⟨_, rfl⟩
                have hm1e := hm1o.symm
                have hpb : ¬ par9 ar j = b9 := fun y => h_4 (by rw [hT1, y])
                rw [if_neg hpb] at hm1e
                have hmm1 : m1 = mb := by rw [hm1e, mny, hmb, nI_clamp (by omega)]
                have hmb1 : q_out ar (par9 ar j) (plc ar j) m9 5 b9 = nI m1 := by rw [hmm1, ← hmb, q_out, upA_n (by decide), upA_s, upd, if_neg (fun y => hpb y.symm)]
                rw [hmb, show nI mb - 0 = nI mb by simp] at hin
                obtain ⟨p9, hp1, hpp⟩ := q_in_N (a := mb) (by omega) hin
                subst hpp
                have hm1 : m1 ≤ 39 := by omega
                have hp1 : p9 ≤ m1 := by omega
                have hpc : jN (nI p9) = p9 := nI_clamp (by omega)
                refine m_aload_n C dX8_move_84 rfl 0 rfl ?_
                refine m_iload_n C dX8_move_85 rfl 1 rfl ?_
                refine m_callVFi (As := [.int (nI j)]) (st := []) C hR.1 rfl (c_X8_placeOf D A l hR (j := j) (q := par9 ar j) (k9 := plc ar j) (by omega) (wf_place hw hj hp)) (cwV 1 C.1.2.2.2.2 gX8_move_X8_placeOf rfl rfl rfl (by decide +kernel) ⟨Nat.le_of_ble_eq_true rfl, Nat.le_of_ble_eq_true rfl⟩) rfl rfl (Nat.le_of_ble_eq_true rfl) dX8_move_86 ⟨Nat.le_of_ble_eq_true rfl, Nat.le_of_ble_eq_true rfl⟩ ?_
                refine m_istore (L' := [(4, .int (nI (if j = 0 then 0 else plc ar j))), (0, .ref o), (1, .int (nI j)), (2, .int (nI b9)), (3, .int (nI p9))]) C dX8_move_89 (by decide) rfl ?_
                refine m_aload_n C dX8_move_91 rfl 1 rfl ?_
                refine m_iload_n C dX8_move_92 rfl 2 rfl ?_
                refine m_callVv (As := [.int (nI j)]) (st := []) C hR.1 rfl (c_X8_takeOut D A l hR (j := j) (q := par9 ar j) (k9 := plc ar j) (m9 := m9) (by omega) hj0 (by omega) hT1 (by omega) hT2 hT3 hT4 hT5 hT6) (cwV 1 C.1.2.2.2.2 gX8_move_X8_takeOut rfl rfl rfl (by decide +kernel) ⟨Nat.le_of_ble_eq_true rfl, Nat.le_of_ble_eq_true rfl⟩) rfl rfl (Nat.le_of_ble_eq_true rfl) dX8_move_93 ⟨Nat.le_of_ble_eq_true rfl, Nat.le_of_ble_eq_true rfl⟩ (fun M hR => ?_)
                refine m_aload_n C dX8_move_96 rfl 1 rfl ?_
                refine m_iload_n C dX8_move_97 rfl 2 rfl ?_
                refine m_iload_n C dX8_move_98 rfl 3 rfl ?_
                refine m_iload_n C dX8_move_99 rfl 4 rfl ?_
                refine m_callVv (As := [.int (nI j), .int (nI b9), .int (nI p9)]) (st := []) C hR.1 rfl (c_X8_insert D A l hR (j := j) (q := b9) (pl := p9) (m9 := m1) (by omega) (by omega) hmb1 hm1 hp1) (cwV 3 C.1.2.2.2.2 gX8_move_X8_insert rfl rfl rfl (by decide +kernel) ⟨Nat.le_of_ble_eq_true rfl, Nat.le_of_ble_eq_true rfl⟩) rfl rfl (Nat.le_of_ble_eq_true rfl) dX8_move_100 ⟨Nat.le_of_ble_eq_true rfl, Nat.le_of_ble_eq_true rfl⟩ (fun M hR => ?_)
                refine m_iload C dX8_move_103 0 rfl ?_
                exact m_iret C (Nat.le_of_ble_eq_true rfl) (Nat.le_of_ble_eq_true rfl) dX8_move_105 (by rw [show k_move cm ar (nI j) (nI b9) (nI p9) = 0 by simp [k_move, h1, h2, hjc, hbc, hbh, h_1, hJ0, h_2, h_3, h_4, h_5, hin0], if_pos rfl]; exact ⟨by rw [s_move, hjc, hbc, hpc, hmm, Nat.add_sub_cancel, hm1o]; exact hR, fun _ => by rw [if_neg hj0, hjc]⟩)
              · have h_5 := bI_z h_5
                have hin0 := h_5
                rw [Int32.sub_zero] at hin0
                refine m_aload_n C dX8_move_78 rfl 0 rfl ?_
                refine m_iconst (v := 2) C dX8_move_79 (by decide) ?_
                refine m_callVi (As := [.int 2]) (st := []) C hR.1 rfl (c_X8_fail D A l hR 2) (cwV 1 C.1.2.2.2.2 gX8_move_X8_fail rfl rfl rfl (by decide +kernel) ⟨Nat.le_of_ble_eq_true rfl, Nat.le_of_ble_eq_true rfl⟩) rfl rfl (Nat.le_of_ble_eq_true rfl) dX8_move_80 ⟨Nat.le_of_ble_eq_true rfl, Nat.le_of_ble_eq_true rfl⟩ (fun r M h => ?_)
                obtain ⟨rfl, hR⟩ := h
                exact m_iret C (Nat.le_of_ble_eq_true rfl) (Nat.le_of_ble_eq_true rfl) dX8_move_83 (by rw [show k_move cm ar (nI j) (nI b9) pl = 2 by simp [k_move, h1, h2, hjc, hbc, hbh, h_1, hJ0, h_2, h_3, h_4, h_5, hin0], if_neg (by decide)]; exact ⟨hR, fun z => absurd z (by decide)⟩)
            · refine m_iconst (v := 1) C dX8_move_66 (by decide) ?_
              refine m_goto (tgt := 71) C dX8_move_67 (by decide) ?_
              refine m_isub C dX8_move_71 ?_
              refine m_callSFi (As := [.int pl, .int 0, .int ((ar 5 b9) - 1)]) (st := []) C (c_X8_isIn D A l M pl 0 ((ar 5 b9) - 1)) (va_cwS 3 C.1.2.2.2.2 gX8_move_X8_isIn rfl rfl rfl (by decide +kernel) ⟨Nat.le_of_ble_eq_true rfl, Nat.le_of_ble_eq_true rfl⟩) rfl rfl (Nat.le_of_ble_eq_true rfl) dX8_move_72 ⟨Nat.le_of_ble_eq_true rfl, Nat.le_of_ble_eq_true rfl⟩ ?_
              refine m_if_ne (tgt := 84) C dX8_move_75 (by decide) (fun h_6 => ?_) (fun h_6 => ?_)
              · have h_6 := bI_n h_6
                have hin := h_6
                have hin0 := h_6
                have hj0 : ¬ j = 0 := hJ0
                obtain ⟨q8, k8, m9, hT1, hT0, hTq, hTqp, hTq3, hT00, hT2, hT3, hT4, hT5, hT6, hTc⟩ := wf_par hw hj hp hj0
                subst hT0
                subst hT00
                have hmm : mny ar (par9 ar j) = m9 + 1 := by rw [mny, hT4, nI_clamp (by omega)]
                obtain ⟨m1, hm1o⟩ : ∃ m1 : Nat, (if par9 ar j = b9 then mny ar b9 - 1 else mny ar b9) = m1 := ⟨_, rfl⟩
                have hm1e := hm1o.symm
                have hpb : par9 ar j = b9 := by rw [par9, h_4, nI_clamp (by omega)]
                rw [if_pos hpb] at hm1e
                have hmb9 : mb = m9 + 1 := by rw [← hpb, hT4] at hmb; exact ((nI_eq (by omega) (by omega)).mp hmb).symm
                have hmm1 : m1 = m9 := by rw [hm1e, mny, hmb, nI_clamp (by omega)]; omega
                have hmb1 : q_out ar (par9 ar j) (plc ar j) m9 5 b9 = nI m1 := by rw [hmm1, ← hpb]; simp [q_out, upA, upd]
                rw [hmb, hmb9, nI_pred] at hin
                obtain ⟨p9, hp1, hpp⟩ := q_in_N (a := m9) (by omega) hin
                subst hpp
                have hm1 : m1 ≤ 39 := by omega
                have hp1 : p9 ≤ m1 := by omega
                have hpc : jN (nI p9) = p9 := nI_clamp (by omega)
                refine m_aload_n C dX8_move_84 rfl 0 rfl ?_
                refine m_iload_n C dX8_move_85 rfl 1 rfl ?_
                refine m_callVFi (As := [.int (nI j)]) (st := []) C hR.1 rfl (c_X8_placeOf D A l hR (j := j) (q := par9 ar j) (k9 := plc ar j) (by omega) (wf_place hw hj hp)) (cwV 1 C.1.2.2.2.2 gX8_move_X8_placeOf rfl rfl rfl (by decide +kernel) ⟨Nat.le_of_ble_eq_true rfl, Nat.le_of_ble_eq_true rfl⟩) rfl rfl (Nat.le_of_ble_eq_true rfl) dX8_move_86 ⟨Nat.le_of_ble_eq_true rfl, Nat.le_of_ble_eq_true rfl⟩ ?_
                refine m_istore (L' := [(4, .int (nI (if j = 0 then 0 else plc ar j))), (0, .ref o), (1, .int (nI j)), (2, .int (nI b9)), (3, .int (nI p9))]) C dX8_move_89 (by decide) rfl ?_
                refine m_aload_n C dX8_move_91 rfl 1 rfl ?_
                refine m_iload_n C dX8_move_92 rfl 2 rfl ?_
                refine m_callVv (As := [.int (nI j)]) (st := []) C hR.1 rfl (c_X8_takeOut D A l hR (j := j) (q := par9 ar j) (k9 := plc ar j) (m9 := m9) (by omega) hj0 (by omega) hT1 (by omega) hT2 hT3 hT4 hT5 hT6) (cwV 1 C.1.2.2.2.2 gX8_move_X8_takeOut rfl rfl rfl (by decide +kernel) ⟨Nat.le_of_ble_eq_true rfl, Nat.le_of_ble_eq_true rfl⟩) rfl rfl (Nat.le_of_ble_eq_true rfl) dX8_move_93 ⟨Nat.le_of_ble_eq_true rfl, Nat.le_of_ble_eq_true rfl⟩ (fun M hR => ?_)
                refine m_aload_n C dX8_move_96 rfl 1 rfl ?_
                refine m_iload_n C dX8_move_97 rfl 2 rfl ?_
                refine m_iload_n C dX8_move_98 rfl 3 rfl ?_
                refine m_iload_n C dX8_move_99 rfl 4 rfl ?_
                refine m_callVv (As := [.int (nI j), .int (nI b9), .int (nI p9)]) (st := []) C hR.1 rfl (c_X8_insert D A l hR (j := j) (q := b9) (pl := p9) (m9 := m1) (by omega) (by omega) hmb1 hm1 hp1) (cwV 3 C.1.2.2.2.2 gX8_move_X8_insert rfl rfl rfl (by decide +kernel) ⟨Nat.le_of_ble_eq_true rfl, Nat.le_of_ble_eq_true rfl⟩) rfl rfl (Nat.le_of_ble_eq_true rfl) dX8_move_100 ⟨Nat.le_of_ble_eq_true rfl, Nat.le_of_ble_eq_true rfl⟩ (fun M hR => ?_)
                refine m_iload C dX8_move_103 0 rfl ?_
                exact m_iret C (Nat.le_of_ble_eq_true rfl) (Nat.le_of_ble_eq_true rfl) dX8_move_105 (by rw [show k_move cm ar (nI j) (nI b9) (nI p9) = 0 by simp [k_move, h1, h2, hjc, hbc, hbh, h_1, hJ0, h_2, h_3, h_4, h_6, hin0], if_pos rfl]; exact ⟨by rw [s_move, hjc, hbc, hpc, hmm, Nat.add_sub_cancel, hm1o]; exact hR, fun _ => by rw [if_neg hj0, hjc]⟩)
              · have h_6 := bI_z h_6
                have hin0 := h_6
                refine m_aload_n C dX8_move_78 rfl 0 rfl ?_
                refine m_iconst (v := 2) C dX8_move_79 (by decide) ?_
                refine m_callVi (As := [.int 2]) (st := []) C hR.1 rfl (c_X8_fail D A l hR 2) (cwV 1 C.1.2.2.2.2 gX8_move_X8_fail rfl rfl rfl (by decide +kernel) ⟨Nat.le_of_ble_eq_true rfl, Nat.le_of_ble_eq_true rfl⟩) rfl rfl (Nat.le_of_ble_eq_true rfl) dX8_move_80 ⟨Nat.le_of_ble_eq_true rfl, Nat.le_of_ble_eq_true rfl⟩ (fun r M h => ?_)
                obtain ⟨rfl, hR⟩ := h
                exact m_iret C (Nat.le_of_ble_eq_true rfl) (Nat.le_of_ble_eq_true rfl) dX8_move_83 (by rw [show k_move cm ar (nI j) (nI b9) pl = 2 by simp [k_move, h1, h2, hjc, hbc, hbh, h_1, hJ0, h_2, h_3, h_4, h_6, hin0], if_neg (by decide)]; exact ⟨hR, fun z => absurd z (by decide)⟩)
    · have h2 := bI_z h2
      refine m_aload_n C dX8_move_21 rfl 0 rfl ?_
      refine m_iconst (v := 1) C dX8_move_22 (by decide) ?_
      refine m_callVi (As := [.int 1]) (st := []) C hR.1 rfl (c_X8_fail D A l hR 1) (cwV 1 C.1.2.2.2.2 gX8_move_X8_fail rfl rfl rfl (by decide +kernel) ⟨Nat.le_of_ble_eq_true rfl, Nat.le_of_ble_eq_true rfl⟩) rfl rfl (Nat.le_of_ble_eq_true rfl) dX8_move_23 ⟨Nat.le_of_ble_eq_true rfl, Nat.le_of_ble_eq_true rfl⟩ (fun r M h => ?_)
      obtain ⟨rfl, hR⟩ := h
      exact m_iret C (Nat.le_of_ble_eq_true rfl) (Nat.le_of_ble_eq_true rfl) dX8_move_26 (by rw [show k_move cm ar (nI j) b pl = 1 by simp [k_move, h1, h2], if_neg (by decide)]; exact ⟨hR, fun z => absurd z (by decide)⟩)
