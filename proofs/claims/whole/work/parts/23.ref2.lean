/-! ===== the reference: nodes come and go ===== -/
set_option maxHeartbeats 4000000 in
set_option maxRecDepth 100000 in
theorem c_X8_takeOut (D : mD) (A : Nat → Prop) (l : Launch) {G : Nat → Nat} {o : Nat} {F : Mm} {t g u : Int32} {cm : Nat} {ar : rA} {od : Nat → Int32} {M : Mm} (hR : rW D G o F t (nI cm) g u (upA ar 17 od) M) {j q k9 m9 : Nat} (hj : j < 40) (hj0 : ¬ j = 0) (hq40 : q < 40) (hq : ar 4 j = nI q) (hk40 : k9 < 40) (hk9 : ar 6 (40 * q + k9) = nI j) (hlo : ∀ i, i < k9 → ¬ ar 6 (40 * q + i) = nI j) (hm : ar 5 q = nI (m9 + 1)) (hm9 : m9 ≤ 38) (hkm : k9 ≤ m9) : mMv D A l yX8_takeOut wsX8_takeOut ({ frames := 1, cells := 0, slots := 0, locals := 60 } : Room) [.ref o, .int (nI j)] M (fun M' => rW D G o F t (nI cm) g u (upA (q_out ar q k9 m9) 17 od) M') 0 0 := by
  refine m_start (cc := cX8_takeOut) (maxL := 4) (ret := none) (by decide) rfl (Nat.le_of_ble_eq_true rfl) ?_
  intro p e s m args below meth c C
  have i8 : ∀ w ∈ wsX80, w ∈ wsX8_takeOut := by decide +kernel
  refine m_sub (L' := [(0, .ref o), (1, .int (nI j))]) [0, 1] rfl ?_
  refine m_aload_n C dX8_takeOut_0 rfl 0 rfl ?_
  refine r_get C hR i8 4 (by decide) (by decide +kernel) rfl rfl dX8_takeOut_1 ?_
  refine m_iload_n C dX8_takeOut_4 rfl 1 rfl ?_
  refine r_iald C hR 4 (by decide) rfl j (show j < 40 by omega) (rfl) dX8_takeOut_5 ?_
  refine m_i (y := ar 4 j) (rfl) ?_
  refine m_i (y := nI q) (hq) ?_
  refine m_istore_n (L' := [(2, .int (nI q)), (0, .ref o), (1, .int (nI j))]) C dX8_takeOut_6 rfl (by decide) rfl ?_
  refine m_bipush (v := 40) C dX8_takeOut_7 (by decide) ?_
  refine m_iload_n C dX8_takeOut_9 rfl 0 rfl ?_
  refine m_imul C dX8_takeOut_10 ?_
  refine m_aload_n C dX8_takeOut_11 rfl 1 rfl ?_
  refine m_iload_n C dX8_takeOut_12 rfl 2 rfl ?_
  refine m_callVFi (As := [.int (nI j)]) (st := [.int (40 * (nI q))]) C hR.1 rfl (c_X8_placeOf D A l hR (j := j) (q := q) (k9 := k9) (by omega) (fun _ => ⟨hq40, hq, hk40, hk9, hlo⟩)) (cwV 1 C.1.2.2.2.2 gX8_takeOut_X8_placeOf rfl rfl rfl (by decide +kernel) ⟨Nat.le_of_ble_eq_true rfl, Nat.le_of_ble_eq_true rfl⟩) rfl rfl (Nat.le_of_ble_eq_true rfl) dX8_takeOut_13 ⟨Nat.le_of_ble_eq_true rfl, Nat.le_of_ble_eq_true rfl⟩ ?_
  refine m_i (y := nI k9) (by rw [if_neg hj0]) ?_
  refine m_iadd C dX8_takeOut_16 ?_
  obtain ⟨x1, ex1⟩ : ∃ z : Int32, z = nI (40 * q + k9) := ⟨_, rfl⟩
  refine m_i (y := x1) (by rw [ex1, show (40 : Int32) = nI 40 from rfl, pk_mul, nI_add]) ?_
  refine m_istore_n (L' := [(3, .int x1), (2, .int (nI q)), (0, .ref o), (1, .int (nI j))]) C dX8_takeOut_17 rfl (by decide) rfl ?_
  refine m_aload_n C dX8_takeOut_18 rfl 2 rfl ?_
  refine r_get C hR i8 5 (by decide) (by decide +kernel) rfl rfl dX8_takeOut_19 ?_
  refine m_iload_n C dX8_takeOut_22 rfl 1 rfl ?_
  refine m_dup2 C dX8_takeOut_23 rfl rfl ?_
  refine r_iald C hR 5 (by decide) rfl q (show q < 40 by omega) (rfl) dX8_takeOut_24 ?_
  refine m_i (y := ar 5 q) (rfl) ?_
  refine m_i (y := nI (m9 + 1)) (hm) ?_
  refine m_iconst (v := 1) C dX8_takeOut_25 (by decide) ?_
  refine m_isub C dX8_takeOut_26 ?_
  refine m_i (y := nI m9) (nI_pred m9) ?_
  refine r_iast C hR 5 (by decide) rfl q (show q < 40 by omega) (rfl) dX8_takeOut_27 (fun M hR => ?_)
  have hR := r_c17 (f := 5) (v := upd (ar 5) q (nI m9)) (by decide) hR
  refine m_aload_n C dX8_takeOut_28 rfl 2 rfl ?_
  refine r_get C hR i8 6 (by decide) (by decide +kernel) rfl rfl dX8_takeOut_29 ?_
  refine m_iload_n C dX8_takeOut_32 rfl 0 rfl ?_
  refine m_iconst (v := 1) C dX8_takeOut_33 (by decide) ?_
  refine m_iadd C dX8_takeOut_34 ?_
  refine m_aload_n C dX8_takeOut_35 rfl 2 rfl ?_
  refine r_get C hR i8 6 (by decide) (by decide +kernel) rfl rfl dX8_takeOut_36 ?_
  refine m_iload_n C dX8_takeOut_39 rfl 0 rfl ?_
  refine m_bipush (v := 40) C dX8_takeOut_40 (by decide) ?_
  refine m_iload_n C dX8_takeOut_42 rfl 1 rfl ?_
  refine m_imul C dX8_takeOut_43 ?_
  refine m_aload_n C dX8_takeOut_44 rfl 2 rfl ?_
  refine r_get C hR i8 5 (by decide) (by decide +kernel) rfl rfl dX8_takeOut_45 ?_
  refine m_iload_n C dX8_takeOut_48 rfl 1 rfl ?_
  refine r_iald C hR 5 (by decide) rfl q (show q < 40 by omega) (rfl) dX8_takeOut_49 ?_
  refine m_i (y := (upd (ar 5) q (nI m9)) q) (rfl) ?_
  refine m_i (y := nI m9) (by simp [upd]) ?_
  refine m_iadd C dX8_takeOut_50 ?_
  refine m_iload_n C dX8_takeOut_51 rfl 0 rfl ?_
  refine m_isub C dX8_takeOut_52 ?_
  refine r_copyS C hR (by decide +kernel) (by decide +kernel) (by decide +kernel) (by decide +kernel) 6 (by decide) rfl (40 * q + k9 + 1) (40 * q + k9) (m9 - k9) (by rw [ex1, nI_1]) (ex1) (by rw [ex1, show (40 : Int32) = nI 40 from rfl, pk_mul, nI_add, pk_sub (by omega)]; congr 1; omega) (show _ ≤ 1600 by omega) (show _ ≤ 1600 by omega) (by decide) (by decide) dX8_takeOut_53 (fun M hR => ?_)
  have hR := r_c17 (f := 6) (v := va_cpy (ar 6) (ar 6) (40 * q + k9 + 1) (40 * q + k9) (m9 - k9)) (by decide) hR
  exact m_vret C (Nat.le_of_ble_eq_true rfl) (Nat.le_of_ble_eq_true rfl) dX8_takeOut_56 (hR)
set_option maxHeartbeats 4000000 in
set_option maxRecDepth 100000 in
theorem c_X8_add (D : mD) (A : Nat → Prop) (l : Launch) {G : Nat → Nat} {o : Nat} {F : Mm} {t g u : Int32} {cm : Nat} {ar : rA} {od : Nat → Int32} {M : Mm} (hR : rW D G o F t (nI cm) g u (upA ar 17 od) M) (hcm : 1 ≤ cm ∧ cm ≤ 40) (hmn : ∀ j, j < cm → ¬ ar 2 j = 0 → ∃ m9 : Nat, ar 5 j = nI m9 ∧ m9 ≤ 39) {v so : Int32} {ok : Bool} {qS w9 : Nat} {sh : Nat → Int32} (hF : F qS = some (.inl (D.2.1 0, w9, .inl sh))) (hw : w9 ≤ 6) : mMi D A l yX8_add wsX8_add ({ frames := 2, cells := 0, slots := 0, locals := 120 } : Room) [.ref o, .int v, .int so, .int (bI ok), .ref qS] M (fun r M' => (¬ q_addk cm ar v so ok = 0 → r = 0 ∧ rW D G o F (q_addk cm ar v so ok) (nI cm) g u (upA ar 17 od) M') ∧ (q_addk cm ar v so ok = 0 → r = nI cm ∧ rW D G o F 0 (nI (cm + 1)) g u (upA (q_addS cm ar v so sh w9) 17 od) M')) 0 0 := by
  refine m_start (cc := cX8_add) (maxL := 6) (ret := (some .int)) (by decide) rfl (Nat.le_of_ble_eq_true rfl) ?_
  intro p e s m args below meth c C
  have i8 : ∀ w ∈ wsX80, w ∈ wsX8_add := by decide +kernel
  refine m_sub (L' := [(0, .ref o), (1, .int v), (2, .int so), (3, .int (bI ok)), (4, .ref qS)]) [0, 1, 2, 3, 4] rfl ?_
  refine m_aload_n C dX8_add_0 rfl 0 rfl ?_
  refine m_iconst (v := 0) C dX8_add_1 (by decide) ?_
  refine r_putT C hR i8 (by decide +kernel) dX8_add_2 (fun M hR => ?_)
  refine m_aload_n C dX8_add_5 rfl 0 rfl ?_
  refine m_iload_n C dX8_add_6 rfl 1 rfl ?_
  refine m_callVFi (As := [.int v]) (st := []) C hR.1 rfl (c_X8_isNode D A l hR hcm v) (cwV 1 C.1.2.2.2.2 gX8_add_X8_isNode rfl rfl rfl (by decide +kernel) ⟨Nat.le_of_ble_eq_true rfl, Nat.le_of_ble_eq_true rfl⟩) rfl rfl (Nat.le_of_ble_eq_true rfl) dX8_add_7 ⟨Nat.le_of_ble_eq_true rfl, Nat.le_of_ble_eq_true rfl⟩ ?_
  refine m_if_ne (tgt := 19) C dX8_add_10 (by decide) (fun h1 => ?_) (fun h1 => ?_)
  · have h1 := bI_n h1
    obtain ⟨j, hj, rfl, hp⟩ := q_node_J hcm h1
    obtain ⟨m9, hm, hm9⟩ := hmn j hj hp
    have hj31 : j < 2 ^ 31 := by omega
    refine m_iload_n C dX8_add_19 rfl 3 rfl ?_
    refine m_if_ne (tgt := 29) C dX8_add_20 (by decide) (fun h_1 => ?_) (fun h_1 => ?_)
    · have h_1 := bI_n h_1
      refine m_aload_n C dX8_add_29 rfl 0 rfl ?_
      refine m_iload_n C dX8_add_30 rfl 1 rfl ?_
      refine m_callVFi (As := [.int (nI j)]) (st := []) C hR.1 rfl (c_X8_isGroup D A l hR (j := j) (by omega)) (cwV 1 C.1.2.2.2.2 gX8_add_X8_isGroup rfl rfl rfl (by decide +kernel) ⟨Nat.le_of_ble_eq_true rfl, Nat.le_of_ble_eq_true rfl⟩) rfl rfl (Nat.le_of_ble_eq_true rfl) dX8_add_31 ⟨Nat.le_of_ble_eq_true rfl, Nat.le_of_ble_eq_true rfl⟩ ?_
      refine m_if_eq (tgt := 46) C dX8_add_34 (by decide) (fun h_2 => ?_) (fun h_2 => ?_)
      · have h_2 := bI_z h_2
        have h_2 := of_decide_eq_false h_2
        refine m_aload_n C dX8_add_46 rfl 0 rfl ?_
        refine m_iload_n C dX8_add_47 rfl 2 rfl ?_
        refine m_if_ne (tgt := 55) C dX8_add_48 (by decide) (fun h_3 => ?_) (fun h_3 => ?_)
        · refine m_iconst (v := 3) C dX8_add_55 (by decide) ?_
          refine m_callVi (As := [.int 3]) (st := []) C hR.1 rfl (c_X8_fail D A l hR 3) (cwV 1 C.1.2.2.2.2 gX8_add_X8_fail rfl rfl rfl (by decide +kernel) ⟨Nat.le_of_ble_eq_true rfl, Nat.le_of_ble_eq_true rfl⟩) rfl rfl (Nat.le_of_ble_eq_true rfl) dX8_add_56 ⟨Nat.le_of_ble_eq_true rfl, Nat.le_of_ble_eq_true rfl⟩ (fun r M h => ?_)
          obtain ⟨rfl, hR⟩ := h
          exact m_iret C (Nat.le_of_ble_eq_true rfl) (Nat.le_of_ble_eq_true rfl) dX8_add_59 (⟨fun _ => ⟨rfl, by rw [show q_addk cm ar (nI j) so ok = 3 by simp [q_addk, h1, nI_clamp hj31, h_1, h_2, h_3]]; exact hR⟩, fun z => absurd (show q_addk cm ar (nI j) so ok = 3 by simp [q_addk, h1, nI_clamp hj31, h_1, h_2, h_3]) (by rw [z]; decide)⟩)
        · refine m_iconst (v := 2) C dX8_add_51 (by decide) ?_
          refine m_goto (tgt := 56) C dX8_add_52 (by decide) ?_
          refine m_callVi (As := [.int 2]) (st := []) C hR.1 rfl (c_X8_fail D A l hR 2) (cwV 1 C.1.2.2.2.2 gX8_add_X8_fail rfl rfl rfl (by decide +kernel) ⟨Nat.le_of_ble_eq_true rfl, Nat.le_of_ble_eq_true rfl⟩) rfl rfl (Nat.le_of_ble_eq_true rfl) dX8_add_56 ⟨Nat.le_of_ble_eq_true rfl, Nat.le_of_ble_eq_true rfl⟩ (fun r M h => ?_)
          obtain ⟨rfl, hR⟩ := h
          exact m_iret C (Nat.le_of_ble_eq_true rfl) (Nat.le_of_ble_eq_true rfl) dX8_add_59 (⟨fun _ => ⟨rfl, by rw [show q_addk cm ar (nI j) so ok = 2 by simp [q_addk, h1, nI_clamp hj31, h_1, h_2, h_3]]; exact hR⟩, fun z => absurd (show q_addk cm ar (nI j) so ok = 2 by simp [q_addk, h1, nI_clamp hj31, h_1, h_2, h_3]) (by rw [z]; decide)⟩)
      · have h_2 := bI_n h_2
        have h_2 := of_decide_eq_true h_2
        refine m_aload_n C dX8_add_37 rfl 0 rfl ?_
        refine r_get C hR i8 1 (by decide) (by decide +kernel) rfl rfl dX8_add_38 ?_
        refine m_bipush (v := 40) C dX8_add_41 (by decide) ?_
        refine m_icmp_ne (tgt := 60) C dX8_add_43 (by decide) (fun h_4 => ?_) (fun h_4 => ?_)
        · have hcm40 : cm < 40 := by
            rcases Nat.lt_or_ge cm 40 with z | z
            · exact z
            · exfalso
              have : cm = 40 := by omega
              subst this
              exact h_4 rfl
          refine m_aload_n C dX8_add_60 rfl 0 rfl ?_
          refine r_get C hR i8 1 (by decide) (by decide +kernel) rfl rfl dX8_add_61 ?_
          refine m_istore (L' := [(5, .int ((nI cm))), (0, .ref o), (1, .int (nI j)), (2, .int so), (3, .int (bI ok)), (4, .ref qS)]) C dX8_add_64 (by decide) rfl ?_
          refine m_aload_n C dX8_add_66 rfl 1 rfl ?_
          refine m_dup C dX8_add_67 rfl ?_
          refine r_get C hR i8 1 (by decide) (by decide +kernel) rfl rfl dX8_add_68 ?_
          refine m_iconst (v := 1) C dX8_add_71 (by decide) ?_
          refine m_iadd C dX8_add_72 ?_
          refine m_i (y := nI (cm + 1)) (nI_1 cm) ?_
          refine r_putC C hR i8 (by decide +kernel) dX8_add_73 (fun M hR => ?_)
          refine m_aload_n C dX8_add_76 rfl 1 rfl ?_
          refine r_get C hR i8 2 (by decide) (by decide +kernel) rfl rfl dX8_add_77 ?_
          refine m_iload C dX8_add_80 0 rfl ?_
          refine m_iconst (v := 1) C dX8_add_82 (by decide) ?_
          refine r_zast C hR 2 (by decide) rfl cm (show cm < 40 by omega) (rfl) (Or.inr rfl) dX8_add_83 (fun M hR => ?_)
          have hR := r_c17 (f := 2) (v := upd (ar 2) cm 1) (by decide) hR
          refine m_aload_n C dX8_add_84 rfl 1 rfl ?_
          refine r_get C hR i8 3 (by decide) (by decide +kernel) rfl rfl dX8_add_85 ?_
          refine m_iload C dX8_add_88 0 rfl ?_
          refine m_iload_n C dX8_add_90 rfl 3 rfl ?_
          refine r_iast C hR 3 (by decide) rfl cm (show cm < 40 by omega) (rfl) dX8_add_91 (fun M hR => ?_)
          have hR := r_c17 (f := 3) (v := upd (ar 3) cm so) (by decide) hR
          refine m_aload C dX8_add_92 5 rfl ?_
          refine m_iconst (v := 0) C dX8_add_94 (by decide) ?_
          refine m_aload_n C dX8_add_95 rfl 1 rfl ?_
          refine r_get C hR i8 7 (by decide) (by decide +kernel) rfl rfl dX8_add_96 ?_
          refine m_bipush (v := 6) C dX8_add_99 (by decide) ?_
          refine m_iload C dX8_add_101 0 rfl ?_
          refine m_imul C dX8_add_103 ?_
          refine m_aload C dX8_add_104 5 rfl ?_
          refine m_alen C (hR.2.2.2 _ _ hF).1 0 rfl (v := nI w9) rfl dX8_add_106 ?_
          refine r_copyF C hR (by decide +kernel) (by decide +kernel) (by decide +kernel) (by decide +kernel) hF (by omega) 7 (by decide) rfl 0 (6 * cm) w9 rfl (by rw [show (6 : Int32) = nI 6 from rfl, pk_mul]) rfl (by omega) (show _ ≤ 240 by omega) (by decide) (by decide) dX8_add_107 (fun M hR => ?_)
          have hR := r_c17 (f := 7) (v := va_cpy sh (ar 7) 0 (6 * cm) w9) (by decide) hR
          refine m_aload_n C dX8_add_110 rfl 1 rfl ?_
          refine r_get C hR i8 10 (by decide) (by decide +kernel) rfl rfl dX8_add_111 ?_
          refine m_iload C dX8_add_114 0 rfl ?_
          refine m_iconst (v := (-1)) C dX8_add_116 (by decide) ?_
          refine r_iast C hR 10 (by decide) rfl cm (show cm < 40 by omega) (rfl) dX8_add_117 (fun M hR => ?_)
          have hR := r_c17 (f := 10) (v := upd (ar 10) cm (-1)) (by decide) hR
          refine m_aload_n C dX8_add_118 rfl 1 rfl ?_
          refine r_get C hR i8 11 (by decide) (by decide +kernel) rfl rfl dX8_add_119 ?_
          refine m_iload C dX8_add_122 0 rfl ?_
          refine m_bipush (v := 8) C dX8_add_124 (by decide) ?_
          refine r_iast C hR 11 (by decide) rfl cm (show cm < 40 by omega) (rfl) dX8_add_126 (fun M hR => ?_)
          have hR := r_c17 (f := 11) (v := upd (ar 11) cm 8) (by decide) hR
          refine m_aload_n C dX8_add_127 rfl 1 rfl ?_
          refine m_iload C dX8_add_128 0 rfl ?_
          refine m_iload_n C dX8_add_130 rfl 2 rfl ?_
          refine m_aload_n C dX8_add_131 rfl 1 rfl ?_
          refine r_get C hR i8 5 (by decide) (by decide +kernel) rfl rfl dX8_add_132 ?_
          refine m_iload_n C dX8_add_135 rfl 2 rfl ?_
          refine r_iald C hR 5 (by decide) rfl j (show j < 40 by omega) (rfl) dX8_add_136 ?_
          refine m_i (y := ar 5 j) (rfl) ?_
          refine m_i (y := nI m9) (hm) ?_
          refine m_callVv (As := [.int ((nI cm)), .int (nI j), .int (nI m9)]) (st := []) C hR.1 rfl (c_X8_insert D A l hR (j := cm) (q := j) (pl := m9) (m9 := m9) (by omega) (by omega) hm hm9 (Nat.le_refl _)) (cwV 3 C.1.2.2.2.2 gX8_add_X8_insert rfl rfl rfl (by decide +kernel) ⟨Nat.le_of_ble_eq_true rfl, Nat.le_of_ble_eq_true rfl⟩) rfl rfl (Nat.le_of_ble_eq_true rfl) dX8_add_137 ⟨Nat.le_of_ble_eq_true rfl, Nat.le_of_ble_eq_true rfl⟩ (fun M hR => ?_)
          refine m_iload C dX8_add_140 0 rfl ?_
          exact m_iret C (Nat.le_of_ble_eq_true rfl) (Nat.le_of_ble_eq_true rfl) dX8_add_142 (⟨fun z => absurd (by simp [q_addk, h1, nI_clamp hj31, h_1, h_2, h_4]) z, fun _ => ⟨rfl, by rw [q_addS, nI_clamp hj31, hm, nI_clamp (show m9 < 2 ^ 31 by omega)]; exact hR⟩⟩)
        · refine m_aload_n C dX8_add_46 rfl 0 rfl ?_
          refine m_iload_n C dX8_add_47 rfl 2 rfl ?_
          refine m_if_ne (tgt := 55) C dX8_add_48 (by decide) (fun h_5 => ?_) (fun h_5 => ?_)
          · refine m_iconst (v := 3) C dX8_add_55 (by decide) ?_
            refine m_callVi (As := [.int 3]) (st := []) C hR.1 rfl (c_X8_fail D A l hR 3) (cwV 1 C.1.2.2.2.2 gX8_add_X8_fail rfl rfl rfl (by decide +kernel) ⟨Nat.le_of_ble_eq_true rfl, Nat.le_of_ble_eq_true rfl⟩) rfl rfl (Nat.le_of_ble_eq_true rfl) dX8_add_56 ⟨Nat.le_of_ble_eq_true rfl, Nat.le_of_ble_eq_true rfl⟩ (fun r M h => ?_)
            obtain ⟨rfl, hR⟩ := h
            exact m_iret C (Nat.le_of_ble_eq_true rfl) (Nat.le_of_ble_eq_true rfl) dX8_add_59 (⟨fun _ => ⟨rfl, by rw [show q_addk cm ar (nI j) so ok = 3 by simp [q_addk, h1, nI_clamp hj31, h_1, h_2, h_4, h_5]]; exact hR⟩, fun z => absurd (show q_addk cm ar (nI j) so ok = 3 by simp [q_addk, h1, nI_clamp hj31, h_1, h_2, h_4, h_5]) (by rw [z]; decide)⟩)
          · refine m_iconst (v := 2) C dX8_add_51 (by decide) ?_
            refine m_goto (tgt := 56) C dX8_add_52 (by decide) ?_
            refine m_callVi (As := [.int 2]) (st := []) C hR.1 rfl (c_X8_fail D A l hR 2) (cwV 1 C.1.2.2.2.2 gX8_add_X8_fail rfl rfl rfl (by decide +kernel) ⟨Nat.le_of_ble_eq_true rfl, Nat.le_of_ble_eq_true rfl⟩) rfl rfl (Nat.le_of_ble_eq_true rfl) dX8_add_56 ⟨Nat.le_of_ble_eq_true rfl, Nat.le_of_ble_eq_true rfl⟩ (fun r M h => ?_)
            obtain ⟨rfl, hR⟩ := h
            exact m_iret C (Nat.le_of_ble_eq_true rfl) (Nat.le_of_ble_eq_true rfl) dX8_add_59 (⟨fun _ => ⟨rfl, by rw [show q_addk cm ar (nI j) so ok = 2 by simp [q_addk, h1, nI_clamp hj31, h_1, h_2, h_4, h_5]]; exact hR⟩, fun z => absurd (show q_addk cm ar (nI j) so ok = 2 by simp [q_addk, h1, nI_clamp hj31, h_1, h_2, h_4, h_5]) (by rw [z]; decide)⟩)
    · have h_1 := bI_z h_1
      refine m_aload_n C dX8_add_23 rfl 0 rfl ?_
      refine m_iconst (v := 2) C dX8_add_24 (by decide) ?_
      refine m_callVi (As := [.int 2]) (st := []) C hR.1 rfl (c_X8_fail D A l hR 2) (cwV 1 C.1.2.2.2.2 gX8_add_X8_fail rfl rfl rfl (by decide +kernel) ⟨Nat.le_of_ble_eq_true rfl, Nat.le_of_ble_eq_true rfl⟩) rfl rfl (Nat.le_of_ble_eq_true rfl) dX8_add_25 ⟨Nat.le_of_ble_eq_true rfl, Nat.le_of_ble_eq_true rfl⟩ (fun r M h => ?_)
      obtain ⟨rfl, hR⟩ := h
      exact m_iret C (Nat.le_of_ble_eq_true rfl) (Nat.le_of_ble_eq_true rfl) dX8_add_28 (⟨fun _ => ⟨rfl, by rw [show q_addk cm ar (nI j) so ok = 2 by simp [q_addk, h1, nI_clamp hj31, h_1]]; exact hR⟩, fun z => absurd (show q_addk cm ar (nI j) so ok = 2 by simp [q_addk, h1, nI_clamp hj31, h_1]) (by rw [z]; decide)⟩)
  · have h1 := bI_z h1
    refine m_aload_n C dX8_add_13 rfl 0 rfl ?_
    refine m_iconst (v := 1) C dX8_add_14 (by decide) ?_
    refine m_callVi (As := [.int 1]) (st := []) C hR.1 rfl (c_X8_fail D A l hR 1) (cwV 1 C.1.2.2.2.2 gX8_add_X8_fail rfl rfl rfl (by decide +kernel) ⟨Nat.le_of_ble_eq_true rfl, Nat.le_of_ble_eq_true rfl⟩) rfl rfl (Nat.le_of_ble_eq_true rfl) dX8_add_15 ⟨Nat.le_of_ble_eq_true rfl, Nat.le_of_ble_eq_true rfl⟩ (fun r M h => ?_)
    obtain ⟨rfl, hR⟩ := h
    exact m_iret C (Nat.le_of_ble_eq_true rfl) (Nat.le_of_ble_eq_true rfl) dX8_add_18 (⟨fun _ => ⟨rfl, by rw [show q_addk cm ar v so ok = 1 by simp [q_addk, h1]]; exact hR⟩, fun z => absurd (show q_addk cm ar v so ok = 1 by simp [q_addk, h1]) (by rw [z]; decide)⟩)
