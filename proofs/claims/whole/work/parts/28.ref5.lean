/-! ===== the reference: the calls on nodes and paints ===== -/
set_option maxHeartbeats 4000000 in
set_option maxRecDepth 100000 in
theorem c_X8_told (D : mD) (A : Nat → Prop) (l : Launch) {G : Nat → Nat} {o : Nat} {F : Mm} {t g u : Int32} {cm : Nat} {ar : rA} {od : Nat → Int32} {M : Mm} (hR : rW D G o F t (nI cm) g u (upA ar 17 od) M) (hw : wf ar cm) {n0 w9 : Nat} (hn : n0 < cm) (hp : ¬ ar 2 n0 = 0) (hw9 : w9 ≤ 12) : mMi D A l yX8_told wsX8_told ({ frames := 41, cells := 0, slots := 0, locals := 1640 } : Room) [.ref o, .int (nI n0), .int (nI w9)] M (fun r M' => M' = M ∧ r = q_tld ar (chn ar n0) (plc ar n0) n0 w9) 0 0 := by
  have hcm := hw.1
  obtain ⟨l2, hch, hCH, hl39, hmem, hnd⟩ := wf_at hw hn hp
  rw [hch]
  refine m_start (cc := cX8_told) (maxL := 3) (ret := (some .int)) (by decide) rfl (Nat.le_of_ble_eq_true rfl) ?_
  intro p e s m args below meth c C
  have i8 : ∀ w ∈ wsX80, w ∈ wsX8_told := by decide +kernel
  refine m_sub (L' := [(0, .ref o), (1, .int (nI n0)), (2, .int (nI w9))]) [0, 1, 2] rfl ?_
  refine m_iload_n C dX8_told_0 rfl 2 rfl ?_
  have hw13 : w9 = 0 ∨ w9 = 1 ∨ w9 = 2 ∨ w9 = 3 ∨ w9 = 4 ∨ w9 = 5 ∨ w9 = 6 ∨ w9 = 7 ∨ w9 = 8 ∨ w9 = 9 ∨ w9 = 10 ∨ w9 = 11 ∨ w9 = 12 := by omega
  rcases hw13 with rfl | rfl | rfl | rfl | rfl | rfl | rfl | rfl | rfl | rfl | rfl | rfl | rfl
  · refine m_tableIn (tgt := 64) C dX8_told_1 (by decide) (by decide) rfl (by decide) ?_
    refine m_aload_n C dX8_told_64 rfl 0 rfl ?_
    refine r_get C hR i8 3 (by decide) (by decide +kernel) rfl rfl dX8_told_65 ?_
    refine m_iload_n C dX8_told_68 rfl 1 rfl ?_
    refine r_iald C hR 3 (by decide) rfl n0 (show n0 < 40 by omega) (rfl) dX8_told_69 ?_
    refine m_i (y := ar 3 n0) (rfl) ?_
    exact m_iret C (Nat.le_of_ble_eq_true rfl) (Nat.le_of_ble_eq_true rfl) dX8_told_70 (⟨rfl, by simp [q_tld, Int32.not_lt, Int32.not_le]⟩)
  · refine m_tableIn (tgt := 71) C dX8_told_1 (by decide) (by decide) rfl (by decide) ?_
    refine m_aload_n C dX8_told_71 rfl 0 rfl ?_
    refine r_get C hR i8 4 (by decide) (by decide +kernel) rfl rfl dX8_told_72 ?_
    refine m_iload_n C dX8_told_75 rfl 1 rfl ?_
    refine r_iald C hR 4 (by decide) rfl n0 (show n0 < 40 by omega) (rfl) dX8_told_76 ?_
    refine m_i (y := ar 4 n0) (rfl) ?_
    exact m_iret C (Nat.le_of_ble_eq_true rfl) (Nat.le_of_ble_eq_true rfl) dX8_told_77 (⟨rfl, by simp [q_tld, Int32.not_lt, Int32.not_le]⟩)
  · refine m_tableIn (tgt := 78) C dX8_told_1 (by decide) (by decide) rfl (by decide) ?_
    refine m_aload_n C dX8_told_78 rfl 0 rfl ?_
    refine m_iload_n C dX8_told_79 rfl 1 rfl ?_
    refine m_callVFi (As := [.int (nI n0)]) (st := []) C hR.1 rfl (c_X8_placeOf D A l hR (j := n0) (q := par9 ar n0) (k9 := plc ar n0) (by omega) (wf_place hw hn hp)) (cwV 1 C.1.2.2.2.2 gX8_told_X8_placeOf rfl rfl rfl (by decide +kernel) ⟨Nat.le_of_ble_eq_true rfl, Nat.le_of_ble_eq_true rfl⟩) rfl rfl (Nat.le_of_ble_eq_true rfl) dX8_told_80 ⟨Nat.le_of_ble_eq_true rfl, Nat.le_of_ble_eq_true rfl⟩ ?_
    exact m_iret C (Nat.le_of_ble_eq_true rfl) (Nat.le_of_ble_eq_true rfl) dX8_told_83 (⟨rfl, by simp [q_tld, Int32.not_lt, Int32.not_le]⟩)
  · refine m_tableIn (tgt := 84) C dX8_told_1 (by decide) (by decide) rfl (by decide) ?_
    refine m_aload_n C dX8_told_84 rfl 0 rfl ?_
    refine r_get C hR i8 5 (by decide) (by decide +kernel) rfl rfl dX8_told_85 ?_
    refine m_iload_n C dX8_told_88 rfl 1 rfl ?_
    refine r_iald C hR 5 (by decide) rfl n0 (show n0 < 40 by omega) (rfl) dX8_told_89 ?_
    refine m_i (y := ar 5 n0) (rfl) ?_
    exact m_iret C (Nat.le_of_ble_eq_true rfl) (Nat.le_of_ble_eq_true rfl) dX8_told_90 (⟨rfl, by simp [q_tld, Int32.not_lt, Int32.not_le]⟩)
  · refine m_tableIn (tgt := 91) C dX8_told_1 (by decide) (by decide) rfl (by decide) ?_
    refine m_aload_n C dX8_told_91 rfl 0 rfl ?_
    refine r_get C hR i8 8 (by decide) (by decide +kernel) rfl rfl dX8_told_92 ?_
    refine m_iload_n C dX8_told_95 rfl 1 rfl ?_
    refine r_iald C hR 8 (by decide) rfl n0 (show n0 < 40 by omega) (rfl) dX8_told_96 ?_
    refine m_i (y := ar 8 n0) (rfl) ?_
    exact m_iret C (Nat.le_of_ble_eq_true rfl) (Nat.le_of_ble_eq_true rfl) dX8_told_97 (⟨rfl, by simp [q_tld, Int32.not_lt, Int32.not_le]⟩)
  · refine m_tableIn (tgt := 98) C dX8_told_1 (by decide) (by decide) rfl (by decide) ?_
    refine m_aload_n C dX8_told_98 rfl 0 rfl ?_
    refine r_get C hR i8 9 (by decide) (by decide +kernel) rfl rfl dX8_told_99 ?_
    refine m_iload_n C dX8_told_102 rfl 1 rfl ?_
    refine r_iald C hR 9 (by decide) rfl n0 (show n0 < 40 by omega) (rfl) dX8_told_103 ?_
    refine m_i (y := ar 9 n0) (rfl) ?_
    exact m_iret C (Nat.le_of_ble_eq_true rfl) (Nat.le_of_ble_eq_true rfl) dX8_told_104 (⟨rfl, by simp [q_tld, Int32.not_lt, Int32.not_le]⟩)
  · refine m_tableIn (tgt := 105) C dX8_told_1 (by decide) (by decide) rfl (by decide) ?_
    refine m_aload_n C dX8_told_105 rfl 0 rfl ?_
    refine r_get C hR i8 10 (by decide) (by decide +kernel) rfl rfl dX8_told_106 ?_
    refine m_iload_n C dX8_told_109 rfl 1 rfl ?_
    refine r_iald C hR 10 (by decide) rfl n0 (show n0 < 40 by omega) (rfl) dX8_told_110 ?_
    refine m_i (y := ar 10 n0) (rfl) ?_
    exact m_iret C (Nat.le_of_ble_eq_true rfl) (Nat.le_of_ble_eq_true rfl) dX8_told_111 (⟨rfl, by simp [q_tld, Int32.not_lt, Int32.not_le]⟩)
  · refine m_tableIn (tgt := 112) C dX8_told_1 (by decide) (by decide) rfl (by decide) ?_
    refine m_aload_n C dX8_told_112 rfl 0 rfl ?_
    refine m_iload_n C dX8_told_113 rfl 1 rfl ?_
    refine m_callVFi (As := [.int (nI n0)]) (st := []) C hR.1 rfl (c_X8_fillOf D A l hR (l0 := n0 :: l2) hCH) (cwV 1 C.1.2.2.2.2 gX8_told_X8_fillOf rfl rfl rfl (by decide +kernel) ⟨Nat.le_of_ble_eq_true rfl, Nat.le_of_ble_eq_true rfl⟩) rfl rfl (Nat.le_of_ble_eq_true rfl) dX8_told_114 ⟨Nat.le_of_ble_eq_true rfl, Nat.le_of_ble_eq_true rfl⟩ ?_
    exact m_iret C (Nat.le_of_ble_eq_true rfl) (Nat.le_of_ble_eq_true rfl) dX8_told_117 (⟨rfl, by simp [q_tld, Int32.not_lt, Int32.not_le]⟩)
  · refine m_tableIn (tgt := 118) C dX8_told_1 (by decide) (by decide) rfl (by decide) ?_
    refine m_aload_n C dX8_told_118 rfl 0 rfl ?_
    refine r_get C hR i8 11 (by decide) (by decide +kernel) rfl rfl dX8_told_119 ?_
    refine m_iload_n C dX8_told_122 rfl 1 rfl ?_
    refine r_iald C hR 11 (by decide) rfl n0 (show n0 < 40 by omega) (rfl) dX8_told_123 ?_
    refine m_i (y := ar 11 n0) (rfl) ?_
    exact m_iret C (Nat.le_of_ble_eq_true rfl) (Nat.le_of_ble_eq_true rfl) dX8_told_124 (⟨rfl, by simp [q_tld, Int32.not_lt, Int32.not_le]⟩)
  · refine m_tableIn (tgt := 125) C dX8_told_1 (by decide) (by decide) rfl (by decide) ?_
    refine m_aload_n C dX8_told_125 rfl 0 rfl ?_
    refine m_iload_n C dX8_told_126 rfl 1 rfl ?_
    refine m_callVFi (As := [.int (nI n0)]) (st := []) C hR.1 rfl (c_X8_strengthD D A l hR 40 n0 l2 hCH (by omega)) (cwV 1 C.1.2.2.2.2 gX8_told_X8_strength rfl rfl rfl (by decide +kernel) ⟨Nat.le_of_ble_eq_true rfl, Nat.le_of_ble_eq_true rfl⟩) rfl rfl (Nat.le_of_ble_eq_true rfl) dX8_told_127 ⟨Nat.le_of_ble_eq_true rfl, Nat.le_of_ble_eq_true rfl⟩ ?_
    exact m_iret C (Nat.le_of_ble_eq_true rfl) (Nat.le_of_ble_eq_true rfl) dX8_told_130 (⟨rfl, by simp [q_tld, Int32.not_lt, Int32.not_le]⟩)
  · refine m_tableIn (tgt := 131) C dX8_told_1 (by decide) (by decide) rfl (by decide) ?_
    refine m_aload_n C dX8_told_131 rfl 0 rfl ?_
    refine r_get C hR i8 12 (by decide) (by decide +kernel) rfl rfl dX8_told_132 ?_
    refine m_iload_n C dX8_told_135 rfl 1 rfl ?_
    refine r_zald C hR 12 (by decide) rfl n0 (show n0 < 40 by omega) (rfl) dX8_told_136 ?_
    refine m_i (y := ar 12 n0) (rfl) ?_
    refine m_if_eq (tgt := 144) C dX8_told_137 (by decide) (fun h_1 => ?_) (fun h_1 => ?_)
    · refine m_aload_n C dX8_told_144 rfl 0 rfl ?_
      refine m_iload_n C dX8_told_145 rfl 1 rfl ?_
      refine m_callVFi (As := [.int (nI n0)]) (st := []) C hR.1 rfl (c_X8_isHiddenAbove D A l hR hCH) (cwV 1 C.1.2.2.2.2 gX8_told_X8_isHiddenAbove rfl rfl rfl (by decide +kernel) ⟨Nat.le_of_ble_eq_true rfl, Nat.le_of_ble_eq_true rfl⟩) rfl rfl (Nat.le_of_ble_eq_true rfl) dX8_told_146 ⟨Nat.le_of_ble_eq_true rfl, Nat.le_of_ble_eq_true rfl⟩ ?_
      refine m_if_eq (tgt := 156) C dX8_told_149 (by decide) (fun h_2 => ?_) (fun h_2 => ?_)
      · have h_2 := bI_z h_2
        refine m_iconst (v := 0) C dX8_told_156 (by decide) ?_
        exact m_iret C (Nat.le_of_ble_eq_true rfl) (Nat.le_of_ble_eq_true rfl) dX8_told_157 (⟨rfl, by simp [q_tld, h_1, h_2, Int32.not_lt, Int32.not_le]⟩)
      · have h_2 := bI_n h_2
        refine m_iconst (v := 2) C dX8_told_152 (by decide) ?_
        refine m_goto (tgt := 157) C dX8_told_153 (by decide) ?_
        exact m_iret C (Nat.le_of_ble_eq_true rfl) (Nat.le_of_ble_eq_true rfl) dX8_told_157 (⟨rfl, by simp [q_tld, h_1, h_2, Int32.not_lt, Int32.not_le]⟩)
    · refine m_iconst (v := 1) C dX8_told_140 (by decide) ?_
      refine m_goto (tgt := 157) C dX8_told_141 (by decide) ?_
      exact m_iret C (Nat.le_of_ble_eq_true rfl) (Nat.le_of_ble_eq_true rfl) dX8_told_157 (⟨rfl, by simp [q_tld, h_1, Int32.not_lt, Int32.not_le]⟩)
  · refine m_tableIn (tgt := 158) C dX8_told_1 (by decide) (by decide) rfl (by decide) ?_
    refine m_aload_n C dX8_told_158 rfl 0 rfl ?_
    refine r_get C hR i8 14 (by decide) (by decide +kernel) rfl rfl dX8_told_159 ?_
    refine m_iconst (v := 4) C dX8_told_162 (by decide) ?_
    refine m_iload_n C dX8_told_163 rfl 1 rfl ?_
    refine m_imul C dX8_told_164 ?_
    refine m_iconst (v := 2) C dX8_told_165 (by decide) ?_
    refine m_iadd C dX8_told_166 ?_
    refine r_iald C hR 14 (by decide) rfl (4 * n0 + 2) (show (4 * n0 + 2) < 160 by omega) (by rw [show (4 : Int32) = nI 4 from rfl, show (2 : Int32) = nI 2 from rfl, pk_mul, nI_add]) dX8_told_167 ?_
    refine m_i (y := ar 14 (4 * n0 + 2)) (rfl) ?_
    refine m_if_le (tgt := 175) C dX8_told_168 (by decide) (fun h_3 => ?_) (fun h_3 => ?_)
    · refine m_iconst (v := 0) C dX8_told_175 (by decide) ?_
      exact m_iret C (Nat.le_of_ble_eq_true rfl) (Nat.le_of_ble_eq_true rfl) dX8_told_176 (⟨rfl, by simp [q_tld, h_3, Int32.not_lt, Int32.not_le]⟩)
    · refine m_iconst (v := 1) C dX8_told_171 (by decide) ?_
      refine m_goto (tgt := 176) C dX8_told_172 (by decide) ?_
      exact m_iret C (Nat.le_of_ble_eq_true rfl) (Nat.le_of_ble_eq_true rfl) dX8_told_176 (⟨rfl, by simp [q_tld, Int32.not_le.mp h_3, h_3, Int32.not_lt, Int32.not_le]⟩)
  · refine m_tableOut (tgt := 177) C dX8_told_1 (by decide) (by decide) ?_
    refine m_aload_n C dX8_told_177 rfl 0 rfl ?_
    refine r_get C hR i8 13 (by decide) (by decide +kernel) rfl rfl dX8_told_178 ?_
    refine m_iload_n C dX8_told_181 rfl 1 rfl ?_
    refine r_zald C hR 13 (by decide) rfl n0 (show n0 < 40 by omega) (rfl) dX8_told_182 ?_
    refine m_i (y := ar 13 n0) (rfl) ?_
    refine m_if_eq (tgt := 190) C dX8_told_183 (by decide) (fun h_4 => ?_) (fun h_4 => ?_)
    · refine m_iconst (v := 0) C dX8_told_190 (by decide) ?_
      exact m_iret C (Nat.le_of_ble_eq_true rfl) (Nat.le_of_ble_eq_true rfl) dX8_told_191 (⟨rfl, by simp [q_tld, h_4, Int32.not_lt, Int32.not_le]⟩)
    · refine m_iconst (v := 1) C dX8_told_186 (by decide) ?_
      refine m_goto (tgt := 191) C dX8_told_187 (by decide) ?_
      exact m_iret C (Nat.le_of_ble_eq_true rfl) (Nat.le_of_ble_eq_true rfl) dX8_told_191 (⟨rfl, by simp [q_tld, h_4, Int32.not_lt, Int32.not_le]⟩)
set_option maxHeartbeats 4000000 in
set_option maxRecDepth 100000 in
theorem c_X8_node (D : mD) (A : Nat → Prop) (l : Launch) {G : Nat → Nat} {o : Nat} {F : Mm} {t g u : Int32} {cm : Nat} {ar : rA} {od : Nat → Int32} {M : Mm} (hR : rW D G o F t (nI cm) g u (upA ar 17 od) M) (hw : wf ar cm) (v w : Int32) : mMi D A l yX8_node wsX8_node ({ frames := 42, cells := 0, slots := 0, locals := 1700 } : Room) [.ref o, .int v, .int w] M (fun r M' => rW D G o F (k_node cm ar v w) (nI cm) g u (upA (if k_node cm ar v w = 0 then ar else ar) 17 od) M' ∧ (k_node cm ar v w = 0 → r = q_tldv ar v w)) 0 0 := by
  have hcm := hw.1
  refine m_start (cc := cX8_node) (maxL := 3) (ret := (some .int)) (by decide) rfl (Nat.le_of_ble_eq_true rfl) ?_
  intro p e s m args below meth c C
  have i8 : ∀ w ∈ wsX80, w ∈ wsX8_node := by decide +kernel
  refine m_sub (L' := [(0, .ref o), (1, .int v), (2, .int w)]) [0, 1, 2] rfl ?_
  refine m_aload_n C dX8_node_0 rfl 0 rfl ?_
  refine m_iconst (v := 0) C dX8_node_1 (by decide) ?_
  refine r_putT C hR i8 (by decide +kernel) dX8_node_2 (fun M hR => ?_)
  refine m_aload_n C dX8_node_5 rfl 0 rfl ?_
  refine m_iload_n C dX8_node_6 rfl 1 rfl ?_
  refine m_callVFi (As := [.int v]) (st := []) C hR.1 rfl (c_X8_isNode D A l hR hw.1 v) (cwV 1 C.1.2.2.2.2 gX8_node_X8_isNode rfl rfl rfl (by decide +kernel) ⟨Nat.le_of_ble_eq_true rfl, Nat.le_of_ble_eq_true rfl⟩) rfl rfl (Nat.le_of_ble_eq_true rfl) dX8_node_7 ⟨Nat.le_of_ble_eq_true rfl, Nat.le_of_ble_eq_true rfl⟩ ?_
  refine m_if_eq (tgt := 32) C dX8_node_10 (by decide) (fun h1 => ?_) (fun h1 => ?_)
  · have h1 := bI_z h1
    refine m_aload_n C dX8_node_32 rfl 0 rfl ?_
    refine m_iconst (v := 1) C dX8_node_33 (by decide) ?_
    refine m_callVi (As := [.int 1]) (st := []) C hR.1 rfl (c_X8_fail D A l hR 1) (cwV 1 C.1.2.2.2.2 gX8_node_X8_fail rfl rfl rfl (by decide +kernel) ⟨Nat.le_of_ble_eq_true rfl, Nat.le_of_ble_eq_true rfl⟩) rfl rfl (Nat.le_of_ble_eq_true rfl) dX8_node_34 ⟨Nat.le_of_ble_eq_true rfl, Nat.le_of_ble_eq_true rfl⟩ (fun r M h => ?_)
    obtain ⟨rfl, hR⟩ := h
    exact m_iret C (Nat.le_of_ble_eq_true rfl) (Nat.le_of_ble_eq_true rfl) dX8_node_37 (by rw [show k_node cm ar v w = 1 by simp [k_node, h1], if_neg (by decide)]; exact ⟨hR, fun z => absurd z (by decide)⟩)
  · have h1 := bI_n h1
    obtain ⟨j, hj, hvj, hp⟩ := q_node_J hw.1 h1
    subst hvj
    have hjc : jN (nI j) = j := nI_clamp (by omega)
    refine m_iload_n C dX8_node_13 rfl 2 rfl ?_
    refine m_iconst (v := 0) C dX8_node_14 (by decide) ?_
    refine m_bipush (v := 12) C dX8_node_15 (by decide) ?_
    refine m_callSFi (As := [.int w, .int 0, .int 12]) (st := []) C (c_X8_isIn D A l M w 0 12) (va_cwS 3 C.1.2.2.2.2 gX8_node_X8_isIn rfl rfl rfl (by decide +kernel) ⟨Nat.le_of_ble_eq_true rfl, Nat.le_of_ble_eq_true rfl⟩) rfl rfl (Nat.le_of_ble_eq_true rfl) dX8_node_17 ⟨Nat.le_of_ble_eq_true rfl, Nat.le_of_ble_eq_true rfl⟩ ?_
    refine m_if_eq (tgt := 32) C dX8_node_20 (by decide) (fun h2 => ?_) (fun h2 => ?_)
    · have h2 := bI_z h2
      refine m_aload_n C dX8_node_32 rfl 0 rfl ?_
      refine m_iconst (v := 1) C dX8_node_33 (by decide) ?_
      refine m_callVi (As := [.int 1]) (st := []) C hR.1 rfl (c_X8_fail D A l hR 1) (cwV 1 C.1.2.2.2.2 gX8_node_X8_fail rfl rfl rfl (by decide +kernel) ⟨Nat.le_of_ble_eq_true rfl, Nat.le_of_ble_eq_true rfl⟩) rfl rfl (Nat.le_of_ble_eq_true rfl) dX8_node_34 ⟨Nat.le_of_ble_eq_true rfl, Nat.le_of_ble_eq_true rfl⟩ (fun r M h => ?_)
      obtain ⟨rfl, hR⟩ := h
      exact m_iret C (Nat.le_of_ble_eq_true rfl) (Nat.le_of_ble_eq_true rfl) dX8_node_37 (by rw [show k_node cm ar (nI j) w = 1 by simp [k_node, h1, h2], if_neg (by decide)]; exact ⟨hR, fun z => absurd z (by decide)⟩)
    · have h2 := bI_n h2
      obtain ⟨w9, hw9, hww⟩ := q_in_N (a := 12) (by decide) h2
      subst hww
      have hwc : jN (nI w9) = w9 := nI_clamp (by omega)
      refine m_aload_n C dX8_node_23 rfl 0 rfl ?_
      refine m_iload_n C dX8_node_24 rfl 1 rfl ?_
      refine m_iload_n C dX8_node_25 rfl 2 rfl ?_
      refine m_callVFi (As := [.int (nI j), .int (nI w9)]) (st := []) C hR.1 rfl (c_X8_told D A l hR hw (n0 := j) (w9 := w9) hj hp hw9) (cwV 2 C.1.2.2.2.2 gX8_node_X8_told rfl rfl rfl (by decide +kernel) ⟨Nat.le_of_ble_eq_true rfl, Nat.le_of_ble_eq_true rfl⟩) rfl rfl (Nat.le_of_ble_eq_true rfl) dX8_node_26 ⟨Nat.le_of_ble_eq_true rfl, Nat.le_of_ble_eq_true rfl⟩ ?_
      refine m_goto (tgt := 37) C dX8_node_29 (by decide) ?_
      exact m_iret C (Nat.le_of_ble_eq_true rfl) (Nat.le_of_ble_eq_true rfl) dX8_node_37 (by rw [show k_node cm ar (nI j) (nI w9) = 0 by simp [k_node, h1, h2], if_pos rfl]; exact ⟨hR, fun _ => by rw [q_tldv, hjc, hwc]⟩)
set_option maxHeartbeats 4000000 in
set_option maxRecDepth 100000 in
theorem c_X8_child (D : mD) (A : Nat → Prop) (l : Launch) {G : Nat → Nat} {o : Nat} {F : Mm} {t g u : Int32} {cm : Nat} {ar : rA} {od : Nat → Int32} {M : Mm} (hR : rW D G o F t (nI cm) g u (upA ar 17 od) M) (hw : wf ar cm) (v i : Int32) : mMi D A l yX8_child wsX8_child ({ frames := 2, cells := 0, slots := 0, locals := 60 } : Room) [.ref o, .int v, .int i] M (fun r M' => rW D G o F (k_child cm ar v i) (nI cm) g u (upA (if k_child cm ar v i = 0 then ar else ar) 17 od) M' ∧ (k_child cm ar v i = 0 → r = v_child ar v i)) 0 0 := by
  have hcm := hw.1
  refine m_start (cc := cX8_child) (maxL := 3) (ret := (some .int)) (by decide) rfl (Nat.le_of_ble_eq_true rfl) ?_
  intro p e s m args below meth c C
  have i8 : ∀ w ∈ wsX80, w ∈ wsX8_child := by decide +kernel
  refine m_sub (L' := [(0, .ref o), (1, .int v), (2, .int i)]) [0, 1, 2] rfl ?_
  refine m_aload_n C dX8_child_0 rfl 0 rfl ?_
  refine m_iconst (v := 0) C dX8_child_1 (by decide) ?_
  refine r_putT C hR i8 (by decide +kernel) dX8_child_2 (fun M hR => ?_)
  refine m_aload_n C dX8_child_5 rfl 0 rfl ?_
  refine m_iload_n C dX8_child_6 rfl 1 rfl ?_
  refine m_callVFi (As := [.int v]) (st := []) C hR.1 rfl (c_X8_isNode D A l hR hw.1 v) (cwV 1 C.1.2.2.2.2 gX8_child_X8_isNode rfl rfl rfl (by decide +kernel) ⟨Nat.le_of_ble_eq_true rfl, Nat.le_of_ble_eq_true rfl⟩) rfl rfl (Nat.le_of_ble_eq_true rfl) dX8_child_7 ⟨Nat.le_of_ble_eq_true rfl, Nat.le_of_ble_eq_true rfl⟩ ?_
  refine m_if_eq (tgt := 43) C dX8_child_10 (by decide) (fun h1 => ?_) (fun h1 => ?_)
  · have h1 := bI_z h1
    refine m_aload_n C dX8_child_43 rfl 0 rfl ?_
    refine m_iconst (v := 1) C dX8_child_44 (by decide) ?_
    refine m_callVi (As := [.int 1]) (st := []) C hR.1 rfl (c_X8_fail D A l hR 1) (cwV 1 C.1.2.2.2.2 gX8_child_X8_fail rfl rfl rfl (by decide +kernel) ⟨Nat.le_of_ble_eq_true rfl, Nat.le_of_ble_eq_true rfl⟩) rfl rfl (Nat.le_of_ble_eq_true rfl) dX8_child_45 ⟨Nat.le_of_ble_eq_true rfl, Nat.le_of_ble_eq_true rfl⟩ (fun r M h => ?_)
    obtain ⟨rfl, hR⟩ := h
    exact m_iret C (Nat.le_of_ble_eq_true rfl) (Nat.le_of_ble_eq_true rfl) dX8_child_48 (by rw [show k_child cm ar v i = 1 by simp [k_child, h1], if_neg (by decide)]; exact ⟨hR, fun z => absurd z (by decide)⟩)
  · have h1 := bI_n h1
    obtain ⟨j, hj, hvj, hp⟩ := q_node_J hw.1 h1
    subst hvj
    have hjc : jN (nI j) = j := nI_clamp (by omega)
    obtain ⟨m9, hm, hm9⟩ := wf_hmn hw j hj hp
    refine m_iload_n C dX8_child_13 rfl 2 rfl ?_
    refine m_iconst (v := 0) C dX8_child_14 (by decide) ?_
    refine m_aload_n C dX8_child_15 rfl 0 rfl ?_
    refine r_get C hR i8 5 (by decide) (by decide +kernel) rfl rfl dX8_child_16 ?_
    refine m_iload_n C dX8_child_19 rfl 1 rfl ?_
    refine r_iald C hR 5 (by decide) rfl j (show j < 40 by omega) (rfl) dX8_child_20 ?_
    refine m_i (y := ar 5 j) (rfl) ?_
    refine m_iconst (v := 1) C dX8_child_21 (by decide) ?_
    refine m_isub C dX8_child_22 ?_
    refine m_callSFi (As := [.int i, .int 0, .int ((ar 5 j) - 1)]) (st := []) C (c_X8_isIn D A l M i 0 ((ar 5 j) - 1)) (va_cwS 3 C.1.2.2.2.2 gX8_child_X8_isIn rfl rfl rfl (by decide +kernel) ⟨Nat.le_of_ble_eq_true rfl, Nat.le_of_ble_eq_true rfl⟩) rfl rfl (Nat.le_of_ble_eq_true rfl) dX8_child_23 ⟨Nat.le_of_ble_eq_true rfl, Nat.le_of_ble_eq_true rfl⟩ ?_
    refine m_if_eq (tgt := 43) C dX8_child_26 (by decide) (fun h2 => ?_) (fun h2 => ?_)
    · have h2 := bI_z h2
      refine m_aload_n C dX8_child_43 rfl 0 rfl ?_
      refine m_iconst (v := 1) C dX8_child_44 (by decide) ?_
      refine m_callVi (As := [.int 1]) (st := []) C hR.1 rfl (c_X8_fail D A l hR 1) (cwV 1 C.1.2.2.2.2 gX8_child_X8_fail rfl rfl rfl (by decide +kernel) ⟨Nat.le_of_ble_eq_true rfl, Nat.le_of_ble_eq_true rfl⟩) rfl rfl (Nat.le_of_ble_eq_true rfl) dX8_child_45 ⟨Nat.le_of_ble_eq_true rfl, Nat.le_of_ble_eq_true rfl⟩ (fun r M h => ?_)
      obtain ⟨rfl, hR⟩ := h
      exact m_iret C (Nat.le_of_ble_eq_true rfl) (Nat.le_of_ble_eq_true rfl) dX8_child_48 (by rw [show k_child cm ar (nI j) i = 1 by simp [k_child, h1, hjc, h2], if_neg (by decide)]; exact ⟨hR, fun z => absurd z (by decide)⟩)
    · have h2 := bI_n h2
      have hi9 : ∃ i9 : Nat, i9 < 40 ∧ i = nI i9 := by
        obtain ⟨z1, z2⟩ := q_in_t.mp h2
        obtain ⟨j9, hj9, rfl⟩ := nI_of (x := i) (Int32.not_lt.mpr z1)
        refine ⟨j9, ?_, rfl⟩
        rcases Nat.eq_zero_or_pos m9 with y9 | y9
        · rw [hm, y9] at z2
          have z3 : (0 : Int32) ≤ nI 0 - 1 := Int32.le_trans z1 z2
          exact absurd z3 (by decide)
        · rw [hm, show (1 : Int32) = nI 1 from rfl, pk_sub y9, nI_leI hj9 (by omega)] at z2
          omega
      obtain ⟨i9, hi9, hii⟩ := hi9
      subst hii
      have hic : jN (nI i9) = i9 := nI_clamp (by omega)
      refine m_aload_n C dX8_child_29 rfl 0 rfl ?_
      refine r_get C hR i8 6 (by decide) (by decide +kernel) rfl rfl dX8_child_30 ?_
      refine m_bipush (v := 40) C dX8_child_33 (by decide) ?_
      refine m_iload_n C dX8_child_35 rfl 1 rfl ?_
      refine m_imul C dX8_child_36 ?_
      refine m_iload_n C dX8_child_37 rfl 2 rfl ?_
      refine m_iadd C dX8_child_38 ?_
      refine r_iald C hR 6 (by decide) rfl (40 * j + i9) (show (40 * j + i9) < 1600 by omega) (by rw [show (40 : Int32) = nI 40 from rfl, pk_mul, nI_add]) dX8_child_39 ?_
      refine m_i (y := ar 6 (40 * j + i9)) (rfl) ?_
      refine m_goto (tgt := 48) C dX8_child_40 (by decide) ?_
      exact m_iret C (Nat.le_of_ble_eq_true rfl) (Nat.le_of_ble_eq_true rfl) dX8_child_48 (by rw [show k_child cm ar (nI j) (nI i9) = 0 by simp [k_child, h1, hjc, h2], if_pos rfl]; exact ⟨hR, fun _ => by rw [v_child, hjc, hic]⟩)
set_option maxHeartbeats 4000000 in
set_option maxRecDepth 100000 in
theorem c_X8_count (D : mD) (A : Nat → Prop) (l : Launch) {G : Nat → Nat} {o : Nat} {F : Mm} {t g u : Int32} {cm : Nat} {ar : rA} {od : Nat → Int32} {M : Mm} (hR : rW D G o F t (nI cm) g u (upA ar 17 od) M) (hw : wf ar cm) : mMi D A l yX8_count wsX8_count ({ frames := 1, cells := 0, slots := 0, locals := 40 } : Room) [.ref o] M (fun r M' => r = nI (q_cnt ar cm) ∧ rW D G o F 0 (nI cm) g u (upA ar 17 od) M') 0 0 := by
  have hcm := hw.1
  refine m_start (cc := cX8_count) (maxL := 1) (ret := (some .int)) (by decide) rfl (Nat.le_of_ble_eq_true rfl) ?_
  intro p e s m args below meth c C
  have i8 : ∀ w ∈ wsX80, w ∈ wsX8_count := by decide +kernel
  refine m_sub (L' := [(0, .ref o)]) [0] rfl ?_
  refine m_aload_n C dX8_count_0 rfl 0 rfl ?_
  refine m_iconst (v := 0) C dX8_count_1 (by decide) ?_
  refine r_putT C hR i8 (by decide +kernel) dX8_count_2 (fun M hR => ?_)
  refine m_aload_n C dX8_count_5 rfl 0 rfl ?_
  refine m_callVFi (As := []) (st := []) C hR.1 rfl (c_X8_present D A l hR hw.1) (cwV 0 C.1.2.2.2.2 gX8_count_X8_present rfl rfl rfl (by decide +kernel) ⟨Nat.le_of_ble_eq_true rfl, Nat.le_of_ble_eq_true rfl⟩) rfl rfl (Nat.le_of_ble_eq_true rfl) dX8_count_6 ⟨Nat.le_of_ble_eq_true rfl, Nat.le_of_ble_eq_true rfl⟩ ?_
  exact m_iret C (Nat.le_of_ble_eq_true rfl) (Nat.le_of_ble_eq_true rfl) dX8_count_9 (⟨rfl, hR⟩)
set_option maxHeartbeats 4000000 in
set_option maxRecDepth 100000 in
theorem c_X8_place (D : mD) (A : Nat → Prop) (l : Launch) {G : Nat → Nat} {o : Nat} {F : Mm} {t g u : Int32} {cm : Nat} {ar : rA} {od : Nat → Int32} {M : Mm} (hR : rW D G o F t (nI cm) g u (upA ar 17 od) M) (hw : wf ar cm) (v dx dy : Int32) : mMi D A l yX8_place wsX8_place ({ frames := 2, cells := 0, slots := 0, locals := 60 } : Room) [.ref o, .int v, .int dx, .int dy] M (fun r M' => rW D G o F (k_place cm ar v dx dy) (nI cm) g u (upA (if k_place cm ar v dx dy = 0 then s_place ar v dx dy else ar) 17 od) M' ∧ (k_place cm ar v dx dy = 0 → r = ar 8 (jN v))) 0 0 := by
  have hcm := hw.1
  refine m_start (cc := cX8_place) (maxL := 5) (ret := (some .int)) (by decide) rfl (Nat.le_of_ble_eq_true rfl) ?_
  intro p e s m args below meth c C
  have i8 : ∀ w ∈ wsX80, w ∈ wsX8_place := by decide +kernel
  refine m_sub (L' := [(0, .ref o), (1, .int v), (2, .int dx), (3, .int dy)]) [0, 1, 2, 3] rfl ?_
  refine m_aload_n C dX8_place_0 rfl 0 rfl ?_
  refine m_iconst (v := 0) C dX8_place_1 (by decide) ?_
  refine r_putT C hR i8 (by decide +kernel) dX8_place_2 (fun M hR => ?_)
  refine m_aload_n C dX8_place_5 rfl 0 rfl ?_
  refine m_iload_n C dX8_place_6 rfl 1 rfl ?_
  refine m_callVFi (As := [.int v]) (st := []) C hR.1 rfl (c_X8_isNode D A l hR hw.1 v) (cwV 1 C.1.2.2.2.2 gX8_place_X8_isNode rfl rfl rfl (by decide +kernel) ⟨Nat.le_of_ble_eq_true rfl, Nat.le_of_ble_eq_true rfl⟩) rfl rfl (Nat.le_of_ble_eq_true rfl) dX8_place_7 ⟨Nat.le_of_ble_eq_true rfl, Nat.le_of_ble_eq_true rfl⟩ ?_
  refine m_if_ne (tgt := 19) C dX8_place_10 (by decide) (fun h1 => ?_) (fun h1 => ?_)
  · have h1 := bI_n h1
    obtain ⟨j, hj, hvj, hp⟩ := q_node_J hw.1 h1
    subst hvj
    have hjc : jN (nI j) = j := nI_clamp (by omega)
    refine m_iload_n C dX8_place_19 rfl 2 rfl ?_
    refine m_callSFi (As := [.int dx]) (st := []) C (c_X8_isFar D A l M dx) (va_cwS 1 C.1.2.2.2.2 gX8_place_X8_isFar rfl rfl rfl (by decide +kernel) ⟨Nat.le_of_ble_eq_true rfl, Nat.le_of_ble_eq_true rfl⟩) rfl rfl (Nat.le_of_ble_eq_true rfl) dX8_place_20 ⟨Nat.le_of_ble_eq_true rfl, Nat.le_of_ble_eq_true rfl⟩ ?_
    refine m_if_ne (tgt := 33) C dX8_place_23 (by decide) (fun h_1 => ?_) (fun h_1 => ?_)
    · have h_1 := bI_n h_1
      refine m_aload_n C dX8_place_33 rfl 0 rfl ?_
      refine m_iconst (v := 2) C dX8_place_34 (by decide) ?_
      refine m_callVi (As := [.int 2]) (st := []) C hR.1 rfl (c_X8_fail D A l hR 2) (cwV 1 C.1.2.2.2.2 gX8_place_X8_fail rfl rfl rfl (by decide +kernel) ⟨Nat.le_of_ble_eq_true rfl, Nat.le_of_ble_eq_true rfl⟩) rfl rfl (Nat.le_of_ble_eq_true rfl) dX8_place_35 ⟨Nat.le_of_ble_eq_true rfl, Nat.le_of_ble_eq_true rfl⟩ (fun r M h => ?_)
      obtain ⟨rfl, hR⟩ := h
      exact m_iret C (Nat.le_of_ble_eq_true rfl) (Nat.le_of_ble_eq_true rfl) dX8_place_38 (by rw [show k_place cm ar (nI j) dx dy = 2 by simp [k_place, h1, hjc, h_1], if_neg (by decide)]; exact ⟨hR, fun z => absurd z (by decide)⟩)
    · have h_1 := bI_z h_1
      refine m_iload_n C dX8_place_26 rfl 3 rfl ?_
      refine m_callSFi (As := [.int dy]) (st := []) C (c_X8_isFar D A l M dy) (va_cwS 1 C.1.2.2.2.2 gX8_place_X8_isFar rfl rfl rfl (by decide +kernel) ⟨Nat.le_of_ble_eq_true rfl, Nat.le_of_ble_eq_true rfl⟩) rfl rfl (Nat.le_of_ble_eq_true rfl) dX8_place_27 ⟨Nat.le_of_ble_eq_true rfl, Nat.le_of_ble_eq_true rfl⟩ ?_
      refine m_if_eq (tgt := 39) C dX8_place_30 (by decide) (fun h_2 => ?_) (fun h_2 => ?_)
      · have h_2 := bI_z h_2
        refine m_aload_n C dX8_place_39 rfl 0 rfl ?_
        refine r_get C hR i8 8 (by decide) (by decide +kernel) rfl rfl dX8_place_40 ?_
        refine m_iload_n C dX8_place_43 rfl 1 rfl ?_
        refine r_iald C hR 8 (by decide) rfl j (show j < 40 by omega) (rfl) dX8_place_44 ?_
        refine m_i (y := ar 8 j) (rfl) ?_
        refine m_istore (L' := [(4, .int (ar 8 j)), (0, .ref o), (1, .int (nI j)), (2, .int dx), (3, .int dy)]) C dX8_place_45 (by decide) rfl ?_
        refine m_aload_n C dX8_place_47 rfl 1 rfl ?_
        refine r_get C hR i8 8 (by decide) (by decide +kernel) rfl rfl dX8_place_48 ?_
        refine m_iload_n C dX8_place_51 rfl 2 rfl ?_
        refine m_iload_n C dX8_place_52 rfl 3 rfl ?_
        refine r_iast C hR 8 (by decide) rfl j (show j < 40 by omega) (rfl) dX8_place_53 (fun M hR => ?_)
        have hR := r_c17 (f := 8) (v := upd (ar 8) j dx) (by decide) hR
        refine m_aload_n C dX8_place_54 rfl 1 rfl ?_
        refine r_get C hR i8 9 (by decide) (by decide +kernel) rfl rfl dX8_place_55 ?_
        refine m_iload_n C dX8_place_58 rfl 2 rfl ?_
        refine m_iload_n C dX8_place_59 rfl 4 rfl ?_
        refine r_iast C hR 9 (by decide) rfl j (show j < 40 by omega) (rfl) dX8_place_60 (fun M hR => ?_)
        have hR := r_c17 (f := 9) (v := upd (ar 9) j dy) (by decide) hR
        refine m_iload C dX8_place_61 0 rfl ?_
        exact m_iret C (Nat.le_of_ble_eq_true rfl) (Nat.le_of_ble_eq_true rfl) dX8_place_63 (by rw [show k_place cm ar (nI j) dx dy = 0 by simp [k_place, h1, hjc, h_1, h_2], if_pos rfl]; exact ⟨by rw [s_place, hjc]; exact hR, fun _ => by rw [hjc]⟩)
      · have h_2 := bI_n h_2
        refine m_aload_n C dX8_place_33 rfl 0 rfl ?_
        refine m_iconst (v := 2) C dX8_place_34 (by decide) ?_
        refine m_callVi (As := [.int 2]) (st := []) C hR.1 rfl (c_X8_fail D A l hR 2) (cwV 1 C.1.2.2.2.2 gX8_place_X8_fail rfl rfl rfl (by decide +kernel) ⟨Nat.le_of_ble_eq_true rfl, Nat.le_of_ble_eq_true rfl⟩) rfl rfl (Nat.le_of_ble_eq_true rfl) dX8_place_35 ⟨Nat.le_of_ble_eq_true rfl, Nat.le_of_ble_eq_true rfl⟩ (fun r M h => ?_)
        obtain ⟨rfl, hR⟩ := h
        exact m_iret C (Nat.le_of_ble_eq_true rfl) (Nat.le_of_ble_eq_true rfl) dX8_place_38 (by rw [show k_place cm ar (nI j) dx dy = 2 by simp [k_place, h1, hjc, h_1, h_2], if_neg (by decide)]; exact ⟨hR, fun z => absurd z (by decide)⟩)
  · have h1 := bI_z h1
    refine m_aload_n C dX8_place_13 rfl 0 rfl ?_
    refine m_iconst (v := 1) C dX8_place_14 (by decide) ?_
    refine m_callVi (As := [.int 1]) (st := []) C hR.1 rfl (c_X8_fail D A l hR 1) (cwV 1 C.1.2.2.2.2 gX8_place_X8_fail rfl rfl rfl (by decide +kernel) ⟨Nat.le_of_ble_eq_true rfl, Nat.le_of_ble_eq_true rfl⟩) rfl rfl (Nat.le_of_ble_eq_true rfl) dX8_place_15 ⟨Nat.le_of_ble_eq_true rfl, Nat.le_of_ble_eq_true rfl⟩ (fun r M h => ?_)
    obtain ⟨rfl, hR⟩ := h
    exact m_iret C (Nat.le_of_ble_eq_true rfl) (Nat.le_of_ble_eq_true rfl) dX8_place_18 (by rw [show k_place cm ar v dx dy = 1 by simp [k_place, h1], if_neg (by decide)]; exact ⟨hR, fun z => absurd z (by decide)⟩)
set_option maxHeartbeats 4000000 in
set_option maxRecDepth 100000 in
theorem c_X8_setFill (D : mD) (A : Nat → Prop) (l : Launch) {G : Nat → Nat} {o : Nat} {F : Mm} {t g u : Int32} {cm : Nat} {ar : rA} {od : Nat → Int32} {M : Mm} (hR : rW D G o F t (nI cm) g u (upA ar 17 od) M) (hw : wf ar cm) (v f : Int32) : mMi D A l yX8_setFill wsX8_setFill ({ frames := 2, cells := 0, slots := 0, locals := 60 } : Room) [.ref o, .int v, .int f] M (fun r M' => rW D G o F (k_setFill cm ar v f) (nI cm) g u (upA (if k_setFill cm ar v f = 0 then s_setFill ar v f else ar) 17 od) M' ∧ (k_setFill cm ar v f = 0 → r = ar 10 (jN v))) 0 0 := by
  have hcm := hw.1
  refine m_start (cc := cX8_setFill) (maxL := 4) (ret := (some .int)) (by decide) rfl (Nat.le_of_ble_eq_true rfl) ?_
  intro p e s m args below meth c C
  have i8 : ∀ w ∈ wsX80, w ∈ wsX8_setFill := by decide +kernel
  refine m_sub (L' := [(0, .ref o), (1, .int v), (2, .int f)]) [0, 1, 2] rfl ?_
  refine m_aload_n C dX8_setFill_0 rfl 0 rfl ?_
  refine m_iconst (v := 0) C dX8_setFill_1 (by decide) ?_
  refine r_putT C hR i8 (by decide +kernel) dX8_setFill_2 (fun M hR => ?_)
  refine m_aload_n C dX8_setFill_5 rfl 0 rfl ?_
  refine m_iload_n C dX8_setFill_6 rfl 1 rfl ?_
  refine m_callVFi (As := [.int v]) (st := []) C hR.1 rfl (c_X8_isNode D A l hR hw.1 v) (cwV 1 C.1.2.2.2.2 gX8_setFill_X8_isNode rfl rfl rfl (by decide +kernel) ⟨Nat.le_of_ble_eq_true rfl, Nat.le_of_ble_eq_true rfl⟩) rfl rfl (Nat.le_of_ble_eq_true rfl) dX8_setFill_7 ⟨Nat.le_of_ble_eq_true rfl, Nat.le_of_ble_eq_true rfl⟩ ?_
  refine m_if_ne (tgt := 19) C dX8_setFill_10 (by decide) (fun h1 => ?_) (fun h1 => ?_)
  · have h1 := bI_n h1
    obtain ⟨j, hj, hvj, hp⟩ := q_node_J hw.1 h1
    subst hvj
    have hjc : jN (nI j) = j := nI_clamp (by omega)
    refine m_iload_n C dX8_setFill_19 rfl 2 rfl ?_
    refine m_iconst (v := (-1)) C dX8_setFill_20 (by decide) ?_
    refine m_sipush (v := 255) C dX8_setFill_21 (by decide) ?_
    refine m_callSFi (As := [.int f, .int ((-1)), .int 255]) (st := []) C (c_X8_isIn D A l M f (-1) 255) (va_cwS 3 C.1.2.2.2.2 gX8_setFill_X8_isIn rfl rfl rfl (by decide +kernel) ⟨Nat.le_of_ble_eq_true rfl, Nat.le_of_ble_eq_true rfl⟩) rfl rfl (Nat.le_of_ble_eq_true rfl) dX8_setFill_24 ⟨Nat.le_of_ble_eq_true rfl, Nat.le_of_ble_eq_true rfl⟩ ?_
    refine m_if_ne (tgt := 36) C dX8_setFill_27 (by decide) (fun h_1 => ?_) (fun h_1 => ?_)
    · have h_1 := bI_n h_1
      refine m_aload_n C dX8_setFill_36 rfl 0 rfl ?_
      refine r_get C hR i8 10 (by decide) (by decide +kernel) rfl rfl dX8_setFill_37 ?_
      refine m_iload_n C dX8_setFill_40 rfl 1 rfl ?_
      refine r_iald C hR 10 (by decide) rfl j (show j < 40 by omega) (rfl) dX8_setFill_41 ?_
      refine m_i (y := ar 10 j) (rfl) ?_
      refine m_istore_n (L' := [(3, .int (ar 10 j)), (0, .ref o), (1, .int (nI j)), (2, .int f)]) C dX8_setFill_42 rfl (by decide) rfl ?_
      refine m_aload_n C dX8_setFill_43 rfl 1 rfl ?_
      refine r_get C hR i8 10 (by decide) (by decide +kernel) rfl rfl dX8_setFill_44 ?_
      refine m_iload_n C dX8_setFill_47 rfl 2 rfl ?_
      refine m_iload_n C dX8_setFill_48 rfl 3 rfl ?_
      refine r_iast C hR 10 (by decide) rfl j (show j < 40 by omega) (rfl) dX8_setFill_49 (fun M hR => ?_)
      have hR := r_c17 (f := 10) (v := upd (ar 10) j f) (by decide) hR
      refine m_iload_n C dX8_setFill_50 rfl 0 rfl ?_
      exact m_iret C (Nat.le_of_ble_eq_true rfl) (Nat.le_of_ble_eq_true rfl) dX8_setFill_51 (by rw [show k_setFill cm ar (nI j) f = 0 by simp [k_setFill, h1, hjc, h_1], if_pos rfl]; exact ⟨by rw [s_setFill, hjc]; exact hR, fun _ => by rw [hjc]⟩)
    · have h_1 := bI_z h_1
      refine m_aload_n C dX8_setFill_30 rfl 0 rfl ?_
      refine m_iconst (v := 2) C dX8_setFill_31 (by decide) ?_
      refine m_callVi (As := [.int 2]) (st := []) C hR.1 rfl (c_X8_fail D A l hR 2) (cwV 1 C.1.2.2.2.2 gX8_setFill_X8_fail rfl rfl rfl (by decide +kernel) ⟨Nat.le_of_ble_eq_true rfl, Nat.le_of_ble_eq_true rfl⟩) rfl rfl (Nat.le_of_ble_eq_true rfl) dX8_setFill_32 ⟨Nat.le_of_ble_eq_true rfl, Nat.le_of_ble_eq_true rfl⟩ (fun r M h => ?_)
      obtain ⟨rfl, hR⟩ := h
      exact m_iret C (Nat.le_of_ble_eq_true rfl) (Nat.le_of_ble_eq_true rfl) dX8_setFill_35 (by rw [show k_setFill cm ar (nI j) f = 2 by simp [k_setFill, h1, hjc, h_1], if_neg (by decide)]; exact ⟨hR, fun z => absurd z (by decide)⟩)
  · have h1 := bI_z h1
    refine m_aload_n C dX8_setFill_13 rfl 0 rfl ?_
    refine m_iconst (v := 1) C dX8_setFill_14 (by decide) ?_
    refine m_callVi (As := [.int 1]) (st := []) C hR.1 rfl (c_X8_fail D A l hR 1) (cwV 1 C.1.2.2.2.2 gX8_setFill_X8_fail rfl rfl rfl (by decide +kernel) ⟨Nat.le_of_ble_eq_true rfl, Nat.le_of_ble_eq_true rfl⟩) rfl rfl (Nat.le_of_ble_eq_true rfl) dX8_setFill_15 ⟨Nat.le_of_ble_eq_true rfl, Nat.le_of_ble_eq_true rfl⟩ (fun r M h => ?_)
    obtain ⟨rfl, hR⟩ := h
    exact m_iret C (Nat.le_of_ble_eq_true rfl) (Nat.le_of_ble_eq_true rfl) dX8_setFill_18 (by rw [show k_setFill cm ar v f = 1 by simp [k_setFill, h1], if_neg (by decide)]; exact ⟨hR, fun z => absurd z (by decide)⟩)
set_option maxHeartbeats 4000000 in
set_option maxRecDepth 100000 in
theorem c_X8_setOpacity (D : mD) (A : Nat → Prop) (l : Launch) {G : Nat → Nat} {o : Nat} {F : Mm} {t g u : Int32} {cm : Nat} {ar : rA} {od : Nat → Int32} {M : Mm} (hR : rW D G o F t (nI cm) g u (upA ar 17 od) M) (hw : wf ar cm) (v f : Int32) (h : Bool) : mMi D A l yX8_setOpacity wsX8_setOpacity ({ frames := 2, cells := 0, slots := 0, locals := 60 } : Room) [.ref o, .int v, .int f, .int (bI h)] M (fun r M' => rW D G o F (k_setOpacity cm ar v f) (nI cm) g u (upA (if k_setOpacity cm ar v f = 0 then s_setOpacity ar v f h else ar) 17 od) M' ∧ (k_setOpacity cm ar v f = 0 → r = ar 11 (jN v))) 0 0 := by
  have hcm := hw.1
  refine m_start (cc := cX8_setOpacity) (maxL := 5) (ret := (some .int)) (by decide) rfl (Nat.le_of_ble_eq_true rfl) ?_
  intro p e s m args below meth c C
  have i8 : ∀ w ∈ wsX80, w ∈ wsX8_setOpacity := by decide +kernel
  refine m_sub (L' := [(0, .ref o), (1, .int v), (2, .int f), (3, .int (bI h))]) [0, 1, 2, 3] rfl ?_
  refine m_aload_n C dX8_setOpacity_0 rfl 0 rfl ?_
  refine m_iconst (v := 0) C dX8_setOpacity_1 (by decide) ?_
  refine r_putT C hR i8 (by decide +kernel) dX8_setOpacity_2 (fun M hR => ?_)
  refine m_aload_n C dX8_setOpacity_5 rfl 0 rfl ?_
  refine m_iload_n C dX8_setOpacity_6 rfl 1 rfl ?_
  refine m_callVFi (As := [.int v]) (st := []) C hR.1 rfl (c_X8_isNode D A l hR hw.1 v) (cwV 1 C.1.2.2.2.2 gX8_setOpacity_X8_isNode rfl rfl rfl (by decide +kernel) ⟨Nat.le_of_ble_eq_true rfl, Nat.le_of_ble_eq_true rfl⟩) rfl rfl (Nat.le_of_ble_eq_true rfl) dX8_setOpacity_7 ⟨Nat.le_of_ble_eq_true rfl, Nat.le_of_ble_eq_true rfl⟩ ?_
  refine m_if_ne (tgt := 19) C dX8_setOpacity_10 (by decide) (fun h1 => ?_) (fun h1 => ?_)
  · have h1 := bI_n h1
    obtain ⟨j, hj, hvj, hp⟩ := q_node_J hw.1 h1
    subst hvj
    have hjc : jN (nI j) = j := nI_clamp (by omega)
    refine m_iload_n C dX8_setOpacity_19 rfl 2 rfl ?_
    refine m_iconst (v := 0) C dX8_setOpacity_20 (by decide) ?_
    refine m_bipush (v := 8) C dX8_setOpacity_21 (by decide) ?_
    refine m_callSFi (As := [.int f, .int 0, .int 8]) (st := []) C (c_X8_isIn D A l M f 0 8) (va_cwS 3 C.1.2.2.2.2 gX8_setOpacity_X8_isIn rfl rfl rfl (by decide +kernel) ⟨Nat.le_of_ble_eq_true rfl, Nat.le_of_ble_eq_true rfl⟩) rfl rfl (Nat.le_of_ble_eq_true rfl) dX8_setOpacity_23 ⟨Nat.le_of_ble_eq_true rfl, Nat.le_of_ble_eq_true rfl⟩ ?_
    refine m_if_ne (tgt := 35) C dX8_setOpacity_26 (by decide) (fun h_1 => ?_) (fun h_1 => ?_)
    · have h_1 := bI_n h_1
      refine m_aload_n C dX8_setOpacity_35 rfl 0 rfl ?_
      refine r_get C hR i8 11 (by decide) (by decide +kernel) rfl rfl dX8_setOpacity_36 ?_
      refine m_iload_n C dX8_setOpacity_39 rfl 1 rfl ?_
      refine r_iald C hR 11 (by decide) rfl j (show j < 40 by omega) (rfl) dX8_setOpacity_40 ?_
      refine m_i (y := ar 11 j) (rfl) ?_
      refine m_istore (L' := [(4, .int (ar 11 j)), (0, .ref o), (1, .int (nI j)), (2, .int f), (3, .int (bI h))]) C dX8_setOpacity_41 (by decide) rfl ?_
      refine m_aload_n C dX8_setOpacity_43 rfl 1 rfl ?_
      refine r_get C hR i8 11 (by decide) (by decide +kernel) rfl rfl dX8_setOpacity_44 ?_
      refine m_iload_n C dX8_setOpacity_47 rfl 2 rfl ?_
      refine m_iload_n C dX8_setOpacity_48 rfl 3 rfl ?_
      refine r_iast C hR 11 (by decide) rfl j (show j < 40 by omega) (rfl) dX8_setOpacity_49 (fun M hR => ?_)
      have hR := r_c17 (f := 11) (v := upd (ar 11) j f) (by decide) hR
      refine m_aload_n C dX8_setOpacity_50 rfl 1 rfl ?_
      refine r_get C hR i8 12 (by decide) (by decide +kernel) rfl rfl dX8_setOpacity_51 ?_
      refine m_iload_n C dX8_setOpacity_54 rfl 2 rfl ?_
      refine m_iload_n C dX8_setOpacity_55 rfl 4 rfl ?_
      refine r_zast C hR 12 (by decide) rfl j (show j < 40 by omega) (rfl) (bI_01 _) dX8_setOpacity_56 (fun M hR => ?_)
      have hR := r_c17 (f := 12) (v := upd (ar 12) j (bI h)) (by decide) hR
      refine m_iload C dX8_setOpacity_57 0 rfl ?_
      exact m_iret C (Nat.le_of_ble_eq_true rfl) (Nat.le_of_ble_eq_true rfl) dX8_setOpacity_59 (by rw [show k_setOpacity cm ar (nI j) f = 0 by simp [k_setOpacity, h1, hjc, h_1], if_pos rfl]; exact ⟨by rw [s_setOpacity, hjc]; exact hR, fun _ => by rw [hjc]⟩)
    · have h_1 := bI_z h_1
      refine m_aload_n C dX8_setOpacity_29 rfl 0 rfl ?_
      refine m_iconst (v := 2) C dX8_setOpacity_30 (by decide) ?_
      refine m_callVi (As := [.int 2]) (st := []) C hR.1 rfl (c_X8_fail D A l hR 2) (cwV 1 C.1.2.2.2.2 gX8_setOpacity_X8_fail rfl rfl rfl (by decide +kernel) ⟨Nat.le_of_ble_eq_true rfl, Nat.le_of_ble_eq_true rfl⟩) rfl rfl (Nat.le_of_ble_eq_true rfl) dX8_setOpacity_31 ⟨Nat.le_of_ble_eq_true rfl, Nat.le_of_ble_eq_true rfl⟩ (fun r M h => ?_)
      obtain ⟨rfl, hR⟩ := h
      exact m_iret C (Nat.le_of_ble_eq_true rfl) (Nat.le_of_ble_eq_true rfl) dX8_setOpacity_34 (by rw [show k_setOpacity cm ar (nI j) f = 2 by simp [k_setOpacity, h1, hjc, h_1], if_neg (by decide)]; exact ⟨hR, fun z => absurd z (by decide)⟩)
  · have h1 := bI_z h1
    refine m_aload_n C dX8_setOpacity_13 rfl 0 rfl ?_
    refine m_iconst (v := 1) C dX8_setOpacity_14 (by decide) ?_
    refine m_callVi (As := [.int 1]) (st := []) C hR.1 rfl (c_X8_fail D A l hR 1) (cwV 1 C.1.2.2.2.2 gX8_setOpacity_X8_fail rfl rfl rfl (by decide +kernel) ⟨Nat.le_of_ble_eq_true rfl, Nat.le_of_ble_eq_true rfl⟩) rfl rfl (Nat.le_of_ble_eq_true rfl) dX8_setOpacity_15 ⟨Nat.le_of_ble_eq_true rfl, Nat.le_of_ble_eq_true rfl⟩ (fun r M h => ?_)
    obtain ⟨rfl, hR⟩ := h
    exact m_iret C (Nat.le_of_ble_eq_true rfl) (Nat.le_of_ble_eq_true rfl) dX8_setOpacity_18 (by rw [show k_setOpacity cm ar v f = 1 by simp [k_setOpacity, h1], if_neg (by decide)]; exact ⟨hR, fun z => absurd z (by decide)⟩)
set_option maxHeartbeats 4000000 in
set_option maxRecDepth 100000 in
theorem c_X8_setGround (D : mD) (A : Nat → Prop) (l : Launch) {G : Nat → Nat} {o : Nat} {F : Mm} {t g u : Int32} {cm : Nat} {ar : rA} {od : Nat → Int32} {M : Mm} (hR : rW D G o F t (nI cm) g u (upA ar 17 od) M) (v : Int32) : mMi D A l yX8_setGround wsX8_setGround ({ frames := 2, cells := 0, slots := 0, locals := 60 } : Room) [.ref o, .int v] M (fun r M' => rW D G o F (k_setGround v) (nI cm) (if k_setGround v = 0 then v else g) u (upA ar 17 od) M' ∧ (k_setGround v = 0 → r = g)) 0 0 := by
  refine m_start (cc := cX8_setGround) (maxL := 3) (ret := (some .int)) (by decide) rfl (Nat.le_of_ble_eq_true rfl) ?_
  intro p e s m args below meth c C
  have i8 : ∀ w ∈ wsX80, w ∈ wsX8_setGround := by decide +kernel
  refine m_sub (L' := [(0, .ref o), (1, .int v)]) [0, 1] rfl ?_
  refine m_aload_n C dX8_setGround_0 rfl 0 rfl ?_
  refine m_iconst (v := 0) C dX8_setGround_1 (by decide) ?_
  refine r_putT C hR i8 (by decide +kernel) dX8_setGround_2 (fun M hR => ?_)
  refine m_iload_n C dX8_setGround_5 rfl 1 rfl ?_
  refine m_iconst (v := 0) C dX8_setGround_6 (by decide) ?_
  refine m_sipush (v := 255) C dX8_setGround_7 (by decide) ?_
  refine m_callSFi (As := [.int v, .int 0, .int 255]) (st := []) C (c_X8_isIn D A l M v 0 255) (va_cwS 3 C.1.2.2.2.2 gX8_setGround_X8_isIn rfl rfl rfl (by decide +kernel) ⟨Nat.le_of_ble_eq_true rfl, Nat.le_of_ble_eq_true rfl⟩) rfl rfl (Nat.le_of_ble_eq_true rfl) dX8_setGround_10 ⟨Nat.le_of_ble_eq_true rfl, Nat.le_of_ble_eq_true rfl⟩ ?_
  refine m_if_ne (tgt := 22) C dX8_setGround_13 (by decide) (fun h_1 => ?_) (fun h_1 => ?_)
  · have h_1 := bI_n h_1
    refine m_aload_n C dX8_setGround_22 rfl 0 rfl ?_
    refine r_get C hR i8 15 (by decide) (by decide +kernel) rfl rfl dX8_setGround_23 ?_
    refine m_istore_n (L' := [(2, .int g), (0, .ref o), (1, .int v)]) C dX8_setGround_26 rfl (by decide) rfl ?_
    refine m_aload_n C dX8_setGround_27 rfl 1 rfl ?_
    refine m_iload_n C dX8_setGround_28 rfl 2 rfl ?_
    refine r_putG C hR i8 (by decide +kernel) dX8_setGround_29 (fun M hR => ?_)
    refine m_iload_n C dX8_setGround_32 rfl 0 rfl ?_
    exact m_iret C (Nat.le_of_ble_eq_true rfl) (Nat.le_of_ble_eq_true rfl) dX8_setGround_33 (by rw [show k_setGround v = 0 by simp [k_setGround, h_1], if_pos rfl]; exact ⟨hR, fun _ => rfl⟩)
  · have h_1 := bI_z h_1
    refine m_aload_n C dX8_setGround_16 rfl 0 rfl ?_
    refine m_iconst (v := 1) C dX8_setGround_17 (by decide) ?_
    refine m_callVi (As := [.int 1]) (st := []) C hR.1 rfl (c_X8_fail D A l hR 1) (cwV 1 C.1.2.2.2.2 gX8_setGround_X8_fail rfl rfl rfl (by decide +kernel) ⟨Nat.le_of_ble_eq_true rfl, Nat.le_of_ble_eq_true rfl⟩) rfl rfl (Nat.le_of_ble_eq_true rfl) dX8_setGround_18 ⟨Nat.le_of_ble_eq_true rfl, Nat.le_of_ble_eq_true rfl⟩ (fun r M h => ?_)
    obtain ⟨rfl, hR⟩ := h
    exact m_iret C (Nat.le_of_ble_eq_true rfl) (Nat.le_of_ble_eq_true rfl) dX8_setGround_21 (by rw [show k_setGround v = 1 by simp [k_setGround, h_1], if_neg (by decide)]; exact ⟨hR, fun y => absurd y (by decide)⟩)
