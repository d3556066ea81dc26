/-! ===== the class: what is told of a node ===== -/
set_option maxHeartbeats 4000000 in
set_option maxRecDepth 100000 in
theorem c_X7_detail (D : mD) (A : Nat → Prop) (l : Launch) {Z : Nat → Nat} {F : Mm} {cm : Nat} {g : Int32} {ar : rA} {fi : Nat → Nat → Int32} {nl : Nat → Nat → Int64} {L : List Nat} {rw : Nat → Int32} {M : Mm} (hR : cS D Z F cm g ar fi nl L rw M) (hw : wf ar cm) (hb : BD ar cm) (hfv : FV ar cm fi) {n w9 : Nat} (hn : cP ar cm n) (h13 : w9 < 13) : mMi D A l yX7_detail wsX7_detail ({ frames := 5, cells := 0, slots := 0, locals := 280 } : Room) [.ref (Z (100 + n)), .int (nI w9)] M (fun r M' => M' = M ∧ r = q_tld ar (chn ar n) (plc ar n) n w9) 0 0 := by
  refine m_start (cc := cX7_detail) (maxL := 2) (ret := (some .int)) (by decide) rfl (Nat.le_of_ble_eq_true rfl) ?_
  intro p e s m args below meth c C
  have i_X3 : ∀ w ∈ wsX30, w ∈ wsX7_detail := by decide +kernel
  have iL : ∀ w ∈ wsJx4a65c0, w ∈ wsX7_detail := by decide +kernel
  have i_X4 : ∀ w ∈ wsX40, w ∈ wsX7_detail := by decide +kernel
  have i_X2 : ∀ w ∈ wsX20, w ∈ wsX7_detail := by decide +kernel
  have i_X6 : ∀ w ∈ wsX60, w ∈ wsX7_detail := by decide +kernel
  refine m_sub (L' := [(0, .ref (Z (100 + n))), (1, .int (nI w9))]) [0, 1] rfl ?_
  have hcm := hw.1.2
  rcases (show w9 = 0 ∨ w9 = 1 ∨ w9 = 2 ∨ w9 = 3 ∨ w9 = 4 ∨ w9 = 5 ∨ w9 = 6 ∨ w9 = 7 ∨ w9 = 8 ∨ w9 = 9 ∨ w9 = 10 ∨ w9 = 11 ∨ w9 = 12 by omega) with rfl | rfl | rfl | rfl | rfl | rfl | rfl | rfl | rfl | rfl | rfl | rfl | rfl
  · refine m_iload_n C dX7_detail_0 rfl 1 rfl ?_
    refine m_tableIn (tgt := 64) C dX7_detail_1 (by decide) (by decide) rfl (by decide) ?_
    refine m_aload_n C dX7_detail_64 rfl 0 rfl ?_
    refine m_get (ref := "PaintLayers$Node") C (hR.nd hn) rfl i_X3 1 (by decide) (by decide +kernel) (fun x h => h) (v := va_rf (nSh Z ar n)) rfl dX7_detail_65 ?_
    by_cases h3 : ar 3 n = 0
    · rw [show nSh Z ar n = none from if_pos h3]
      refine m_ifnonnull (x := none) (tgt := 75) C dX7_detail_68 (by decide) (fun q h => absurd h (by simp)) (fun _ => ?_)
      refine m_iconst (v := 0) C dX7_detail_71 (by decide) ?_
      refine m_goto (tgt := 82) C dX7_detail_72 (by decide) ?_
      exact m_iret C (Nat.le_of_ble_eq_true rfl) (Nat.le_of_ble_eq_true rfl) dX7_detail_82 (⟨rfl, h3.symm⟩)
    · rw [show nSh Z ar n = some (Z (400 + n)) from if_neg h3]
      refine m_ifnonnull (x := some (Z (400 + n))) (tgt := 75) C dX7_detail_68 (by decide) (fun _ _ => ?_) (fun h => absurd h (by simp))
      refine m_aload_n C dX7_detail_75 rfl 0 rfl ?_
      refine m_get (ref := "PaintLayers$Node") C (hR.nd hn) rfl i_X3 1 (by decide) (by decide +kernel) (fun x h => h) (v := va_rf (nSh Z ar n)) rfl dX7_detail_76 ?_
      rw [show nSh Z ar n = some (Z (400 + n)) from if_neg h3]
      rcases (hb n hn).2.1 with k3 | k3 | k3 | k3
      · exact absurd k3 h3
      · refine m_get (ref := "PaintLayers$Shape") C (hR.1.fr ((hR.2 n hn).1 k3).1) rfl i_X4 0 (by decide) (by decide +kernel) (fun x h => h) (v := .int 1) rfl dX7_detail_79 ?_
        exact m_iret C (Nat.le_of_ble_eq_true rfl) (Nat.le_of_ble_eq_true rfl) dX7_detail_82 (⟨rfl, k3.symm⟩)
      · refine m_get (ref := "PaintLayers$Shape") C (hR.1.fr ((hR.2 n hn).2.1 k3).1) rfl i_X2 0 (by decide) (by decide +kernel) (fun x h => h) (v := .int 2) rfl dX7_detail_79 ?_
        exact m_iret C (Nat.le_of_ble_eq_true rfl) (Nat.le_of_ble_eq_true rfl) dX7_detail_82 (⟨rfl, k3.symm⟩)
      · refine m_get (ref := "PaintLayers$Shape") C (hR.1.fr ((hR.2 n hn).2.2.1 k3).1) rfl i_X6 0 (by decide) (by decide +kernel) (fun x h => h) (v := .int 3) rfl dX7_detail_79 ?_
        exact m_iret C (Nat.le_of_ble_eq_true rfl) (Nat.le_of_ble_eq_true rfl) dX7_detail_82 (⟨rfl, k3.symm⟩)
  · refine m_iload_n C dX7_detail_0 rfl 1 rfl ?_
    refine m_tableIn (tgt := 83) C dX7_detail_1 (by decide) (by decide) rfl (by decide) ?_
    refine m_aload_n C dX7_detail_83 rfl 0 rfl ?_
    refine m_get (ref := "PaintLayers$Node") C (hR.nd hn) rfl i_X3 3 (by decide) (by decide +kernel) (fun x h => h) (v := va_rf (nPa Z ar n)) rfl dX7_detail_84 ?_
    by_cases h0 : n = 0
    · rw [show nPa Z ar n = none from if_pos h0]
      refine m_ifnonnull (x := none) (tgt := 94) C dX7_detail_87 (by decide) (fun q h => absurd h (by simp)) (fun _ => ?_)
      refine m_iconst (v := (-1)) C dX7_detail_90 (by decide) ?_
      refine m_goto (tgt := 101) C dX7_detail_91 (by decide) ?_
      exact m_iret C (Nat.le_of_ble_eq_true rfl) (Nat.le_of_ble_eq_true rfl) dX7_detail_101 (⟨rfl, by rw [h0]; exact hw.2.1.2.2.symm⟩)
    · have hpP : cP ar cm (par9 ar n) := (wf_chp hw hn.1 hn.2 h0).2
      rw [show nPa Z ar n = some (Z (100 + par9 ar n)) from if_neg h0]
      refine m_ifnonnull (x := some (Z (100 + par9 ar n))) (tgt := 94) C dX7_detail_87 (by decide) (fun _ _ => ?_) (fun h => absurd h (by simp))
      refine m_aload_n C dX7_detail_94 rfl 0 rfl ?_
      refine m_get (ref := "PaintLayers$Node") C (hR.nd hn) rfl i_X3 3 (by decide) (by decide +kernel) (fun x h => h) (v := va_rf (nPa Z ar n)) rfl dX7_detail_95 ?_
      rw [show nPa Z ar n = some (Z (100 + par9 ar n)) from if_neg h0]
      refine m_get (ref := "PaintLayers$Node") C (hR.nd hpP) rfl i_X3 0 (by decide) (by decide +kernel) (fun x h => h) (v := .int (nI (par9 ar n))) rfl dX7_detail_98 ?_
      exact m_iret C (Nat.le_of_ble_eq_true rfl) (Nat.le_of_ble_eq_true rfl) dX7_detail_101 (⟨rfl, (wf_place hw hn.1 hn.2 h0).2.1.symm⟩)
  · refine m_iload_n C dX7_detail_0 rfl 1 rfl ?_
    refine m_tableIn (tgt := 102) C dX7_detail_1 (by decide) (by decide) rfl (by decide) ?_
    refine m_aload_n C dX7_detail_102 rfl 0 rfl ?_
    refine m_get (ref := "PaintLayers$Node") C (hR.nd hn) rfl i_X3 3 (by decide) (by decide +kernel) (fun x h => h) (v := va_rf (nPa Z ar n)) rfl dX7_detail_103 ?_
    by_cases h0 : n = 0
    · rw [show nPa Z ar n = none from if_pos h0]
      refine m_ifnonnull (x := none) (tgt := 113) C dX7_detail_106 (by decide) (fun q h => absurd h (by simp)) (fun _ => ?_)
      refine m_iconst (v := 0) C dX7_detail_109 (by decide) ?_
      refine m_goto (tgt := 124) C dX7_detail_110 (by decide) ?_
      exact m_iret C (Nat.le_of_ble_eq_true rfl) (Nat.le_of_ble_eq_true rfl) dX7_detail_124 (⟨rfl, by rw [h0]; rfl⟩)
    · have hpP : cP ar cm (par9 ar n) := (wf_chp hw hn.1 hn.2 h0).2
      rw [show nPa Z ar n = some (Z (100 + par9 ar n)) from if_neg h0]
      refine m_ifnonnull (x := some (Z (100 + par9 ar n))) (tgt := 113) C dX7_detail_106 (by decide) (fun _ _ => ?_) (fun h => absurd h (by simp))
      refine m_aload_n C dX7_detail_113 rfl 0 rfl ?_
      refine m_get (ref := "PaintLayers$Node") C (hR.nd hn) rfl i_X3 3 (by decide) (by decide +kernel) (fun x h => h) (v := va_rf (nPa Z ar n)) rfl dX7_detail_114 ?_
      rw [show nPa Z ar n = some (Z (100 + par9 ar n)) from if_neg h0]
      refine m_get (ref := "PaintLayers$Node") C (hR.nd hpP) rfl i_X3 2 (by decide) (by decide +kernel) (fun x h => h) (v := .ref (Z (200 + (par9 ar n)))) rfl dX7_detail_117 ?_
      refine m_aload_n C dX7_detail_120 rfl 0 rfl ?_
      refine m_callSFi (As := [.ref (Z (200 + (par9 ar n))), .ref (Z (100 + n))]) (st := []) (v := nI (plc ar n)) C (by have h9 := c_X7_placeAmong D A l hR hcm hw hpP hn; rw [(q_pl_plc hw hn h0).1] at h9; exact h9) (va_cwS 2 C.1.2.2.2.2 gX7_detail_X7_placeAmong rfl rfl rfl (by decide +kernel) ⟨Nat.le_of_ble_eq_true rfl, Nat.le_of_ble_eq_true rfl⟩) rfl rfl (Nat.le_of_ble_eq_true rfl) dX7_detail_121 ⟨Nat.le_of_ble_eq_true rfl, Nat.le_of_ble_eq_true rfl⟩ ?_
      exact m_iret C (Nat.le_of_ble_eq_true rfl) (Nat.le_of_ble_eq_true rfl) dX7_detail_124 (⟨rfl, by show nI (plc ar n) = nI (if n = 0 then 0 else plc ar n); rw [if_neg h0]⟩)
  · refine m_iload_n C dX7_detail_0 rfl 1 rfl ?_
    refine m_tableIn (tgt := 125) C dX7_detail_1 (by decide) (by decide) rfl (by decide) ?_
    obtain ⟨b9, cap9, f9, mc9, h_a, hB, hcap, h60, hf9⟩ := hR.kd hcm hn
    refine m_aload_n C dX7_detail_125 rfl 0 rfl ?_
    refine m_get (ref := "PaintLayers$Node") C (hR.nd hn) rfl i_X3 2 (by decide) (by decide +kernel) (fun x h => h) (v := .ref (Z (200 + n))) rfl dX7_detail_126 ?_
    refine m_callVFi (As := []) (st := []) (v := nI (mny ar n)) C h_a rfl (c_Jx4a65c_size_8abf5 D A l h_a) (cwV 0 C.1.2.2.2.2 gX7_detail_Jx4a65c_size_8abf5 rfl rfl rfl (by decide +kernel) ⟨Nat.le_of_ble_eq_true rfl, Nat.le_of_ble_eq_true rfl⟩) rfl rfl (Nat.le_of_ble_eq_true rfl) dX7_detail_129 ⟨Nat.le_of_ble_eq_true rfl, Nat.le_of_ble_eq_true rfl⟩ ?_
    exact m_iret C (Nat.le_of_ble_eq_true rfl) (Nat.le_of_ble_eq_true rfl) dX7_detail_132 (⟨rfl, by obtain ⟨m, m1, m2, m3, -, -⟩ := wf_mny hw hn.1 hn.2; show nI (mny ar n) = ar 5 n; rw [m1, m3]⟩)
  · refine m_iload_n C dX7_detail_0 rfl 1 rfl ?_
    refine m_tableIn (tgt := 133) C dX7_detail_1 (by decide) (by decide) rfl (by decide) ?_
    refine m_aload_n C dX7_detail_133 rfl 0 rfl ?_
    refine m_get (ref := "PaintLayers$Node") C (hR.nd hn) rfl i_X3 4 (by decide) (by decide +kernel) (fun x h => h) (v := .int (ar 8 n)) rfl dX7_detail_134 ?_
    exact m_iret C (Nat.le_of_ble_eq_true rfl) (Nat.le_of_ble_eq_true rfl) dX7_detail_137 (⟨rfl, rfl⟩)
  · refine m_iload_n C dX7_detail_0 rfl 1 rfl ?_
    refine m_tableIn (tgt := 138) C dX7_detail_1 (by decide) (by decide) rfl (by decide) ?_
    refine m_aload_n C dX7_detail_138 rfl 0 rfl ?_
    refine m_get (ref := "PaintLayers$Node") C (hR.nd hn) rfl i_X3 5 (by decide) (by decide +kernel) (fun x h => h) (v := .int (ar 9 n)) rfl dX7_detail_139 ?_
    exact m_iret C (Nat.le_of_ble_eq_true rfl) (Nat.le_of_ble_eq_true rfl) dX7_detail_142 (⟨rfl, rfl⟩)
  · refine m_iload_n C dX7_detail_0 rfl 1 rfl ?_
    refine m_tableIn (tgt := 143) C dX7_detail_1 (by decide) (by decide) rfl (by decide) ?_
    refine m_aload_n C dX7_detail_143 rfl 0 rfl ?_
    refine m_get (ref := "PaintLayers$Node") C (hR.nd hn) rfl i_X3 6 (by decide) (by decide +kernel) (fun x h => h) (v := .int (ar 10 n)) rfl dX7_detail_144 ?_
    exact m_iret C (Nat.le_of_ble_eq_true rfl) (Nat.le_of_ble_eq_true rfl) dX7_detail_147 (⟨rfl, rfl⟩)
  · refine m_iload_n C dX7_detail_0 rfl 1 rfl ?_
    refine m_tableIn (tgt := 148) C dX7_detail_1 (by decide) (by decide) rfl (by decide) ?_
    refine m_aload_n C dX7_detail_148 rfl 0 rfl ?_
    refine m_get (ref := "PaintLayers$Node") C (hR.nd hn) rfl i_X3 13 (by decide) (by decide +kernel) (fun x h => h) (v := .int (fi 2 n)) rfl dX7_detail_149 ?_
    exact m_iret C (Nat.le_of_ble_eq_true rfl) (Nat.le_of_ble_eq_true rfl) dX7_detail_152 (⟨rfl, hfv n hn 2 (by decide)⟩)
  · refine m_iload_n C dX7_detail_0 rfl 1 rfl ?_
    refine m_tableIn (tgt := 153) C dX7_detail_1 (by decide) (by decide) rfl (by decide) ?_
    refine m_aload_n C dX7_detail_153 rfl 0 rfl ?_
    refine m_get (ref := "PaintLayers$Node") C (hR.nd hn) rfl i_X3 7 (by decide) (by decide +kernel) (fun x h => h) (v := .int (ar 11 n)) rfl dX7_detail_154 ?_
    exact m_iret C (Nat.le_of_ble_eq_true rfl) (Nat.le_of_ble_eq_true rfl) dX7_detail_157 (⟨rfl, rfl⟩)
  · refine m_iload_n C dX7_detail_0 rfl 1 rfl ?_
    refine m_tableIn (tgt := 158) C dX7_detail_1 (by decide) (by decide) rfl (by decide) ?_
    refine m_aload_n C dX7_detail_158 rfl 0 rfl ?_
    refine m_get (ref := "PaintLayers$Node") C (hR.nd hn) rfl i_X3 14 (by decide) (by decide +kernel) (fun x h => h) (v := .int (fi 3 n)) rfl dX7_detail_159 ?_
    exact m_iret C (Nat.le_of_ble_eq_true rfl) (Nat.le_of_ble_eq_true rfl) dX7_detail_162 (⟨rfl, hfv n hn 3 (by decide)⟩)
  · refine m_iload_n C dX7_detail_0 rfl 1 rfl ?_
    refine m_tableIn (tgt := 163) C dX7_detail_1 (by decide) (by decide) rfl (by decide) ?_
    refine m_aload_n C dX7_detail_163 rfl 0 rfl ?_
    refine m_get (ref := "PaintLayers$Node") C (hR.nd hn) rfl i_X3 15 (by decide) (by decide +kernel) (fun x h => h) (v := .int (fi 4 n)) rfl dX7_detail_164 ?_
    exact m_iret C (Nat.le_of_ble_eq_true rfl) (Nat.le_of_ble_eq_true rfl) dX7_detail_167 (⟨rfl, hfv n hn 4 (by decide)⟩)
  · refine m_iload_n C dX7_detail_0 rfl 1 rfl ?_
    refine m_tableIn (tgt := 168) C dX7_detail_1 (by decide) (by decide) rfl (by decide) ?_
    refine m_aload_n C dX7_detail_168 rfl 0 rfl ?_
    refine m_get (ref := "PaintLayers$Node") C (hR.nd hn) rfl i_X3 10 (by decide) (by decide +kernel) (fun x h => h) (v := va_rf (nCl Z ar n)) rfl dX7_detail_169 ?_
    by_cases hc : 0 < ar 14 (4 * n + 2)
    · rw [show nCl Z ar n = some (Z (900 + n)) from if_pos hc]
      refine m_ifnonnull (x := some (Z (900 + n))) (tgt := 179) C dX7_detail_172 (by decide) (fun _ _ => ?_) (fun h => absurd h (by simp))
      refine m_iconst (v := 1) C dX7_detail_179 (by decide) ?_
      exact m_iret C (Nat.le_of_ble_eq_true rfl) (Nat.le_of_ble_eq_true rfl) dX7_detail_180 (⟨rfl, (if_pos hc).symm⟩)
    · rw [show nCl Z ar n = none from if_neg hc]
      refine m_ifnonnull (x := none) (tgt := 179) C dX7_detail_172 (by decide) (fun q h => absurd h (by simp)) (fun _ => ?_)
      refine m_iconst (v := 0) C dX7_detail_175 (by decide) ?_
      refine m_goto (tgt := 180) C dX7_detail_176 (by decide) ?_
      exact m_iret C (Nat.le_of_ble_eq_true rfl) (Nat.le_of_ble_eq_true rfl) dX7_detail_180 (⟨rfl, (if_neg hc).symm⟩)
  · refine m_iload_n C dX7_detail_0 rfl 1 rfl ?_
    refine m_tableOut (tgt := 181) C dX7_detail_1 (by decide) (by decide) ?_
    refine m_aload_n C dX7_detail_181 rfl 0 rfl ?_
    refine m_get (ref := "PaintLayers$Node") C (hR.nd hn) rfl i_X3 9 (by decide) (by decide +kernel) (fun x h => h) (v := .int (ar 13 n)) rfl dX7_detail_182 ?_
    refine m_if_eq (tgt := 192) C dX7_detail_185 (by decide) (fun h_1 => ?_) (fun h_1 => ?_)
    · refine m_iconst (v := 0) C dX7_detail_192 (by decide) ?_
      exact m_iret C (Nat.le_of_ble_eq_true rfl) (Nat.le_of_ble_eq_true rfl) dX7_detail_193 (⟨rfl, (if_neg (fun z => z h_1)).symm⟩)
    · refine m_iconst (v := 1) C dX7_detail_188 (by decide) ?_
      refine m_goto (tgt := 193) C dX7_detail_189 (by decide) ?_
      exact m_iret C (Nat.le_of_ble_eq_true rfl) (Nat.le_of_ble_eq_true rfl) dX7_detail_193 (⟨rfl, (if_pos h_1).symm⟩)

