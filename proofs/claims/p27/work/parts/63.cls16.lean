/-! ===== the class: inherit ===== -/
set_option maxHeartbeats 4000000 in
set_option maxRecDepth 100000 in
theorem c_X3_inherit (D : mD) (A : Nat → Prop) (l : Launch) {Z : Nat → Nat} {F : Mm} {cm : Nat} {g : Int32} {ar : rA} {fi : Nat → Nat → Int32} {nl : Nat → Nat → Int64} {L : List Nat} {rw : Nat → Int32} {M : Mm} (hR : cS D Z F cm g ar fi nl L rw M) (hcm : cm ≤ 40) (hw : wf ar cm) {n : Nat} (hn : cP ar cm n) : mMv D A l yX3_inherit wsX3_inherit ({ frames := 0, cells := 0, slots := 0, locals := 0 } : Room) [.ref (Z (100 + n))] M (fun M' => ∃ fi' : Nat → Nat → Int32, cS D Z F cm g ar fi' nl L rw M' ∧ (∀ i m, m ≠ n → fi' i m = fi i m) ∧ fi' 0 n = q_inh ar fi n 0 ∧ fi' 1 n = q_inh ar fi n 1 ∧ fi' 2 n = q_inh ar fi n 2 ∧ fi' 3 n = q_inh ar fi n 3 ∧ fi' 4 n = q_inh ar fi n 4) 0 0 := by
  refine m_start (cc := cX3_inherit) (maxL := 4) (ret := none) (by decide) rfl (Nat.le_of_ble_eq_true rfl) ?_
  intro p e s m args below meth c C
  have i_X3 : ∀ w ∈ wsX30, w ∈ wsX3_inherit := by decide +kernel
  refine m_sub (L' := [(0, .ref (Z (100 + n)))]) [0] rfl ?_
  refine m_aload_n C dX3_inherit_0 rfl 0 rfl ?_
  refine m_get (ref := "PaintLayers$Node") C (hR.nd hn) rfl i_X3 3 (by decide) (by decide +kernel) (fun x h => h) (v := va_rf (nPa Z ar n)) rfl dX3_inherit_1 ?_
  by_cases h0 : n = 0
  · rw [show nPa Z ar n = none from if_pos h0]
    refine m_astore_nq (x := none) (L' := [(1, .null), (0, .ref (Z (100 + n)))]) C dX3_inherit_4 rfl (by decide) rfl ?_
    refine m_aload_n C dX3_inherit_5 rfl 1 rfl ?_
    refine m_aload_nq (x := none) C dX3_inherit_6 rfl 0 rfl ?_
    refine m_ifnonnull (x := none) (tgt := 17) C dX3_inherit_7 (by decide) (fun q h => absurd h (by simp)) (fun _ => ?_)
    refine m_aload_n C dX3_inherit_10 rfl 1 rfl ?_
    refine m_get (ref := "PaintLayers$Node") C (hR.nd hn) rfl i_X3 4 (by decide) (by decide +kernel) (fun x h => h) (v := .int (ar 8 n)) rfl dX3_inherit_11 ?_
    refine m_goto (tgt := 26) C dX3_inherit_14 (by decide) ?_
    refine m_put (ref := "PaintLayers$Node") C (hR.nd hn) rfl i_X3 tyX3 tyX3_ok nmX3 11 (by decide) (by decide +kernel) (fun x h => h) rfl rfl rfl (Nat.le_of_ble_eq_true rfl) (e' := .inr (6, nF Z ar (fi1 fi 0 n (ar 8 n)) nl n)) (congrArg (fun l9 : List Value => (.inr (6, l9) : va_E)) nF_sf0) dX3_inherit_26 ?_
    have hR9 := hR.sfi hn 0 (ar 8 n)
    revert hR9
    generalize m_up M _ _ = M
    intro hR
    obtain ⟨fj0, efj0⟩ : ∃ z : Nat → Nat → Int32, z = fi1 fi 0 n (ar 8 n) := ⟨_, rfl⟩
    rw [← efj0] at hR
    refine m_aload_n C dX3_inherit_29 rfl 1 rfl ?_
    refine m_aload_nq (x := none) C dX3_inherit_30 rfl 0 rfl ?_
    refine m_ifnonnull (x := none) (tgt := 41) C dX3_inherit_31 (by decide) (fun q h => absurd h (by simp)) (fun _ => ?_)
    refine m_aload_n C dX3_inherit_34 rfl 1 rfl ?_
    refine m_get (ref := "PaintLayers$Node") C (hR.nd hn) rfl i_X3 5 (by decide) (by decide +kernel) (fun x h => h) (v := .int (ar 9 n)) rfl dX3_inherit_35 ?_
    refine m_goto (tgt := 50) C dX3_inherit_38 (by decide) ?_
    refine m_put (ref := "PaintLayers$Node") C (hR.nd hn) rfl i_X3 tyX3 tyX3_ok nmX3 12 (by decide) (by decide +kernel) (fun x h => h) rfl rfl rfl (Nat.le_of_ble_eq_true rfl) (e' := .inr (6, nF Z ar (fi1 fj0 1 n (ar 9 n)) nl n)) (congrArg (fun l9 : List Value => (.inr (6, l9) : va_E)) nF_sf1) dX3_inherit_50 ?_
    have hR9 := hR.sfi hn 1 (ar 9 n)
    revert hR9
    generalize m_up M _ _ = M
    intro hR
    obtain ⟨fj1, efj1⟩ : ∃ z : Nat → Nat → Int32, z = fi1 fj0 1 n (ar 9 n) := ⟨_, rfl⟩
    rw [← efj1] at hR
    refine m_aload_n C dX3_inherit_53 rfl 1 rfl ?_
    refine m_aload_nq (x := none) C dX3_inherit_54 rfl 0 rfl ?_
    refine m_ifnonnull (x := none) (tgt := 63) C dX3_inherit_55 (by decide) (fun q h => absurd h (by simp)) (fun _ => ?_)
    refine m_bipush (v := 8) C dX3_inherit_58 (by decide) ?_
    refine m_goto (tgt := 67) C dX3_inherit_60 (by decide) ?_
    refine m_aload_n C dX3_inherit_67 rfl 1 rfl ?_
    refine m_get (ref := "PaintLayers$Node") C (hR.nd hn) rfl i_X3 7 (by decide) (by decide +kernel) (fun x h => h) (v := .int (ar 11 n)) rfl dX3_inherit_68 ?_
    refine m_imul C dX3_inherit_71 ?_
    refine m_bipush (v := 8) C dX3_inherit_72 (by decide) ?_
    refine m_idiv C dX3_inherit_74 (by decide) ?_
    refine m_put (ref := "PaintLayers$Node") C (hR.nd hn) rfl i_X3 tyX3 tyX3_ok nmX3 14 (by decide) (by decide +kernel) (fun x h => h) rfl rfl rfl (Nat.le_of_ble_eq_true rfl) (e' := .inr (6, nF Z ar (fi1 fj1 3 n ((8 * (ar 11 n)) / 8)) nl n)) (congrArg (fun l9 : List Value => (.inr (6, l9) : va_E)) nF_sf3) dX3_inherit_75 ?_
    have hR9 := hR.sfi hn 3 ((8 * (ar 11 n)) / 8)
    revert hR9
    generalize m_up M _ _ = M
    intro hR
    obtain ⟨fj3, efj3⟩ : ∃ z : Nat → Nat → Int32, z = fi1 fj1 3 n ((8 * (ar 11 n)) / 8) := ⟨_, rfl⟩
    rw [← efj3] at hR
    refine m_aload_nq (x := none) C dX3_inherit_78 rfl 0 rfl ?_
    refine m_ifnonnull (x := none) (tgt := 88) C dX3_inherit_79 (by decide) (fun q h => absurd h (by simp)) (fun _ => ?_)
    refine m_sipush (v := 255) C dX3_inherit_82 (by decide) ?_
    refine m_goto (tgt := 92) C dX3_inherit_85 (by decide) ?_
    refine m_istore_n (L' := [(2, .int 255), (1, .null), (0, .ref (Z (100 + n)))]) C dX3_inherit_92 rfl (by decide) rfl ?_
    refine m_aload_n C dX3_inherit_93 rfl 2 rfl ?_
    refine m_aload_n C dX3_inherit_94 rfl 2 rfl ?_
    refine m_get (ref := "PaintLayers$Node") C (hR.nd hn) rfl i_X3 6 (by decide) (by decide +kernel) (fun x h => h) (v := .int (ar 10 n)) rfl dX3_inherit_95 ?_
    refine m_iconst (v := (-1)) C dX3_inherit_98 (by decide) ?_
    refine m_icmp_ne (tgt := 106) C dX3_inherit_99 (by decide) (fun h_1 => ?_) (fun h_1 => ?_)
    · refine m_aload_n C dX3_inherit_106 rfl 2 rfl ?_
      refine m_get (ref := "PaintLayers$Node") C (hR.nd hn) rfl i_X3 6 (by decide) (by decide +kernel) (fun x h => h) (v := .int (ar 10 n)) rfl dX3_inherit_107 ?_
      refine m_put (ref := "PaintLayers$Node") C (hR.nd hn) rfl i_X3 tyX3 tyX3_ok nmX3 13 (by decide) (by decide +kernel) (fun x h => h) rfl rfl rfl (Nat.le_of_ble_eq_true rfl) (e' := .inr (6, nF Z ar (fi1 fj3 2 n (ar 10 n)) nl n)) (congrArg (fun l9 : List Value => (.inr (6, l9) : va_E)) nF_sf2) dX3_inherit_110 ?_
      have hR9 := hR.sfi hn 2 (ar 10 n)
      revert hR9
      generalize m_up M _ _ = M
      intro hR
      obtain ⟨fj2, efj2⟩ : ∃ z : Nat → Nat → Int32, z = fi1 fj3 2 n (ar 10 n) := ⟨_, rfl⟩
      rw [← efj2] at hR
      refine m_aload_nq (x := none) C dX3_inherit_113 rfl 1 rfl ?_
      refine m_ifnull (x := none) (tgt := 124) C dX3_inherit_114 (by decide) (fun _ => ?_) (fun q h => absurd h (by simp))
      refine m_iconst (v := 0) C dX3_inherit_124 (by decide) ?_
      refine m_goto (tgt := 129) C dX3_inherit_125 (by decide) ?_
      refine m_istore_n (L' := [(3, .int 0), (2, .int 255), (1, .null), (0, .ref (Z (100 + n)))]) C dX3_inherit_129 rfl (by decide) rfl ?_
      refine m_aload_n C dX3_inherit_130 rfl 3 rfl ?_
      refine m_aload_n C dX3_inherit_131 rfl 3 rfl ?_
      refine m_get (ref := "PaintLayers$Node") C (hR.nd hn) rfl i_X3 8 (by decide) (by decide +kernel) (fun x h => h) (v := .int (ar 12 n)) rfl dX3_inherit_132 ?_
      refine m_if_eq (tgt := 142) C dX3_inherit_135 (by decide) (fun h_2 => ?_) (fun h_2 => ?_)
      · refine m_iload_n C dX3_inherit_142 rfl 0 rfl ?_
        refine m_put (ref := "PaintLayers$Node") C (hR.nd hn) rfl i_X3 tyX3 tyX3_ok nmX3 15 (by decide) (by decide +kernel) (fun x h => h) rfl rfl rfl (Nat.le_of_ble_eq_true rfl) (e' := .inr (6, nF Z ar (fi1 fj2 4 n 0) nl n)) (congrArg (fun l9 : List Value => (.inr (6, l9) : va_E)) nF_sf4) dX3_inherit_143 ?_
        have hR9 := hR.sfi hn 4 0
        revert hR9
        generalize m_up M _ _ = M
        intro hR
        obtain ⟨fj4, efj4⟩ : ∃ z : Nat → Nat → Int32, z = fi1 fj2 4 n 0 := ⟨_, rfl⟩
        rw [← efj4] at hR
        exact m_vret C (Nat.le_of_ble_eq_true rfl) (Nat.le_of_ble_eq_true rfl) dX3_inherit_146 (⟨fj4, hR, fun i m hm => by rw [efj4, fi1_o hm, efj2, fi1_o hm, efj3, fi1_o hm, efj1, fi1_o hm, efj0, fi1_o hm], by rw [efj4, fi1_j (show 0 ≠ 4 by decide), efj2, fi1_j (show 0 ≠ 2 by decide), efj3, fi1_j (show 0 ≠ 3 by decide), efj1, fi1_j (show 0 ≠ 1 by decide), efj0, fi1_s, q_inh]; simp [if_pos h0, h_1, h_2], by rw [efj4, fi1_j (show 1 ≠ 4 by decide), efj2, fi1_j (show 1 ≠ 2 by decide), efj3, fi1_j (show 1 ≠ 3 by decide), efj1, fi1_s, q_inh]; simp [if_pos h0, h_1, h_2], by rw [efj4, fi1_j (show 2 ≠ 4 by decide), efj2, fi1_s, q_inh]; simp [if_pos h0, h_1, h_2], by rw [efj4, fi1_j (show 3 ≠ 4 by decide), efj2, fi1_j (show 3 ≠ 2 by decide), efj3, fi1_s, q_inh]; simp [if_pos h0, h_1, h_2], by rw [efj4, fi1_s, q_inh]; simp [if_pos h0, h_1, h_2]⟩)
      · refine m_iconst (v := 1) C dX3_inherit_138 (by decide) ?_
        refine m_goto (tgt := 143) C dX3_inherit_139 (by decide) ?_
        refine m_put (ref := "PaintLayers$Node") C (hR.nd hn) rfl i_X3 tyX3 tyX3_ok nmX3 15 (by decide) (by decide +kernel) (fun x h => h) rfl rfl rfl (Nat.le_of_ble_eq_true rfl) (e' := .inr (6, nF Z ar (fi1 fj2 4 n 1) nl n)) (congrArg (fun l9 : List Value => (.inr (6, l9) : va_E)) nF_sf4) dX3_inherit_143 ?_
        have hR9 := hR.sfi hn 4 1
        revert hR9
        generalize m_up M _ _ = M
        intro hR
        obtain ⟨fj4, efj4⟩ : ∃ z : Nat → Nat → Int32, z = fi1 fj2 4 n 1 := ⟨_, rfl⟩
        rw [← efj4] at hR
        exact m_vret C (Nat.le_of_ble_eq_true rfl) (Nat.le_of_ble_eq_true rfl) dX3_inherit_146 (⟨fj4, hR, fun i m hm => by rw [efj4, fi1_o hm, efj2, fi1_o hm, efj3, fi1_o hm, efj1, fi1_o hm, efj0, fi1_o hm], by rw [efj4, fi1_j (show 0 ≠ 4 by decide), efj2, fi1_j (show 0 ≠ 2 by decide), efj3, fi1_j (show 0 ≠ 3 by decide), efj1, fi1_j (show 0 ≠ 1 by decide), efj0, fi1_s, q_inh]; simp [if_pos h0, h_1, h_2], by rw [efj4, fi1_j (show 1 ≠ 4 by decide), efj2, fi1_j (show 1 ≠ 2 by decide), efj3, fi1_j (show 1 ≠ 3 by decide), efj1, fi1_s, q_inh]; simp [if_pos h0, h_1, h_2], by rw [efj4, fi1_j (show 2 ≠ 4 by decide), efj2, fi1_s, q_inh]; simp [if_pos h0, h_1, h_2], by rw [efj4, fi1_j (show 3 ≠ 4 by decide), efj2, fi1_j (show 3 ≠ 2 by decide), efj3, fi1_s, q_inh]; simp [if_pos h0, h_1, h_2], by rw [efj4, fi1_s, q_inh]; simp [if_pos h0, h_1, h_2]⟩)
    · refine m_iload_n C dX3_inherit_102 rfl 0 rfl ?_
      refine m_goto (tgt := 110) C dX3_inherit_103 (by decide) ?_
      refine m_put (ref := "PaintLayers$Node") C (hR.nd hn) rfl i_X3 tyX3 tyX3_ok nmX3 13 (by decide) (by decide +kernel) (fun x h => h) rfl rfl rfl (Nat.le_of_ble_eq_true rfl) (e' := .inr (6, nF Z ar (fi1 fj3 2 n 255) nl n)) (congrArg (fun l9 : List Value => (.inr (6, l9) : va_E)) nF_sf2) dX3_inherit_110 ?_
      have hR9 := hR.sfi hn 2 255
      revert hR9
      generalize m_up M _ _ = M
      intro hR
      obtain ⟨fj2, efj2⟩ : ∃ z : Nat → Nat → Int32, z = fi1 fj3 2 n 255 := ⟨_, rfl⟩
      rw [← efj2] at hR
      refine m_aload_nq (x := none) C dX3_inherit_113 rfl 1 rfl ?_
      refine m_ifnull (x := none) (tgt := 124) C dX3_inherit_114 (by decide) (fun _ => ?_) (fun q h => absurd h (by simp))
      refine m_iconst (v := 0) C dX3_inherit_124 (by decide) ?_
      refine m_goto (tgt := 129) C dX3_inherit_125 (by decide) ?_
      refine m_istore_n (L' := [(3, .int 0), (2, .int 255), (1, .null), (0, .ref (Z (100 + n)))]) C dX3_inherit_129 rfl (by decide) rfl ?_
      refine m_aload_n C dX3_inherit_130 rfl 3 rfl ?_
      refine m_aload_n C dX3_inherit_131 rfl 3 rfl ?_
      refine m_get (ref := "PaintLayers$Node") C (hR.nd hn) rfl i_X3 8 (by decide) (by decide +kernel) (fun x h => h) (v := .int (ar 12 n)) rfl dX3_inherit_132 ?_
      refine m_if_eq (tgt := 142) C dX3_inherit_135 (by decide) (fun h_3 => ?_) (fun h_3 => ?_)
      · refine m_iload_n C dX3_inherit_142 rfl 0 rfl ?_
        refine m_put (ref := "PaintLayers$Node") C (hR.nd hn) rfl i_X3 tyX3 tyX3_ok nmX3 15 (by decide) (by decide +kernel) (fun x h => h) rfl rfl rfl (Nat.le_of_ble_eq_true rfl) (e' := .inr (6, nF Z ar (fi1 fj2 4 n 0) nl n)) (congrArg (fun l9 : List Value => (.inr (6, l9) : va_E)) nF_sf4) dX3_inherit_143 ?_
        have hR9 := hR.sfi hn 4 0
        revert hR9
        generalize m_up M _ _ = M
        intro hR
        obtain ⟨fj4, efj4⟩ : ∃ z : Nat → Nat → Int32, z = fi1 fj2 4 n 0 := ⟨_, rfl⟩
        rw [← efj4] at hR
        exact m_vret C (Nat.le_of_ble_eq_true rfl) (Nat.le_of_ble_eq_true rfl) dX3_inherit_146 (⟨fj4, hR, fun i m hm => by rw [efj4, fi1_o hm, efj2, fi1_o hm, efj3, fi1_o hm, efj1, fi1_o hm, efj0, fi1_o hm], by rw [efj4, fi1_j (show 0 ≠ 4 by decide), efj2, fi1_j (show 0 ≠ 2 by decide), efj3, fi1_j (show 0 ≠ 3 by decide), efj1, fi1_j (show 0 ≠ 1 by decide), efj0, fi1_s, q_inh]; simp [if_pos h0, h_1, h_3], by rw [efj4, fi1_j (show 1 ≠ 4 by decide), efj2, fi1_j (show 1 ≠ 2 by decide), efj3, fi1_j (show 1 ≠ 3 by decide), efj1, fi1_s, q_inh]; simp [if_pos h0, h_1, h_3], by rw [efj4, fi1_j (show 2 ≠ 4 by decide), efj2, fi1_s, q_inh]; simp [if_pos h0, h_1, h_3], by rw [efj4, fi1_j (show 3 ≠ 4 by decide), efj2, fi1_j (show 3 ≠ 2 by decide), efj3, fi1_s, q_inh]; simp [if_pos h0, h_1, h_3], by rw [efj4, fi1_s, q_inh]; simp [if_pos h0, h_1, h_3]⟩)
      · refine m_iconst (v := 1) C dX3_inherit_138 (by decide) ?_
        refine m_goto (tgt := 143) C dX3_inherit_139 (by decide) ?_
        refine m_put (ref := "PaintLayers$Node") C (hR.nd hn) rfl i_X3 tyX3 tyX3_ok nmX3 15 (by decide) (by decide +kernel) (fun x h => h) rfl rfl rfl (Nat.le_of_ble_eq_true rfl) (e' := .inr (6, nF Z ar (fi1 fj2 4 n 1) nl n)) (congrArg (fun l9 : List Value => (.inr (6, l9) : va_E)) nF_sf4) dX3_inherit_143 ?_
        have hR9 := hR.sfi hn 4 1
        revert hR9
        generalize m_up M _ _ = M
        intro hR
        obtain ⟨fj4, efj4⟩ : ∃ z : Nat → Nat → Int32, z = fi1 fj2 4 n 1 := ⟨_, rfl⟩
        rw [← efj4] at hR
        exact m_vret C (Nat.le_of_ble_eq_true rfl) (Nat.le_of_ble_eq_true rfl) dX3_inherit_146 (⟨fj4, hR, fun i m hm => by rw [efj4, fi1_o hm, efj2, fi1_o hm, efj3, fi1_o hm, efj1, fi1_o hm, efj0, fi1_o hm], by rw [efj4, fi1_j (show 0 ≠ 4 by decide), efj2, fi1_j (show 0 ≠ 2 by decide), efj3, fi1_j (show 0 ≠ 3 by decide), efj1, fi1_j (show 0 ≠ 1 by decide), efj0, fi1_s, q_inh]; simp [if_pos h0, h_1, h_3], by rw [efj4, fi1_j (show 1 ≠ 4 by decide), efj2, fi1_j (show 1 ≠ 2 by decide), efj3, fi1_j (show 1 ≠ 3 by decide), efj1, fi1_s, q_inh]; simp [if_pos h0, h_1, h_3], by rw [efj4, fi1_j (show 2 ≠ 4 by decide), efj2, fi1_s, q_inh]; simp [if_pos h0, h_1, h_3], by rw [efj4, fi1_j (show 3 ≠ 4 by decide), efj2, fi1_j (show 3 ≠ 2 by decide), efj3, fi1_s, q_inh]; simp [if_pos h0, h_1, h_3], by rw [efj4, fi1_s, q_inh]; simp [if_pos h0, h_1, h_3]⟩)
  · obtain ⟨hch, hp1, hp2⟩ := wf_chp hw hn.1 hn.2 h0
    have hq : cP ar cm (par9 ar n) := ⟨hp1, hp2⟩
    have hpn : par9 ar n ≠ n := fun z => by have := wf_nd hw hn.1 hn.2; rw [hch, z] at this; exact (List.nodup_cons.mp this).1 (wf_self hw hn.1 hn.2)
    rw [show nPa Z ar n = some (Z (100 + par9 ar n)) from if_neg h0]
    refine m_astore_n (L' := [(1, .ref (Z (100 + par9 ar n))), (0, .ref (Z (100 + n)))]) C dX3_inherit_4 rfl (by decide) rfl ?_
    refine m_aload_n C dX3_inherit_5 rfl 1 rfl ?_
    refine m_aload_n C dX3_inherit_6 rfl 0 rfl ?_
    refine m_ifnonnull (x := some (Z (100 + par9 ar n))) (tgt := 17) C dX3_inherit_7 (by decide) (fun _ _ => ?_) (fun h => absurd h (by simp))
    refine m_aload_n C dX3_inherit_17 rfl 0 rfl ?_
    refine m_get (ref := "PaintLayers$Node") C (hR.nd hq) rfl i_X3 11 (by decide) (by decide +kernel) (fun x h => h) (v := .int (fi 0 (par9 ar n))) rfl dX3_inherit_18 ?_
    refine m_aload_n C dX3_inherit_21 rfl 1 rfl ?_
    refine m_get (ref := "PaintLayers$Node") C (hR.nd hn) rfl i_X3 4 (by decide) (by decide +kernel) (fun x h => h) (v := .int (ar 8 n)) rfl dX3_inherit_22 ?_
    refine m_iadd C dX3_inherit_25 ?_
    refine m_put (ref := "PaintLayers$Node") C (hR.nd hn) rfl i_X3 tyX3 tyX3_ok nmX3 11 (by decide) (by decide +kernel) (fun x h => h) rfl rfl rfl (Nat.le_of_ble_eq_true rfl) (e' := .inr (6, nF Z ar (fi1 fi 0 n ((fi 0 (par9 ar n)) + (ar 8 n))) nl n)) (congrArg (fun l9 : List Value => (.inr (6, l9) : va_E)) nF_sf0) dX3_inherit_26 ?_
    have hR9 := hR.sfi hn 0 ((fi 0 (par9 ar n)) + (ar 8 n))
    revert hR9
    generalize m_up M _ _ = M
    intro hR
    obtain ⟨fj0, efj0⟩ : ∃ z : Nat → Nat → Int32, z = fi1 fi 0 n ((fi 0 (par9 ar n)) + (ar 8 n)) := ⟨_, rfl⟩
    rw [← efj0] at hR
    refine m_aload_n C dX3_inherit_29 rfl 1 rfl ?_
    refine m_aload_n C dX3_inherit_30 rfl 0 rfl ?_
    refine m_ifnonnull (x := some (Z (100 + par9 ar n))) (tgt := 41) C dX3_inherit_31 (by decide) (fun _ _ => ?_) (fun h => absurd h (by simp))
    refine m_aload_n C dX3_inherit_41 rfl 0 rfl ?_
    refine m_get (ref := "PaintLayers$Node") C (hR.nd hq) rfl i_X3 12 (by decide) (by decide +kernel) (fun x h => h) (v := .int (fj0 1 (par9 ar n))) rfl dX3_inherit_42 ?_
    refine m_i (y := fi 1 (par9 ar n)) (by rw [efj0, fi1_o hpn]) ?_
    refine m_aload_n C dX3_inherit_45 rfl 1 rfl ?_
    refine m_get (ref := "PaintLayers$Node") C (hR.nd hn) rfl i_X3 5 (by decide) (by decide +kernel) (fun x h => h) (v := .int (ar 9 n)) rfl dX3_inherit_46 ?_
    refine m_iadd C dX3_inherit_49 ?_
    refine m_put (ref := "PaintLayers$Node") C (hR.nd hn) rfl i_X3 tyX3 tyX3_ok nmX3 12 (by decide) (by decide +kernel) (fun x h => h) rfl rfl rfl (Nat.le_of_ble_eq_true rfl) (e' := .inr (6, nF Z ar (fi1 fj0 1 n ((fi 1 (par9 ar n)) + (ar 9 n))) nl n)) (congrArg (fun l9 : List Value => (.inr (6, l9) : va_E)) nF_sf1) dX3_inherit_50 ?_
    have hR9 := hR.sfi hn 1 ((fi 1 (par9 ar n)) + (ar 9 n))
    revert hR9
    generalize m_up M _ _ = M
    intro hR
    obtain ⟨fj1, efj1⟩ : ∃ z : Nat → Nat → Int32, z = fi1 fj0 1 n ((fi 1 (par9 ar n)) + (ar 9 n)) := ⟨_, rfl⟩
    rw [← efj1] at hR
    refine m_aload_n C dX3_inherit_53 rfl 1 rfl ?_
    refine m_aload_n C dX3_inherit_54 rfl 0 rfl ?_
    refine m_ifnonnull (x := some (Z (100 + par9 ar n))) (tgt := 63) C dX3_inherit_55 (by decide) (fun _ _ => ?_) (fun h => absurd h (by simp))
    refine m_aload_n C dX3_inherit_63 rfl 0 rfl ?_
    refine m_get (ref := "PaintLayers$Node") C (hR.nd hq) rfl i_X3 14 (by decide) (by decide +kernel) (fun x h => h) (v := .int (fj1 3 (par9 ar n))) rfl dX3_inherit_64 ?_
    refine m_i (y := fi 3 (par9 ar n)) (by rw [efj1, fi1_o hpn, efj0, fi1_o hpn]) ?_
    refine m_aload_n C dX3_inherit_67 rfl 1 rfl ?_
    refine m_get (ref := "PaintLayers$Node") C (hR.nd hn) rfl i_X3 7 (by decide) (by decide +kernel) (fun x h => h) (v := .int (ar 11 n)) rfl dX3_inherit_68 ?_
    refine m_imul C dX3_inherit_71 ?_
    refine m_bipush (v := 8) C dX3_inherit_72 (by decide) ?_
    refine m_idiv C dX3_inherit_74 (by decide) ?_
    refine m_put (ref := "PaintLayers$Node") C (hR.nd hn) rfl i_X3 tyX3 tyX3_ok nmX3 14 (by decide) (by decide +kernel) (fun x h => h) rfl rfl rfl (Nat.le_of_ble_eq_true rfl) (e' := .inr (6, nF Z ar (fi1 fj1 3 n (((fi 3 (par9 ar n)) * (ar 11 n)) / 8)) nl n)) (congrArg (fun l9 : List Value => (.inr (6, l9) : va_E)) nF_sf3) dX3_inherit_75 ?_
    have hR9 := hR.sfi hn 3 (((fi 3 (par9 ar n)) * (ar 11 n)) / 8)
    revert hR9
    generalize m_up M _ _ = M
    intro hR
    obtain ⟨fj3, efj3⟩ : ∃ z : Nat → Nat → Int32, z = fi1 fj1 3 n (((fi 3 (par9 ar n)) * (ar 11 n)) / 8) := ⟨_, rfl⟩
    rw [← efj3] at hR
    refine m_aload_n C dX3_inherit_78 rfl 0 rfl ?_
    refine m_ifnonnull (x := some (Z (100 + par9 ar n))) (tgt := 88) C dX3_inherit_79 (by decide) (fun _ _ => ?_) (fun h => absurd h (by simp))
    refine m_aload_n C dX3_inherit_88 rfl 0 rfl ?_
    refine m_get (ref := "PaintLayers$Node") C (hR.nd hq) rfl i_X3 13 (by decide) (by decide +kernel) (fun x h => h) (v := .int (fj3 2 (par9 ar n))) rfl dX3_inherit_89 ?_
    refine m_i (y := fi 2 (par9 ar n)) (by rw [efj3, fi1_o hpn, efj1, fi1_o hpn, efj0, fi1_o hpn]) ?_
    refine m_istore_n (L' := [(2, .int (fi 2 (par9 ar n))), (1, .ref (Z (100 + par9 ar n))), (0, .ref (Z (100 + n)))]) C dX3_inherit_92 rfl (by decide) rfl ?_
    refine m_aload_n C dX3_inherit_93 rfl 2 rfl ?_
    refine m_aload_n C dX3_inherit_94 rfl 2 rfl ?_
    refine m_get (ref := "PaintLayers$Node") C (hR.nd hn) rfl i_X3 6 (by decide) (by decide +kernel) (fun x h => h) (v := .int (ar 10 n)) rfl dX3_inherit_95 ?_
    refine m_iconst (v := (-1)) C dX3_inherit_98 (by decide) ?_
    refine m_icmp_ne (tgt := 106) C dX3_inherit_99 (by decide) (fun h_4 => ?_) (fun h_4 => ?_)
    · refine m_aload_n C dX3_inherit_106 rfl 2 rfl ?_
      refine m_get (ref := "PaintLayers$Node") C (hR.nd hn) rfl i_X3 6 (by decide) (by decide +kernel) (fun x h => h) (v := .int (ar 10 n)) rfl dX3_inherit_107 ?_
      refine m_put (ref := "PaintLayers$Node") C (hR.nd hn) rfl i_X3 tyX3 tyX3_ok nmX3 13 (by decide) (by decide +kernel) (fun x h => h) rfl rfl rfl (Nat.le_of_ble_eq_true rfl) (e' := .inr (6, nF Z ar (fi1 fj3 2 n (ar 10 n)) nl n)) (congrArg (fun l9 : List Value => (.inr (6, l9) : va_E)) nF_sf2) dX3_inherit_110 ?_
      have hR9 := hR.sfi hn 2 (ar 10 n)
      revert hR9
      generalize m_up M _ _ = M
      intro hR
      obtain ⟨fj2, efj2⟩ : ∃ z : Nat → Nat → Int32, z = fi1 fj3 2 n (ar 10 n) := ⟨_, rfl⟩
      rw [← efj2] at hR
      refine m_aload_n C dX3_inherit_113 rfl 1 rfl ?_
      refine m_ifnull (x := some (Z (100 + par9 ar n))) (tgt := 124) C dX3_inherit_114 (by decide) (fun h => absurd h (by simp)) (fun _ _ => ?_)
      refine m_aload_n C dX3_inherit_117 rfl 1 rfl ?_
      refine m_get (ref := "PaintLayers$Node") C (hR.nd hq) rfl i_X3 15 (by decide) (by decide +kernel) (fun x h => h) (v := .int (fj2 4 (par9 ar n))) rfl dX3_inherit_118 ?_
      refine m_i (y := fi 4 (par9 ar n)) (by rw [efj2, fi1_o hpn, efj3, fi1_o hpn, efj1, fi1_o hpn, efj0, fi1_o hpn]) ?_
      refine m_if_ne (tgt := 128) C dX3_inherit_121 (by decide) (fun h_5 => ?_) (fun h_5 => ?_)
      · refine m_iconst (v := 2) C dX3_inherit_128 (by decide) ?_
        refine m_istore_n (L' := [(3, .int 2), (2, .int (fi 2 (par9 ar n))), (1, .ref (Z (100 + par9 ar n))), (0, .ref (Z (100 + n)))]) C dX3_inherit_129 rfl (by decide) rfl ?_
        refine m_aload_n C dX3_inherit_130 rfl 3 rfl ?_
        refine m_aload_n C dX3_inherit_131 rfl 3 rfl ?_
        refine m_get (ref := "PaintLayers$Node") C (hR.nd hn) rfl i_X3 8 (by decide) (by decide +kernel) (fun x h => h) (v := .int (ar 12 n)) rfl dX3_inherit_132 ?_
        refine m_if_eq (tgt := 142) C dX3_inherit_135 (by decide) (fun h_6 => ?_) (fun h_6 => ?_)
        · refine m_iload_n C dX3_inherit_142 rfl 0 rfl ?_
          refine m_put (ref := "PaintLayers$Node") C (hR.nd hn) rfl i_X3 tyX3 tyX3_ok nmX3 15 (by decide) (by decide +kernel) (fun x h => h) rfl rfl rfl (Nat.le_of_ble_eq_true rfl) (e' := .inr (6, nF Z ar (fi1 fj2 4 n 2) nl n)) (congrArg (fun l9 : List Value => (.inr (6, l9) : va_E)) nF_sf4) dX3_inherit_143 ?_
          have hR9 := hR.sfi hn 4 2
          revert hR9
          generalize m_up M _ _ = M
          intro hR
          obtain ⟨fj4, efj4⟩ : ∃ z : Nat → Nat → Int32, z = fi1 fj2 4 n 2 := ⟨_, rfl⟩
          rw [← efj4] at hR
          exact m_vret C (Nat.le_of_ble_eq_true rfl) (Nat.le_of_ble_eq_true rfl) dX3_inherit_146 (⟨fj4, hR, fun i m hm => by rw [efj4, fi1_o hm, efj2, fi1_o hm, efj3, fi1_o hm, efj1, fi1_o hm, efj0, fi1_o hm], by rw [efj4, fi1_j (show 0 ≠ 4 by decide), efj2, fi1_j (show 0 ≠ 2 by decide), efj3, fi1_j (show 0 ≠ 3 by decide), efj1, fi1_j (show 0 ≠ 1 by decide), efj0, fi1_s, q_inh]; simp [h0, h_4, h_5, h_6], by rw [efj4, fi1_j (show 1 ≠ 4 by decide), efj2, fi1_j (show 1 ≠ 2 by decide), efj3, fi1_j (show 1 ≠ 3 by decide), efj1, fi1_s, q_inh]; simp [h0, h_4, h_5, h_6], by rw [efj4, fi1_j (show 2 ≠ 4 by decide), efj2, fi1_s, q_inh]; simp [h0, h_4, h_5, h_6], by rw [efj4, fi1_j (show 3 ≠ 4 by decide), efj2, fi1_j (show 3 ≠ 2 by decide), efj3, fi1_s, q_inh]; simp [h0, h_4, h_5, h_6], by rw [efj4, fi1_s, q_inh]; simp [h0, h_4, h_5, h_6]⟩)
        · refine m_iconst (v := 1) C dX3_inherit_138 (by decide) ?_
          refine m_goto (tgt := 143) C dX3_inherit_139 (by decide) ?_
          refine m_put (ref := "PaintLayers$Node") C (hR.nd hn) rfl i_X3 tyX3 tyX3_ok nmX3 15 (by decide) (by decide +kernel) (fun x h => h) rfl rfl rfl (Nat.le_of_ble_eq_true rfl) (e' := .inr (6, nF Z ar (fi1 fj2 4 n 1) nl n)) (congrArg (fun l9 : List Value => (.inr (6, l9) : va_E)) nF_sf4) dX3_inherit_143 ?_
          have hR9 := hR.sfi hn 4 1
          revert hR9
          generalize m_up M _ _ = M
          intro hR
          obtain ⟨fj4, efj4⟩ : ∃ z : Nat → Nat → Int32, z = fi1 fj2 4 n 1 := ⟨_, rfl⟩
          rw [← efj4] at hR
          exact m_vret C (Nat.le_of_ble_eq_true rfl) (Nat.le_of_ble_eq_true rfl) dX3_inherit_146 (⟨fj4, hR, fun i m hm => by rw [efj4, fi1_o hm, efj2, fi1_o hm, efj3, fi1_o hm, efj1, fi1_o hm, efj0, fi1_o hm], by rw [efj4, fi1_j (show 0 ≠ 4 by decide), efj2, fi1_j (show 0 ≠ 2 by decide), efj3, fi1_j (show 0 ≠ 3 by decide), efj1, fi1_j (show 0 ≠ 1 by decide), efj0, fi1_s, q_inh]; simp [h0, h_4, h_5, h_6], by rw [efj4, fi1_j (show 1 ≠ 4 by decide), efj2, fi1_j (show 1 ≠ 2 by decide), efj3, fi1_j (show 1 ≠ 3 by decide), efj1, fi1_s, q_inh]; simp [h0, h_4, h_5, h_6], by rw [efj4, fi1_j (show 2 ≠ 4 by decide), efj2, fi1_s, q_inh]; simp [h0, h_4, h_5, h_6], by rw [efj4, fi1_j (show 3 ≠ 4 by decide), efj2, fi1_j (show 3 ≠ 2 by decide), efj3, fi1_s, q_inh]; simp [h0, h_4, h_5, h_6], by rw [efj4, fi1_s, q_inh]; simp [h0, h_4, h_5, h_6]⟩)
      · refine m_iconst (v := 0) C dX3_inherit_124 (by decide) ?_
        refine m_goto (tgt := 129) C dX3_inherit_125 (by decide) ?_
        refine m_istore_n (L' := [(3, .int 0), (2, .int (fi 2 (par9 ar n))), (1, .ref (Z (100 + par9 ar n))), (0, .ref (Z (100 + n)))]) C dX3_inherit_129 rfl (by decide) rfl ?_
        refine m_aload_n C dX3_inherit_130 rfl 3 rfl ?_
        refine m_aload_n C dX3_inherit_131 rfl 3 rfl ?_
        refine m_get (ref := "PaintLayers$Node") C (hR.nd hn) rfl i_X3 8 (by decide) (by decide +kernel) (fun x h => h) (v := .int (ar 12 n)) rfl dX3_inherit_132 ?_
        refine m_if_eq (tgt := 142) C dX3_inherit_135 (by decide) (fun h_7 => ?_) (fun h_7 => ?_)
        · refine m_iload_n C dX3_inherit_142 rfl 0 rfl ?_
          refine m_put (ref := "PaintLayers$Node") C (hR.nd hn) rfl i_X3 tyX3 tyX3_ok nmX3 15 (by decide) (by decide +kernel) (fun x h => h) rfl rfl rfl (Nat.le_of_ble_eq_true rfl) (e' := .inr (6, nF Z ar (fi1 fj2 4 n 0) nl n)) (congrArg (fun l9 : List Value => (.inr (6, l9) : va_E)) nF_sf4) dX3_inherit_143 ?_
          have hR9 := hR.sfi hn 4 0
          revert hR9
          generalize m_up M _ _ = M
          intro hR
          obtain ⟨fj4, efj4⟩ : ∃ z : Nat → Nat → Int32, z = fi1 fj2 4 n 0 := ⟨_, rfl⟩
          rw [← efj4] at hR
          exact m_vret C (Nat.le_of_ble_eq_true rfl) (Nat.le_of_ble_eq_true rfl) dX3_inherit_146 (⟨fj4, hR, fun i m hm => by rw [efj4, fi1_o hm, efj2, fi1_o hm, efj3, fi1_o hm, efj1, fi1_o hm, efj0, fi1_o hm], by rw [efj4, fi1_j (show 0 ≠ 4 by decide), efj2, fi1_j (show 0 ≠ 2 by decide), efj3, fi1_j (show 0 ≠ 3 by decide), efj1, fi1_j (show 0 ≠ 1 by decide), efj0, fi1_s, q_inh]; simp [h0, h_4, h_5, h_7], by rw [efj4, fi1_j (show 1 ≠ 4 by decide), efj2, fi1_j (show 1 ≠ 2 by decide), efj3, fi1_j (show 1 ≠ 3 by decide), efj1, fi1_s, q_inh]; simp [h0, h_4, h_5, h_7], by rw [efj4, fi1_j (show 2 ≠ 4 by decide), efj2, fi1_s, q_inh]; simp [h0, h_4, h_5, h_7], by rw [efj4, fi1_j (show 3 ≠ 4 by decide), efj2, fi1_j (show 3 ≠ 2 by decide), efj3, fi1_s, q_inh]; simp [h0, h_4, h_5, h_7], by rw [efj4, fi1_s, q_inh]; simp [h0, h_4, h_5, h_7]⟩)
        · refine m_iconst (v := 1) C dX3_inherit_138 (by decide) ?_
          refine m_goto (tgt := 143) C dX3_inherit_139 (by decide) ?_
          refine m_put (ref := "PaintLayers$Node") C (hR.nd hn) rfl i_X3 tyX3 tyX3_ok nmX3 15 (by decide) (by decide +kernel) (fun x h => h) rfl rfl rfl (Nat.le_of_ble_eq_true rfl) (e' := .inr (6, nF Z ar (fi1 fj2 4 n 1) nl n)) (congrArg (fun l9 : List Value => (.inr (6, l9) : va_E)) nF_sf4) dX3_inherit_143 ?_
          have hR9 := hR.sfi hn 4 1
          revert hR9
          generalize m_up M _ _ = M
          intro hR
          obtain ⟨fj4, efj4⟩ : ∃ z : Nat → Nat → Int32, z = fi1 fj2 4 n 1 := ⟨_, rfl⟩
          rw [← efj4] at hR
          exact m_vret C (Nat.le_of_ble_eq_true rfl) (Nat.le_of_ble_eq_true rfl) dX3_inherit_146 (⟨fj4, hR, fun i m hm => by rw [efj4, fi1_o hm, efj2, fi1_o hm, efj3, fi1_o hm, efj1, fi1_o hm, efj0, fi1_o hm], by rw [efj4, fi1_j (show 0 ≠ 4 by decide), efj2, fi1_j (show 0 ≠ 2 by decide), efj3, fi1_j (show 0 ≠ 3 by decide), efj1, fi1_j (show 0 ≠ 1 by decide), efj0, fi1_s, q_inh]; simp [h0, h_4, h_5, h_7], by rw [efj4, fi1_j (show 1 ≠ 4 by decide), efj2, fi1_j (show 1 ≠ 2 by decide), efj3, fi1_j (show 1 ≠ 3 by decide), efj1, fi1_s, q_inh]; simp [h0, h_4, h_5, h_7], by rw [efj4, fi1_j (show 2 ≠ 4 by decide), efj2, fi1_s, q_inh]; simp [h0, h_4, h_5, h_7], by rw [efj4, fi1_j (show 3 ≠ 4 by decide), efj2, fi1_j (show 3 ≠ 2 by decide), efj3, fi1_s, q_inh]; simp [h0, h_4, h_5, h_7], by rw [efj4, fi1_s, q_inh]; simp [h0, h_4, h_5, h_7]⟩)
    · refine m_iload_n C dX3_inherit_102 rfl 0 rfl ?_
      refine m_goto (tgt := 110) C dX3_inherit_103 (by decide) ?_
      refine m_put (ref := "PaintLayers$Node") C (hR.nd hn) rfl i_X3 tyX3 tyX3_ok nmX3 13 (by decide) (by decide +kernel) (fun x h => h) rfl rfl rfl (Nat.le_of_ble_eq_true rfl) (e' := .inr (6, nF Z ar (fi1 fj3 2 n (fi 2 (par9 ar n))) nl n)) (congrArg (fun l9 : List Value => (.inr (6, l9) : va_E)) nF_sf2) dX3_inherit_110 ?_
      have hR9 := hR.sfi hn 2 (fi 2 (par9 ar n))
      revert hR9
      generalize m_up M _ _ = M
      intro hR
      obtain ⟨fj2, efj2⟩ : ∃ z : Nat → Nat → Int32, z = fi1 fj3 2 n (fi 2 (par9 ar n)) := ⟨_, rfl⟩
      rw [← efj2] at hR
      refine m_aload_n C dX3_inherit_113 rfl 1 rfl ?_
      refine m_ifnull (x := some (Z (100 + par9 ar n))) (tgt := 124) C dX3_inherit_114 (by decide) (fun h => absurd h (by simp)) (fun _ _ => ?_)
      refine m_aload_n C dX3_inherit_117 rfl 1 rfl ?_
      refine m_get (ref := "PaintLayers$Node") C (hR.nd hq) rfl i_X3 15 (by decide) (by decide +kernel) (fun x h => h) (v := .int (fj2 4 (par9 ar n))) rfl dX3_inherit_118 ?_
      refine m_i (y := fi 4 (par9 ar n)) (by rw [efj2, fi1_o hpn, efj3, fi1_o hpn, efj1, fi1_o hpn, efj0, fi1_o hpn]) ?_
      refine m_if_ne (tgt := 128) C dX3_inherit_121 (by decide) (fun h_8 => ?_) (fun h_8 => ?_)
      · refine m_iconst (v := 2) C dX3_inherit_128 (by decide) ?_
        refine m_istore_n (L' := [(3, .int 2), (2, .int (fi 2 (par9 ar n))), (1, .ref (Z (100 + par9 ar n))), (0, .ref (Z (100 + n)))]) C dX3_inherit_129 rfl (by decide) rfl ?_
        refine m_aload_n C dX3_inherit_130 rfl 3 rfl ?_
        refine m_aload_n C dX3_inherit_131 rfl 3 rfl ?_
        refine m_get (ref := "PaintLayers$Node") C (hR.nd hn) rfl i_X3 8 (by decide) (by decide +kernel) (fun x h => h) (v := .int (ar 12 n)) rfl dX3_inherit_132 ?_
        refine m_if_eq (tgt := 142) C dX3_inherit_135 (by decide) (fun h_9 => ?_) (fun h_9 => ?_)
        · refine m_iload_n C dX3_inherit_142 rfl 0 rfl ?_
          refine m_put (ref := "PaintLayers$Node") C (hR.nd hn) rfl i_X3 tyX3 tyX3_ok nmX3 15 (by decide) (by decide +kernel) (fun x h => h) rfl rfl rfl (Nat.le_of_ble_eq_true rfl) (e' := .inr (6, nF Z ar (fi1 fj2 4 n 2) nl n)) (congrArg (fun l9 : List Value => (.inr (6, l9) : va_E)) nF_sf4) dX3_inherit_143 ?_
          have hR9 := hR.sfi hn 4 2
          revert hR9
          generalize m_up M _ _ = M
          intro hR
          obtain ⟨fj4, efj4⟩ : ∃ z : Nat → Nat → Int32, z = fi1 fj2 4 n 2 := ⟨_, rfl⟩
          rw [← efj4] at hR
          exact m_vret C (Nat.le_of_ble_eq_true rfl) (Nat.le_of_ble_eq_true rfl) dX3_inherit_146 (⟨fj4, hR, fun i m hm => by rw [efj4, fi1_o hm, efj2, fi1_o hm, efj3, fi1_o hm, efj1, fi1_o hm, efj0, fi1_o hm], by rw [efj4, fi1_j (show 0 ≠ 4 by decide), efj2, fi1_j (show 0 ≠ 2 by decide), efj3, fi1_j (show 0 ≠ 3 by decide), efj1, fi1_j (show 0 ≠ 1 by decide), efj0, fi1_s, q_inh]; simp [h0, h_4, h_8, h_9], by rw [efj4, fi1_j (show 1 ≠ 4 by decide), efj2, fi1_j (show 1 ≠ 2 by decide), efj3, fi1_j (show 1 ≠ 3 by decide), efj1, fi1_s, q_inh]; simp [h0, h_4, h_8, h_9], by rw [efj4, fi1_j (show 2 ≠ 4 by decide), efj2, fi1_s, q_inh]; simp [h0, h_4, h_8, h_9], by rw [efj4, fi1_j (show 3 ≠ 4 by decide), efj2, fi1_j (show 3 ≠ 2 by decide), efj3, fi1_s, q_inh]; simp [h0, h_4, h_8, h_9], by rw [efj4, fi1_s, q_inh]; simp [h0, h_4, h_8, h_9]⟩)
        · refine m_iconst (v := 1) C dX3_inherit_138 (by decide) ?_
          refine m_goto (tgt := 143) C dX3_inherit_139 (by decide) ?_
          refine m_put (ref := "PaintLayers$Node") C (hR.nd hn) rfl i_X3 tyX3 tyX3_ok nmX3 15 (by decide) (by decide +kernel) (fun x h => h) rfl rfl rfl (Nat.le_of_ble_eq_true rfl) (e' := .inr (6, nF Z ar (fi1 fj2 4 n 1) nl n)) (congrArg (fun l9 : List Value => (.inr (6, l9) : va_E)) nF_sf4) dX3_inherit_143 ?_
          have hR9 := hR.sfi hn 4 1
          revert hR9
          generalize m_up M _ _ = M
          intro hR
          obtain ⟨fj4, efj4⟩ : ∃ z : Nat → Nat → Int32, z = fi1 fj2 4 n 1 := ⟨_, rfl⟩
          rw [← efj4] at hR
          exact m_vret C (Nat.le_of_ble_eq_true rfl) (Nat.le_of_ble_eq_true rfl) dX3_inherit_146 (⟨fj4, hR, fun i m hm => by rw [efj4, fi1_o hm, efj2, fi1_o hm, efj3, fi1_o hm, efj1, fi1_o hm, efj0, fi1_o hm], by rw [efj4, fi1_j (show 0 ≠ 4 by decide), efj2, fi1_j (show 0 ≠ 2 by decide), efj3, fi1_j (show 0 ≠ 3 by decide), efj1, fi1_j (show 0 ≠ 1 by decide), efj0, fi1_s, q_inh]; simp [h0, h_4, h_8, h_9], by rw [efj4, fi1_j (show 1 ≠ 4 by decide), efj2, fi1_j (show 1 ≠ 2 by decide), efj3, fi1_j (show 1 ≠ 3 by decide), efj1, fi1_s, q_inh]; simp [h0, h_4, h_8, h_9], by rw [efj4, fi1_j (show 2 ≠ 4 by decide), efj2, fi1_s, q_inh]; simp [h0, h_4, h_8, h_9], by rw [efj4, fi1_j (show 3 ≠ 4 by decide), efj2, fi1_j (show 3 ≠ 2 by decide), efj3, fi1_s, q_inh]; simp [h0, h_4, h_8, h_9], by rw [efj4, fi1_s, q_inh]; simp [h0, h_4, h_8, h_9]⟩)
      · refine m_iconst (v := 0) C dX3_inherit_124 (by decide) ?_
        refine m_goto (tgt := 129) C dX3_inherit_125 (by decide) ?_
        refine m_istore_n (L' := [(3, .int 0), (2, .int (fi 2 (par9 ar n))), (1, .ref (Z (100 + par9 ar n))), (0, .ref (Z (100 + n)))]) C dX3_inherit_129 rfl (by decide) rfl ?_
        refine m_aload_n C dX3_inherit_130 rfl 3 rfl ?_
        refine m_aload_n C dX3_inherit_131 rfl 3 rfl ?_
        refine m_get (ref := "PaintLayers$Node") C (hR.nd hn) rfl i_X3 8 (by decide) (by decide +kernel) (fun x h => h) (v := .int (ar 12 n)) rfl dX3_inherit_132 ?_
        refine m_if_eq (tgt := 142) C dX3_inherit_135 (by decide) (fun h_10 => ?_) (fun h_10 => ?_)
        · refine m_iload_n C dX3_inherit_142 rfl 0 rfl ?_
          refine m_put (ref := "PaintLayers$Node") C (hR.nd hn) rfl i_X3 tyX3 tyX3_ok nmX3 15 (by decide) (by decide +kernel) (fun x h => h) rfl rfl rfl (Nat.le_of_ble_eq_true rfl) (e' := .inr (6, nF Z ar (fi1 fj2 4 n 0) nl n)) (congrArg (fun l9 : List Value => (.inr (6, l9) : va_E)) nF_sf4) dX3_inherit_143 ?_
          have hR9 := hR.sfi hn 4 0
          revert hR9
          generalize m_up M _ _ = M
          intro hR
          obtain ⟨fj4, efj4⟩ : ∃ z : Nat → Nat → Int32, z = fi1 fj2 4 n 0 := ⟨_, rfl⟩
          rw [← efj4] at hR
          exact m_vret C (Nat.le_of_ble_eq_true rfl) (Nat.le_of_ble_eq_true rfl) dX3_inherit_146 (⟨fj4, hR, fun i m hm => by rw [efj4, fi1_o hm, efj2, fi1_o hm, efj3, fi1_o hm, efj1, fi1_o hm, efj0, fi1_o hm], by rw [efj4, fi1_j (show 0 ≠ 4 by decide), efj2, fi1_j (show 0 ≠ 2 by decide), efj3, fi1_j (show 0 ≠ 3 by decide), efj1, fi1_j (show 0 ≠ 1 by decide), efj0, fi1_s, q_inh]; simp [h0, h_4, h_8, h_10], by rw [efj4, fi1_j (show 1 ≠ 4 by decide), efj2, fi1_j (show 1 ≠ 2 by decide), efj3, fi1_j (show 1 ≠ 3 by decide), efj1, fi1_s, q_inh]; simp [h0, h_4, h_8, h_10], by rw [efj4, fi1_j (show 2 ≠ 4 by decide), efj2, fi1_s, q_inh]; simp [h0, h_4, h_8, h_10], by rw [efj4, fi1_j (show 3 ≠ 4 by decide), efj2, fi1_j (show 3 ≠ 2 by decide), efj3, fi1_s, q_inh]; simp [h0, h_4, h_8, h_10], by rw [efj4, fi1_s, q_inh]; simp [h0, h_4, h_8, h_10]⟩)
        · refine m_iconst (v := 1) C dX3_inherit_138 (by decide) ?_
          refine m_goto (tgt := 143) C dX3_inherit_139 (by decide) ?_
          refine m_put (ref := "PaintLayers$Node") C (hR.nd hn) rfl i_X3 tyX3 tyX3_ok nmX3 15 (by decide) (by decide +kernel) (fun x h => h) rfl rfl rfl (Nat.le_of_ble_eq_true rfl) (e' := .inr (6, nF Z ar (fi1 fj2 4 n 1) nl n)) (congrArg (fun l9 : List Value => (.inr (6, l9) : va_E)) nF_sf4) dX3_inherit_143 ?_
          have hR9 := hR.sfi hn 4 1
          revert hR9
          generalize m_up M _ _ = M
          intro hR
          obtain ⟨fj4, efj4⟩ : ∃ z : Nat → Nat → Int32, z = fi1 fj2 4 n 1 := ⟨_, rfl⟩
          rw [← efj4] at hR
          exact m_vret C (Nat.le_of_ble_eq_true rfl) (Nat.le_of_ble_eq_true rfl) dX3_inherit_146 (⟨fj4, hR, fun i m hm => by rw [efj4, fi1_o hm, efj2, fi1_o hm, efj3, fi1_o hm, efj1, fi1_o hm, efj0, fi1_o hm], by rw [efj4, fi1_j (show 0 ≠ 4 by decide), efj2, fi1_j (show 0 ≠ 2 by decide), efj3, fi1_j (show 0 ≠ 3 by decide), efj1, fi1_j (show 0 ≠ 1 by decide), efj0, fi1_s, q_inh]; simp [h0, h_4, h_8, h_10], by rw [efj4, fi1_j (show 1 ≠ 4 by decide), efj2, fi1_j (show 1 ≠ 2 by decide), efj3, fi1_j (show 1 ≠ 3 by decide), efj1, fi1_s, q_inh]; simp [h0, h_4, h_8, h_10], by rw [efj4, fi1_j (show 2 ≠ 4 by decide), efj2, fi1_s, q_inh]; simp [h0, h_4, h_8, h_10], by rw [efj4, fi1_j (show 3 ≠ 4 by decide), efj2, fi1_j (show 3 ≠ 2 by decide), efj3, fi1_s, q_inh]; simp [h0, h_4, h_8, h_10], by rw [efj4, fi1_s, q_inh]; simp [h0, h_4, h_8, h_10]⟩)

