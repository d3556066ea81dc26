/-! ===== the reference: extent, mean, digest ===== -/
set_option maxHeartbeats 4000000 in
set_option maxRecDepth 100000 in
theorem lp_X8_exy {p : Program} {l : Launch} {e : Env} {s : State} {m : MethodId} {args : Array Value} {below : List Frame} {meth : Method} {c : Code} {Q : State → Prop} {D : mD} {A : Nat → Prop} {G : Nat → Nat} {o : Nat} {F : Mm} {g : Int32} {cm : Nat} {ar : rA} {od : Nat → Int32} {L9 : List Nat} {vn wn : Int32} {q9 : Nat} (hw : wf ar cm) (hlen : L9.length ≤ 40) (hod : ∀ k, k < L9.length → od k = nI (L9.getD k 0)) (hL : ∀ k, k < L9.length → L9.getD k 0 < cm ∧ ¬ ar 2 (L9.getD k 0) = 0) (hcm : 1 ≤ cm ∧ cm ≤ 40) {x9 : Nat} (hx9 : x9 < 64) {T0 : Nat → Int32} (C : mC p m meth c cX8_extent 6 s args wsX8_extent yX8_extent.cls D A yX8_extent (some .int)) (i8 : ∀ w ∈ wsX80, w ∈ wsX8_extent) (kx : ∀ M : Mm, rW D G o (m_up F q9 (.inl (D.2.1 0, 5, .inl (q_exy ar L9 x9 T0 48)))) 0 (nI cm) g (nI L9.length) (upA ar 17 od) M → mV p l e ({ frames := 47, cells := 1, slots := 5, locals := 3000 } : Room) s m args below meth c 6 D A Q M (0 + 1) (0 + 5) [(4, .int (nI x9)), (0, .ref o), (1, .int vn), (2, .int wn), (3, .ref q9)] [] 159) : ∀ (N : Nat) (k9 : Nat) (M : Mm), 48 - k9 = N → (k9 ≤ 48) → (rW D G o (m_up F q9 (.inl (D.2.1 0, 5, .inl (q_exy ar L9 x9 T0 k9)))) 0 (nI cm) g (nI L9.length) (upA ar 17 od) M) → mV p l e ({ frames := 47, cells := 1, slots := 5, locals := 3000 } : Room) s m args below meth c 6 D A Q M (0 + 1) (0 + 5) [(5, .int (nI k9)), (4, .int (nI x9)), (0, .ref o), (1, .int vn), (2, .int wn), (3, .ref q9)] [] 70 := by
  intro N
  induction N using Nat.strongRecOn with
  | _ N ih =>
    intro k9 M hN hk hR
    refine m_iload C dX8_extent_70 0 rfl ?_
    refine m_bipush (v := 48) C dX8_extent_72 (by decide) ?_
    refine m_icmp_ge (tgt := 159) C dX8_extent_74 (by decide) (fun h_1 => ?_) (fun h_1 => ?_)
    · have hkm : k9 = 48 := by
        have := (nI_leI (a := 48) (b := k9) (by omega) (by omega)).mp h_1
        omega
      subst hkm
      refine m_sub (L' := [(4, .int (nI x9)), (0, .ref o), (1, .int vn), (2, .int wn), (3, .ref q9)]) [1, 2, 3, 4, 5] rfl ?_
      exact kx M hR
    · have hkm : k9 < 48 := by
        rcases Nat.lt_or_ge k9 48 with z | z
        · exact z
        · exact absurd (nI_le (a := 48) (b := k9) z (by omega)) h_1
      obtain ⟨T9, hT9⟩ : ∃ z : Nat → Int32, z = q_exy ar L9 x9 T0 k9 := ⟨_, rfl⟩
      rw [← hT9] at hR
      have hF : (m_up F q9 (.inl (D.2.1 0, 5, .inl T9))) q9 = some (.inl (D.2.1 0, 5, .inl T9)) := m_up_s
      refine m_aload_n C dX8_extent_77 rfl 2 rfl ?_
      refine m_iload C dX8_extent_78 1 rfl ?_
      refine m_iload C dX8_extent_80 0 rfl ?_
      refine m_callVFi (As := [.int (nI x9), .int (nI k9)]) (st := []) (v := bI (q_any ar L9 (nI x9) (nI k9))) C hR.1 rfl (c_X8_showsOne D A l (L9 := L9) hR hw hlen hod hL (nI x9) (nI k9)) (cwV 2 C.1.2.2.2.2 gX8_extent_X8_showsOne rfl rfl rfl (by decide +kernel) ⟨Nat.le_of_ble_eq_true rfl, Nat.le_of_ble_eq_true rfl⟩) rfl rfl (Nat.le_of_ble_eq_true rfl) dX8_extent_82 ⟨Nat.le_of_ble_eq_true rfl, Nat.le_of_ble_eq_true rfl⟩ ?_
      refine m_if_ne (tgt := 91) C dX8_extent_85 (by decide) (fun h_2 => ?_) (fun h_2 => ?_)
      · have h_2 := bI_n h_2
        refine m_aload_n C dX8_extent_91 rfl 5 rfl ?_
        refine m_iconst (v := 1) C dX8_extent_92 (by decide) ?_
        refine m_aload_n C dX8_extent_93 rfl 5 rfl ?_
        refine m_iconst (v := 0) C dX8_extent_94 (by decide) ?_
        refine r_ialdF C hR (F := (m_up F q9 (.inl (D.2.1 0, 5, .inl T9)))) hF 0 (by decide) (by decide) rfl dX8_extent_95 ?_
        refine m_if_ne (tgt := 104) C dX8_extent_96 (by decide) (fun hz1 => ?_) (fun hz1 => ?_)
        · refine m_aload_n C dX8_extent_104 rfl 5 rfl ?_
          refine m_iconst (v := 1) C dX8_extent_105 (by decide) ?_
          refine r_ialdF C hR (F := (m_up F q9 (.inl (D.2.1 0, 5, .inl T9)))) hF 1 (by decide) (by decide) rfl dX8_extent_106 ?_
          refine r_iastF C hR (F := (m_up F q9 (.inl (D.2.1 0, 5, .inl T9)))) hF 1 (by decide) (by decide) rfl dX8_extent_107 (fun M hR => ?_)
          rw [m_up_up] at hR
          have hF : (m_up F q9 (.inl (D.2.1 0, 5, .inl (upd T9 1 (T9 1))))) q9 = some (.inl (D.2.1 0, 5, .inl (upd T9 1 (T9 1)))) := m_up_s
          refine m_aload_n C dX8_extent_108 rfl 5 rfl ?_
          refine m_iconst (v := 2) C dX8_extent_109 (by decide) ?_
          refine m_iload C dX8_extent_110 1 rfl ?_
          refine r_iastF C hR (F := (m_up F q9 (.inl (D.2.1 0, 5, .inl (upd T9 1 (T9 1)))))) hF 2 (by decide) (by decide) rfl dX8_extent_112 (fun M hR => ?_)
          rw [m_up_up] at hR
          have hF : (m_up F q9 (.inl (D.2.1 0, 5, .inl (upd (upd T9 1 (T9 1)) 2 (nI x9))))) q9 = some (.inl (D.2.1 0, 5, .inl (upd (upd T9 1 (T9 1)) 2 (nI x9)))) := m_up_s
          refine m_aload_n C dX8_extent_113 rfl 5 rfl ?_
          refine m_iconst (v := 3) C dX8_extent_114 (by decide) ?_
          refine m_aload_n C dX8_extent_115 rfl 5 rfl ?_
          refine m_iconst (v := 0) C dX8_extent_116 (by decide) ?_
          refine r_ialdF C hR (F := (m_up F q9 (.inl (D.2.1 0, 5, .inl (upd (upd T9 1 (T9 1)) 2 (nI x9)))))) hF 0 (by decide) (by decide) rfl dX8_extent_117 ?_
          refine m_i (y := T9 0) (rfl) ?_
          refine m_if_ne (tgt := 126) C dX8_extent_118 (by decide) (fun hz2 => ?_) (fun hz2 => ?_)
          · refine m_aload_n C dX8_extent_126 rfl 5 rfl ?_
            refine m_iconst (v := 3) C dX8_extent_127 (by decide) ?_
            refine r_ialdF C hR (F := (m_up F q9 (.inl (D.2.1 0, 5, .inl (upd (upd T9 1 (T9 1)) 2 (nI x9)))))) hF 3 (by decide) (by decide) rfl dX8_extent_128 ?_
            refine m_i (y := T9 3) (rfl) ?_
            refine m_iload C dX8_extent_129 0 rfl ?_
            refine m_mmin (x := (T9 3)) (y := (nI k9)) (index := 169) C (by decide +kernel) (by decide +kernel) (by decide +kernel) (by decide +kernel) (Nat.le_of_ble_eq_true rfl) (Nat.le_of_ble_eq_true rfl) (Nat.le_of_ble_eq_true rfl) (Nat.le_of_ble_eq_true rfl) dX8_extent_131 ?_
            refine r_iastF C hR (F := (m_up F q9 (.inl (D.2.1 0, 5, .inl (upd (upd T9 1 (T9 1)) 2 (nI x9)))))) hF 3 (by decide) (by decide) rfl dX8_extent_134 (fun M hR => ?_)
            rw [m_up_up] at hR
            have hF : (m_up F q9 (.inl (D.2.1 0, 5, .inl (upd (upd (upd T9 1 (T9 1)) 2 (nI x9)) 3 (if (nI k9) < (T9 3) then nI k9 else T9 3))))) q9 = some (.inl (D.2.1 0, 5, .inl (upd (upd (upd T9 1 (T9 1)) 2 (nI x9)) 3 (if (nI k9) < (T9 3) then nI k9 else T9 3)))) := m_up_s
            refine m_aload_n C dX8_extent_135 rfl 5 rfl ?_
            refine m_iconst (v := 4) C dX8_extent_136 (by decide) ?_
            refine m_aload_n C dX8_extent_137 rfl 5 rfl ?_
            refine m_iconst (v := 4) C dX8_extent_138 (by decide) ?_
            refine r_ialdF C hR (F := (m_up F q9 (.inl (D.2.1 0, 5, .inl (upd (upd (upd T9 1 (T9 1)) 2 (nI x9)) 3 (if (nI k9) < (T9 3) then nI k9 else T9 3)))))) hF 4 (by decide) (by decide) rfl dX8_extent_139 ?_
            refine m_i (y := T9 4) (rfl) ?_
            refine m_iload C dX8_extent_140 0 rfl ?_
            refine m_mmax (x := (T9 4)) (y := (nI k9)) (index := 174) C (by decide +kernel) (by decide +kernel) (by decide +kernel) (by decide +kernel) (Nat.le_of_ble_eq_true rfl) (Nat.le_of_ble_eq_true rfl) (Nat.le_of_ble_eq_true rfl) (Nat.le_of_ble_eq_true rfl) dX8_extent_142 ?_
            refine r_iastF C hR (F := (m_up F q9 (.inl (D.2.1 0, 5, .inl (upd (upd (upd T9 1 (T9 1)) 2 (nI x9)) 3 (if (nI k9) < (T9 3) then nI k9 else T9 3)))))) hF 4 (by decide) (by decide) rfl dX8_extent_145 (fun M hR => ?_)
            rw [m_up_up] at hR
            have hF : (m_up F q9 (.inl (D.2.1 0, 5, .inl (upd (upd (upd (upd T9 1 (T9 1)) 2 (nI x9)) 3 (if (nI k9) < (T9 3) then nI k9 else T9 3)) 4 (if (T9 4) < (nI k9) then nI k9 else T9 4))))) q9 = some (.inl (D.2.1 0, 5, .inl (upd (upd (upd (upd T9 1 (T9 1)) 2 (nI x9)) 3 (if (nI k9) < (T9 3) then nI k9 else T9 3)) 4 (if (T9 4) < (nI k9) then nI k9 else T9 4)))) := m_up_s
            refine m_aload_n C dX8_extent_146 rfl 5 rfl ?_
            refine m_iconst (v := 0) C dX8_extent_147 (by decide) ?_
            refine m_dup2 C dX8_extent_148 rfl rfl ?_
            refine r_ialdF C hR (F := (m_up F q9 (.inl (D.2.1 0, 5, .inl (upd (upd (upd (upd T9 1 (T9 1)) 2 (nI x9)) 3 (if (nI k9) < (T9 3) then nI k9 else T9 3)) 4 (if (T9 4) < (nI k9) then nI k9 else T9 4)))))) hF 0 (by decide) (by decide) rfl dX8_extent_149 ?_
            refine m_i (y := T9 0) (rfl) ?_
            refine m_iconst (v := 1) C dX8_extent_150 (by decide) ?_
            refine m_iadd C dX8_extent_151 ?_
            refine r_iastF C hR (F := (m_up F q9 (.inl (D.2.1 0, 5, .inl (upd (upd (upd (upd T9 1 (T9 1)) 2 (nI x9)) 3 (if (nI k9) < (T9 3) then nI k9 else T9 3)) 4 (if (T9 4) < (nI k9) then nI k9 else T9 4)))))) hF 0 (by decide) (by decide) rfl dX8_extent_152 (fun M hR => ?_)
            rw [m_up_up] at hR
            have hF : (m_up F q9 (.inl (D.2.1 0, 5, .inl (upd (upd (upd (upd (upd T9 1 (T9 1)) 2 (nI x9)) 3 (if (nI k9) < (T9 3) then nI k9 else T9 3)) 4 (if (T9 4) < (nI k9) then nI k9 else T9 4)) 0 ((T9 0) + 1))))) q9 = some (.inl (D.2.1 0, 5, .inl (upd (upd (upd (upd (upd T9 1 (T9 1)) 2 (nI x9)) 3 (if (nI k9) < (T9 3) then nI k9 else T9 3)) 4 (if (T9 4) < (nI k9) then nI k9 else T9 4)) 0 ((T9 0) + 1)))) := m_up_s
            obtain ⟨x_3, ex_3⟩ : ∃ z : Int32, z = nI k9 + 1 := ⟨_, rfl⟩
            refine m_iinc (q := 0) (v := x_3) (L' := [(5, .int x_3), (4, .int (nI x9)), (0, .ref o), (1, .int vn), (2, .int wn), (3, .ref q9)]) C dX8_extent_153 rfl (by rw [ex_3]; rfl) (by decide) rfl ?_
            refine m_goto (tgt := 70) C dX8_extent_156 (by decide) ?_
            rw [nI_1] at ex_3
            subst ex_3
            refine m_sub (L' := [(5, .int (nI (k9 + 1))), (4, .int (nI x9)), (0, .ref o), (1, .int vn), (2, .int wn), (3, .ref q9)]) [0, 1, 2, 3, 4, 5] rfl ?_
            refine ih (48 - (k9 + 1)) (by omega) (k9 + 1) M rfl (by omega) ?_
            rw [q_exy, ← hT9, q_exs]; simp only [h_2, hz1, hz2, if_true, if_false, ite_true, ite_false, reduceIte] at hR ⊢; exact hR
          · exact absurd hz2 hz1
        · refine m_iload C dX8_extent_99 1 rfl ?_
          refine m_goto (tgt := 107) C dX8_extent_101 (by decide) ?_
          refine r_iastF C hR (F := (m_up F q9 (.inl (D.2.1 0, 5, .inl T9)))) hF 1 (by decide) (by decide) rfl dX8_extent_107 (fun M hR => ?_)
          rw [m_up_up] at hR
          have hF : (m_up F q9 (.inl (D.2.1 0, 5, .inl (upd T9 1 (nI x9))))) q9 = some (.inl (D.2.1 0, 5, .inl (upd T9 1 (nI x9)))) := m_up_s
          refine m_aload_n C dX8_extent_108 rfl 5 rfl ?_
          refine m_iconst (v := 2) C dX8_extent_109 (by decide) ?_
          refine m_iload C dX8_extent_110 1 rfl ?_
          refine r_iastF C hR (F := (m_up F q9 (.inl (D.2.1 0, 5, .inl (upd T9 1 (nI x9)))))) hF 2 (by decide) (by decide) rfl dX8_extent_112 (fun M hR => ?_)
          rw [m_up_up] at hR
          have hF : (m_up F q9 (.inl (D.2.1 0, 5, .inl (upd (upd T9 1 (nI x9)) 2 (nI x9))))) q9 = some (.inl (D.2.1 0, 5, .inl (upd (upd T9 1 (nI x9)) 2 (nI x9)))) := m_up_s
          refine m_aload_n C dX8_extent_113 rfl 5 rfl ?_
          refine m_iconst (v := 3) C dX8_extent_114 (by decide) ?_
          refine m_aload_n C dX8_extent_115 rfl 5 rfl ?_
          refine m_iconst (v := 0) C dX8_extent_116 (by decide) ?_
          refine r_ialdF C hR (F := (m_up F q9 (.inl (D.2.1 0, 5, .inl (upd (upd T9 1 (nI x9)) 2 (nI x9)))))) hF 0 (by decide) (by decide) rfl dX8_extent_117 ?_
          refine m_i (y := T9 0) (rfl) ?_
          refine m_if_ne (tgt := 126) C dX8_extent_118 (by decide) (fun hz2 => ?_) (fun hz2 => ?_)
          · exact absurd hz1 hz2
          · refine m_iload C dX8_extent_121 0 rfl ?_
            refine m_goto (tgt := 134) C dX8_extent_123 (by decide) ?_
            refine r_iastF C hR (F := (m_up F q9 (.inl (D.2.1 0, 5, .inl (upd (upd T9 1 (nI x9)) 2 (nI x9)))))) hF 3 (by decide) (by decide) rfl dX8_extent_134 (fun M hR => ?_)
            rw [m_up_up] at hR
            have hF : (m_up F q9 (.inl (D.2.1 0, 5, .inl (upd (upd (upd T9 1 (nI x9)) 2 (nI x9)) 3 (nI k9))))) q9 = some (.inl (D.2.1 0, 5, .inl (upd (upd (upd T9 1 (nI x9)) 2 (nI x9)) 3 (nI k9)))) := m_up_s
            refine m_aload_n C dX8_extent_135 rfl 5 rfl ?_
            refine m_iconst (v := 4) C dX8_extent_136 (by decide) ?_
            refine m_aload_n C dX8_extent_137 rfl 5 rfl ?_
            refine m_iconst (v := 4) C dX8_extent_138 (by decide) ?_
            refine r_ialdF C hR (F := (m_up F q9 (.inl (D.2.1 0, 5, .inl (upd (upd (upd T9 1 (nI x9)) 2 (nI x9)) 3 (nI k9)))))) hF 4 (by decide) (by decide) rfl dX8_extent_139 ?_
            refine m_i (y := T9 4) (rfl) ?_
            refine m_iload C dX8_extent_140 0 rfl ?_
            refine m_mmax (x := (T9 4)) (y := (nI k9)) (index := 174) C (by decide +kernel) (by decide +kernel) (by decide +kernel) (by decide +kernel) (Nat.le_of_ble_eq_true rfl) (Nat.le_of_ble_eq_true rfl) (Nat.le_of_ble_eq_true rfl) (Nat.le_of_ble_eq_true rfl) dX8_extent_142 ?_
            refine r_iastF C hR (F := (m_up F q9 (.inl (D.2.1 0, 5, .inl (upd (upd (upd T9 1 (nI x9)) 2 (nI x9)) 3 (nI k9)))))) hF 4 (by decide) (by decide) rfl dX8_extent_145 (fun M hR => ?_)
            rw [m_up_up] at hR
            have hF : (m_up F q9 (.inl (D.2.1 0, 5, .inl (upd (upd (upd (upd T9 1 (nI x9)) 2 (nI x9)) 3 (nI k9)) 4 (if (T9 4) < (nI k9) then nI k9 else T9 4))))) q9 = some (.inl (D.2.1 0, 5, .inl (upd (upd (upd (upd T9 1 (nI x9)) 2 (nI x9)) 3 (nI k9)) 4 (if (T9 4) < (nI k9) then nI k9 else T9 4)))) := m_up_s
            refine m_aload_n C dX8_extent_146 rfl 5 rfl ?_
            refine m_iconst (v := 0) C dX8_extent_147 (by decide) ?_
            refine m_dup2 C dX8_extent_148 rfl rfl ?_
            refine r_ialdF C hR (F := (m_up F q9 (.inl (D.2.1 0, 5, .inl (upd (upd (upd (upd T9 1 (nI x9)) 2 (nI x9)) 3 (nI k9)) 4 (if (T9 4) < (nI k9) then nI k9 else T9 4)))))) hF 0 (by decide) (by decide) rfl dX8_extent_149 ?_
            refine m_i (y := T9 0) (rfl) ?_
            refine m_iconst (v := 1) C dX8_extent_150 (by decide) ?_
            refine m_iadd C dX8_extent_151 ?_
            refine r_iastF C hR (F := (m_up F q9 (.inl (D.2.1 0, 5, .inl (upd (upd (upd (upd T9 1 (nI x9)) 2 (nI x9)) 3 (nI k9)) 4 (if (T9 4) < (nI k9) then nI k9 else T9 4)))))) hF 0 (by decide) (by decide) rfl dX8_extent_152 (fun M hR => ?_)
            rw [m_up_up] at hR
            have hF : (m_up F q9 (.inl (D.2.1 0, 5, .inl (upd (upd (upd (upd (upd T9 1 (nI x9)) 2 (nI x9)) 3 (nI k9)) 4 (if (T9 4) < (nI k9) then nI k9 else T9 4)) 0 ((T9 0) + 1))))) q9 = some (.inl (D.2.1 0, 5, .inl (upd (upd (upd (upd (upd T9 1 (nI x9)) 2 (nI x9)) 3 (nI k9)) 4 (if (T9 4) < (nI k9) then nI k9 else T9 4)) 0 ((T9 0) + 1)))) := m_up_s
            obtain ⟨x_4, ex_4⟩ : ∃ z : Int32, z = nI k9 + 1 := ⟨_, rfl⟩
            refine m_iinc (q := 0) (v := x_4) (L' := [(5, .int x_4), (4, .int (nI x9)), (0, .ref o), (1, .int vn), (2, .int wn), (3, .ref q9)]) C dX8_extent_153 rfl (by rw [ex_4]; rfl) (by decide) rfl ?_
            refine m_goto (tgt := 70) C dX8_extent_156 (by decide) ?_
            rw [nI_1] at ex_4
            subst ex_4
            refine m_sub (L' := [(5, .int (nI (k9 + 1))), (4, .int (nI x9)), (0, .ref o), (1, .int vn), (2, .int wn), (3, .ref q9)]) [0, 1, 2, 3, 4, 5] rfl ?_
            refine ih (48 - (k9 + 1)) (by omega) (k9 + 1) M rfl (by omega) ?_
            rw [q_exy, ← hT9, q_exs]; simp only [h_2, hz1, hz2, if_true, if_false, ite_true, ite_false, reduceIte] at hR ⊢; exact hR
      · have h_2 := bI_z h_2
        refine m_goto (tgt := 153) C dX8_extent_88 (by decide) ?_
        obtain ⟨x_5, ex_5⟩ : ∃ z : Int32, z = nI k9 + 1 := ⟨_, rfl⟩
        refine m_iinc (q := 0) (v := x_5) (L' := [(5, .int x_5), (4, .int (nI x9)), (0, .ref o), (1, .int vn), (2, .int wn), (3, .ref q9)]) C dX8_extent_153 rfl (by rw [ex_5]; rfl) (by decide) rfl ?_
        refine m_goto (tgt := 70) C dX8_extent_156 (by decide) ?_
        rw [nI_1] at ex_5
        subst ex_5
        refine m_sub (L' := [(5, .int (nI (k9 + 1))), (4, .int (nI x9)), (0, .ref o), (1, .int vn), (2, .int wn), (3, .ref q9)]) [0, 1, 2, 3, 4, 5] rfl ?_
        refine ih (48 - (k9 + 1)) (by omega) (k9 + 1) M rfl (by omega) ?_
        rw [q_exy, ← hT9, q_exs]; simp only [h_2, if_true, if_false, ite_true, ite_false, reduceIte] at hR ⊢; exact hR
set_option maxHeartbeats 4000000 in
set_option maxRecDepth 100000 in
theorem lp_X8_exx {p : Program} {l : Launch} {e : Env} {s : State} {m : MethodId} {args : Array Value} {below : List Frame} {meth : Method} {c : Code} {Q : State → Prop} {D : mD} {A : Nat → Prop} {G : Nat → Nat} {o : Nat} {F : Mm} {g : Int32} {cm : Nat} {ar : rA} {od : Nat → Int32} {L9 : List Nat} {vn wn : Int32} {q9 : Nat} (hw : wf ar cm) (hlen : L9.length ≤ 40) (hod : ∀ k, k < L9.length → od k = nI (L9.getD k 0)) (hL : ∀ k, k < L9.length → L9.getD k 0 < cm ∧ ¬ ar 2 (L9.getD k 0) = 0) (hcm : 1 ≤ cm ∧ cm ≤ 40) {T0 : Nat → Int32} (C : mC p m meth c cX8_extent 6 s args wsX8_extent yX8_extent.cls D A yX8_extent (some .int)) (i8 : ∀ w ∈ wsX80, w ∈ wsX8_extent) (kx : ∀ M : Mm, rW D G o (m_up F q9 (.inl (D.2.1 0, 5, .inl (q_exx ar L9 T0 64)))) 0 (nI cm) g (nI L9.length) (upA ar 17 od) M → mV p l e ({ frames := 47, cells := 1, slots := 5, locals := 3000 } : Room) s m args below meth c 6 D A Q M (0 + 1) (0 + 5) [(0, .ref o), (1, .int vn), (2, .int wn), (3, .ref q9)] [] 165) : ∀ (N : Nat) (k9 : Nat) (M : Mm), 64 - k9 = N → (k9 ≤ 64) → (rW D G o (m_up F q9 (.inl (D.2.1 0, 5, .inl (q_exx ar L9 T0 k9)))) 0 (nI cm) g (nI L9.length) (upA ar 17 od) M) → mV p l e ({ frames := 47, cells := 1, slots := 5, locals := 3000 } : Room) s m args below meth c 6 D A Q M (0 + 1) (0 + 5) [(4, .int (nI k9)), (0, .ref o), (1, .int vn), (2, .int wn), (3, .ref q9)] [] 60 := by
  intro N
  induction N using Nat.strongRecOn with
  | _ N ih =>
    intro k9 M hN hk hR
    refine m_iload C dX8_extent_60 0 rfl ?_
    refine m_bipush (v := 64) C dX8_extent_62 (by decide) ?_
    refine m_icmp_ge (tgt := 165) C dX8_extent_64 (by decide) (fun h_1 => ?_) (fun h_1 => ?_)
    · have hkm : k9 = 64 := by
        have := (nI_leI (a := 64) (b := k9) (by omega) (by omega)).mp h_1
        omega
      subst hkm
      refine m_sub (L' := [(0, .ref o), (1, .int vn), (2, .int wn), (3, .ref q9)]) [1, 2, 3, 4] rfl ?_
      exact kx M hR
    · have hkm : k9 < 64 := by
        rcases Nat.lt_or_ge k9 64 with z | z
        · exact z
        · exact absurd (nI_le (a := 64) (b := k9) z (by omega)) h_1
      refine m_iconst (v := 0) C dX8_extent_67 (by decide) ?_
      refine m_istore (L' := [(5, .int 0), (4, .int (nI k9)), (0, .ref o), (1, .int vn), (2, .int wn), (3, .ref q9)]) C dX8_extent_68 (by decide) rfl ?_
      refine m_sub (L' := [(5, .int 0), (4, .int (nI k9)), (0, .ref o), (1, .int vn), (2, .int wn), (3, .ref q9)]) [0, 1, 2, 3, 4, 5] rfl ?_
      refine lp_X8_exy hw hlen hod hL hcm hkm C i8 (fun M hR => ?_) _ 0 M rfl (by decide) hR
      obtain ⟨x_2, ex_2⟩ : ∃ z : Int32, z = nI k9 + 1 := ⟨_, rfl⟩
      refine m_iinc (q := 0) (v := x_2) (L' := [(4, .int x_2), (0, .ref o), (1, .int vn), (2, .int wn), (3, .ref q9)]) C dX8_extent_159 rfl (by rw [ex_2]; rfl) (by decide) rfl ?_
      refine m_goto (tgt := 60) C dX8_extent_162 (by decide) ?_
      rw [nI_1] at ex_2
      subst ex_2
      refine m_sub (L' := [(4, .int (nI (k9 + 1))), (0, .ref o), (1, .int vn), (2, .int wn), (3, .ref q9)]) [0, 1, 2, 3, 4] rfl ?_
      exact ih (64 - (k9 + 1)) (by omega) (k9 + 1) M rfl (by omega) hR
set_option maxHeartbeats 4000000 in
set_option maxRecDepth 100000 in
theorem c_X8_extent (D : mD) (A : Nat → Prop) (l : Launch) {G : Nat → Nat} {o : Nat} {F : Mm} {t g u : Int32} {cm : Nat} {ar : rA} {od : Nat → Int32} {M : Mm} (hR : rW D G o F t (nI cm) g u (upA ar 17 od) M) (hw : wf ar cm) (v wn : Int32) : mMi D A l yX8_extent wsX8_extent ({ frames := 47, cells := 1, slots := 5, locals := 3000 } : Room) [.ref o, .int v, .int wn] M (fun r M' => (∃ (od2 : Nat → Int32) (u2 : Int32), rW D G o F (k_extent cm ar v wn) (nI cm) g u2 (upA ar 17 od2) M') ∧ (k_extent cm ar v wn = 0 → r = v_extent ar v wn)) 1 5 := by
  have hcm := hw.1
  refine m_start (cc := cX8_extent) (maxL := 6) (ret := (some .int)) (by decide) rfl (Nat.le_of_ble_eq_true rfl) ?_
  intro p e s m args below meth c C
  have i8 : ∀ w ∈ wsX80, w ∈ wsX8_extent := by decide +kernel
  refine m_sub (L' := [(0, .ref o), (1, .int v), (2, .int wn)]) [0, 1, 2] rfl ?_
  refine m_aload_n C dX8_extent_0 rfl 0 rfl ?_
  refine m_iconst (v := 0) C dX8_extent_1 (by decide) ?_
  refine r_putT C hR i8 (by decide +kernel) dX8_extent_2 (fun M hR => ?_)
  refine m_aload_n C dX8_extent_5 rfl 0 rfl ?_
  refine m_iload_n C dX8_extent_6 rfl 1 rfl ?_
  refine m_callVFi (As := [.int v]) (st := []) C hR.1 rfl (c_X8_isNode D A l hR hw.1 v) (cwV 1 C.1.2.2.2.2 gX8_extent_X8_isNode rfl rfl rfl (by decide +kernel) ⟨Nat.le_of_ble_eq_true rfl, Nat.le_of_ble_eq_true rfl⟩) rfl rfl (Nat.le_of_ble_eq_true rfl) dX8_extent_7 ⟨Nat.le_of_ble_eq_true rfl, Nat.le_of_ble_eq_true rfl⟩ ?_
  refine m_if_eq (tgt := 22) C dX8_extent_10 (by decide) (fun h1 => ?_) (fun h1 => ?_)
  · have h1 := bI_z h1
    refine m_aload_n C dX8_extent_22 rfl 0 rfl ?_
    refine m_iconst (v := 1) C dX8_extent_23 (by decide) ?_
    refine m_callVi (As := [.int 1]) (st := []) C hR.1 rfl (c_X8_fail D A l hR 1) (cwV 1 C.1.2.2.2.2 gX8_extent_X8_fail rfl rfl rfl (by decide +kernel) ⟨Nat.le_of_ble_eq_true rfl, Nat.le_of_ble_eq_true rfl⟩) rfl rfl (Nat.le_of_ble_eq_true rfl) dX8_extent_24 ⟨Nat.le_of_ble_eq_true rfl, Nat.le_of_ble_eq_true rfl⟩ (fun r M h => ?_)
    obtain ⟨rfl, hR⟩ := h
    exact m_iret C (by decide) (by decide) dX8_extent_27 (by rw [show k_extent cm ar v wn = 1 by simp [k_extent, h1]]; exact ⟨⟨_, _, hR⟩, fun z => absurd z (by decide)⟩)
  · have h1 := bI_n h1
    obtain ⟨j, hj, hvj, hp⟩ := q_node_J hw.1 h1
    subst hvj
    have hjc : jN (nI j) = j := nI_clamp (by omega)
    refine m_iload_n C dX8_extent_13 rfl 2 rfl ?_
    refine m_iconst (v := 0) C dX8_extent_14 (by decide) ?_
    refine m_iconst (v := 4) C dX8_extent_15 (by decide) ?_
    refine m_callSFi (As := [.int wn, .int 0, .int 4]) (st := []) C (c_X8_isIn D A l M wn 0 4) (va_cwS 3 C.1.2.2.2.2 gX8_extent_X8_isIn rfl rfl rfl (by decide +kernel) ⟨Nat.le_of_ble_eq_true rfl, Nat.le_of_ble_eq_true rfl⟩) rfl rfl (Nat.le_of_ble_eq_true rfl) dX8_extent_16 ⟨Nat.le_of_ble_eq_true rfl, Nat.le_of_ble_eq_true rfl⟩ ?_
    refine m_if_ne (tgt := 28) C dX8_extent_19 (by decide) (fun h2 => ?_) (fun h2 => ?_)
    · have h2 := bI_n h2
      obtain ⟨jw, hjw, hww⟩ := q_in_N (a := 4) (by decide) h2
      subst hww
      have hjwc : jN (nI jw) = jw := nI_clamp (by omega)
      refine m_aload_n C dX8_extent_28 rfl 0 rfl ?_
      refine m_iload_n C dX8_extent_29 rfl 1 rfl ?_
      refine m_callVv (As := [.int (nI j)]) (st := []) C hR.1 rfl (c_X8_walkAll D A l hR (n0 := j) (by omega) (wf_tr40 hw hj hp) (wf_pre40 hw hj hp)) (cwV 1 C.1.2.2.2.2 gX8_extent_X8_walkAll rfl rfl rfl (by decide +kernel) ⟨Nat.le_of_ble_eq_true rfl, Nat.le_of_ble_eq_true rfl⟩) rfl rfl (Nat.le_of_ble_eq_true rfl) dX8_extent_30 ⟨Nat.le_of_ble_eq_true rfl, Nat.le_of_ble_eq_true rfl⟩ (fun M hq9 => ?_)
      obtain ⟨od2, hod, hR⟩ := hq9
      have hL := wf_preL hw hj hp
      have hlen := wf_pre40 hw hj hp
      refine m_iconst (v := 5) C dX8_extent_33 (by decide) ?_
      refine r_newI C hR (by decide +kernel) 5 rfl (by decide) (by decide) (by decide) dX8_extent_34 (fun q9 M hq9 hR => ?_)
      have hF : (m_up F q9 (.inl (D.2.1 0, 5, .inl (fun _ => 0)))) q9 = some (.inl (D.2.1 0, 5, .inl (fun _ => 0))) := m_up_s
      refine m_dup C dX8_extent_36 rfl ?_
      refine m_iconst (v := 0) C dX8_extent_37 (by decide) ?_
      refine m_iconst (v := 0) C dX8_extent_38 (by decide) ?_
      refine r_iastF C hR (F := (m_up F q9 (.inl (D.2.1 0, 5, .inl (fun _ => 0))))) hF 0 (by decide) (by decide) rfl dX8_extent_39 (fun M hR => ?_)
      rw [m_up_up] at hR
      have hF : (m_up F q9 (.inl (D.2.1 0, 5, .inl (upd (fun _ => 0) 0 0)))) q9 = some (.inl (D.2.1 0, 5, .inl (upd (fun _ => 0) 0 0))) := m_up_s
      refine m_dup C dX8_extent_40 rfl ?_
      refine m_iconst (v := 1) C dX8_extent_41 (by decide) ?_
      refine m_iconst (v := (-1)) C dX8_extent_42 (by decide) ?_
      refine r_iastF C hR (F := (m_up F q9 (.inl (D.2.1 0, 5, .inl (upd (fun _ => 0) 0 0))))) hF 1 (by decide) (by decide) rfl dX8_extent_43 (fun M hR => ?_)
      rw [m_up_up] at hR
      have hF : (m_up F q9 (.inl (D.2.1 0, 5, .inl (upd (upd (fun _ => 0) 0 0) 1 (-1))))) q9 = some (.inl (D.2.1 0, 5, .inl (upd (upd (fun _ => 0) 0 0) 1 (-1)))) := m_up_s
      refine m_dup C dX8_extent_44 rfl ?_
      refine m_iconst (v := 2) C dX8_extent_45 (by decide) ?_
      refine m_iconst (v := (-1)) C dX8_extent_46 (by decide) ?_
      refine r_iastF C hR (F := (m_up F q9 (.inl (D.2.1 0, 5, .inl (upd (upd (fun _ => 0) 0 0) 1 (-1)))))) hF 2 (by decide) (by decide) rfl dX8_extent_47 (fun M hR => ?_)
      rw [m_up_up] at hR
      have hF : (m_up F q9 (.inl (D.2.1 0, 5, .inl (upd (upd (upd (fun _ => 0) 0 0) 1 (-1)) 2 (-1))))) q9 = some (.inl (D.2.1 0, 5, .inl (upd (upd (upd (fun _ => 0) 0 0) 1 (-1)) 2 (-1)))) := m_up_s
      refine m_dup C dX8_extent_48 rfl ?_
      refine m_iconst (v := 3) C dX8_extent_49 (by decide) ?_
      refine m_iconst (v := (-1)) C dX8_extent_50 (by decide) ?_
      refine r_iastF C hR (F := (m_up F q9 (.inl (D.2.1 0, 5, .inl (upd (upd (upd (fun _ => 0) 0 0) 1 (-1)) 2 (-1)))))) hF 3 (by decide) (by decide) rfl dX8_extent_51 (fun M hR => ?_)
      rw [m_up_up] at hR
      have hF : (m_up F q9 (.inl (D.2.1 0, 5, .inl (upd (upd (upd (upd (fun _ => 0) 0 0) 1 (-1)) 2 (-1)) 3 (-1))))) q9 = some (.inl (D.2.1 0, 5, .inl (upd (upd (upd (upd (fun _ => 0) 0 0) 1 (-1)) 2 (-1)) 3 (-1)))) := m_up_s
      refine m_dup C dX8_extent_52 rfl ?_
      refine m_iconst (v := 4) C dX8_extent_53 (by decide) ?_
      refine m_iconst (v := (-1)) C dX8_extent_54 (by decide) ?_
      refine r_iastF C hR (F := (m_up F q9 (.inl (D.2.1 0, 5, .inl (upd (upd (upd (upd (fun _ => 0) 0 0) 1 (-1)) 2 (-1)) 3 (-1)))))) hF 4 (by decide) (by decide) rfl dX8_extent_55 (fun M hR => ?_)
      rw [m_up_up] at hR
      have hF : (m_up F q9 (.inl (D.2.1 0, 5, .inl (upd (upd (upd (upd (upd (fun _ => 0) 0 0) 1 (-1)) 2 (-1)) 3 (-1)) 4 (-1))))) q9 = some (.inl (D.2.1 0, 5, .inl (upd (upd (upd (upd (upd (fun _ => 0) 0 0) 1 (-1)) 2 (-1)) 3 (-1)) 4 (-1)))) := m_up_s
      refine m_astore_n (L' := [(3, .ref q9), (0, .ref o), (1, .int (nI j)), (2, .int (nI jw))]) C dX8_extent_56 rfl (by decide) rfl ?_
      refine m_iconst (v := 0) C dX8_extent_57 (by decide) ?_
      refine m_istore (L' := [(4, .int 0), (3, .ref q9), (0, .ref o), (1, .int (nI j)), (2, .int (nI jw))]) C dX8_extent_58 (by decide) rfl ?_
      refine m_sub (L' := [(4, .int 0), (0, .ref o), (1, .int (nI j)), (2, .int (nI jw)), (3, .ref q9)]) [0, 2, 3, 4, 1] rfl ?_
      refine lp_X8_exx (L9 := pre9 ar j) (T0 := q_ext0) hw hlen hod hL (by omega) C i8 (fun M hR => ?_) _ 0 M rfl (by decide) hR
      have hF : (m_up F q9 (.inl (D.2.1 0, 5, .inl (q_exx ar (pre9 ar j) q_ext0 64)))) q9 = some (.inl (D.2.1 0, 5, .inl (q_exx ar (pre9 ar j) q_ext0 64))) := m_up_s
      refine m_aload_n C dX8_extent_165 rfl 3 rfl ?_
      refine m_iload_n C dX8_extent_166 rfl 2 rfl ?_
      refine r_ialdF C hR (F := (m_up F q9 (.inl (D.2.1 0, 5, .inl (q_exx ar (pre9 ar j) q_ext0 64))))) hF jw (by omega) (by decide) rfl dX8_extent_167 ?_
      have hR := hR.back hq9
      exact m_iret C (by decide) (by decide) dX8_extent_168 (by rw [show k_extent cm ar (nI j) (nI jw) = 0 by simp [k_extent, h1, hjc, h2]]; exact ⟨⟨_, _, hR⟩, fun _ => by rw [v_extent, hjc, hjwc]⟩)
    · have h2 := bI_z h2
      refine m_aload_n C dX8_extent_22 rfl 0 rfl ?_
      refine m_iconst (v := 1) C dX8_extent_23 (by decide) ?_
      refine m_callVi (As := [.int 1]) (st := []) C hR.1 rfl (c_X8_fail D A l hR 1) (cwV 1 C.1.2.2.2.2 gX8_extent_X8_fail rfl rfl rfl (by decide +kernel) ⟨Nat.le_of_ble_eq_true rfl, Nat.le_of_ble_eq_true rfl⟩) rfl rfl (Nat.le_of_ble_eq_true rfl) dX8_extent_24 ⟨Nat.le_of_ble_eq_true rfl, Nat.le_of_ble_eq_true rfl⟩ (fun r M h => ?_)
      obtain ⟨rfl, hR⟩ := h
      exact m_iret C (by decide) (by decide) dX8_extent_27 (by rw [show k_extent cm ar (nI j) wn = 1 by simp [k_extent, h1, hjc, h2]]; exact ⟨⟨_, _, hR⟩, fun z => absurd z (by decide)⟩)
