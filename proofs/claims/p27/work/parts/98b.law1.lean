/-! ===== the law: one pixel ===== -/
set_option maxHeartbeats 4000000 in
set_option maxRecDepth 100000 in
theorem law_anc {p : Program} {l : Launch} {e : Env} {s : State} {m : MethodId} {args : Array Value} {below : List Frame} {meth : Method} {c : Code} {Q : State → Prop} {D : mD} {A : Nat → Prop} {y0 : MethodName} {ret0 : Option FieldType} {Z : Nat → Nat} {F : Mm} {cm g0 : Nat} {ar : rA} {o2 b qn qc qp : Nat} {nr cr : Nat → Option Nat} {B : Nat → Nat → Int32} {K : Nat → List Nat} (hRF : hW D o2 qn qc qp nr cr cm (nI g0) B K F) (hnr : ∀ n, n < 40 → ((∃ a, nr n = some a) ↔ cP ar cm n)) (hB0 : ∀ n, cP ar cm n → B n 0 = ar 3 n) (hP : lP cm ar) (hB : PB ar) (hg : g0 ≤ 255) (hst : l.stackTraces = false) (C : mC p m meth c cL_law 11 s args wsL_law RL D A y0 ret0) {k n9 : Nat} {v5 v6 v7 v8 : Int32} {x y n : Nat} (hx : x < 64) (hy : y < 48) (hk : k ≤ 600064) (hn9 : n9 ≤ 7301640) (hn : cP ar cm n) (hs : q_shown ar n (nI x) (nI y) = true) (kx : ∀ M : Mm, cI D Z F cm (nI g0) ar M → mV p l e room_1 s m args below meth c 11 D A Q M k n9 [(9, .int (nI n)), (8, .int v8), (7, .int v7), (6, .int v6), (5, .int v5), (4, .int (nI y)), (3, .int (nI x)), (2, .ref o2), (1, .ref (Z 0)), (0, .ref b)] [] 188)  : ∀ (d a : Nat) (M : Mm), (chn ar a).length = d → a ∈ chn ar n → cI D Z F cm (nI g0) ar M → mV p l e room_1 s m args below meth c 11 D A Q M k n9 [(10, .int (nI a)), (9, .int (nI n)), (8, .int v8), (7, .int v7), (6, .int v6), (5, .int v5), (4, .int (nI y)), (3, .int (nI x)), (2, .ref o2), (1, .ref (Z 0)), (0, .ref b)] [] 157 := by
  have hw : wf ar cm := hP.1
  have hb : BD ar cm := hP.2.1
  intro d
  induction d using Nat.strongRecOn with
  | _ d ih =>
    intro a M hd ha hI
    have hap : cP ar cm a := wf_all hw hn.1 hn.2 ha
    have ha4 := cP_40 hw hap
    refine m_iload C dL_law_157 0 rfl ?_
    refine m_if_lt (tgt := 188) C dL_law_159 (by decide) (fun h_1 => ?_) (fun h_1 => ?_)
    · exact absurd h_1 (nI_pos (by omega))
    · refine m_aload_n C dL_law_162 rfl 9 rfl ?_
      refine m_iload C dL_law_163 0 rfl ?_
      refine m_iload_n C dL_law_165 rfl 7 rfl ?_
      refine m_iload C dL_law_166 6 rfl ?_
      obtain ⟨mf0, hme⟩ := hI.me
      refine m_callVi (As := [.int (nI a), .int (nI x), .int (nI y)]) (st := []) C hme rfl (c_X7_shows0 D A l hI hw hb hap hx hy) (cwV 3 C.1.2.2.2.2 gL_law_X7_shows rfl rfl rfl (by decide +kernel) ⟨Nat.le_of_ble_eq_true rfl, Nat.le_of_ble_eq_true rfl⟩) rfl rfl (Nat.le_of_ble_eq_true rfl) dL_law_168 ⟨by show k + 0 ≤ 600064; omega, by show n9 + 0 ≤ 7301640; omega⟩ (fun r M1 hq1 => ?_)
      obtain ⟨hr, hI⟩ := hq1
      rw [anc_any hw hn hs ha] at hr
      subst hr
      refine mV_kn (k := k) (n := n9) rfl rfl ?_
      refine m_i (y := 1) rfl ?_
      refine m_if_ne (tgt := 176) C dL_law_171 (by decide) (fun h_2 => ?_) (fun h_2 => ?_)
      · refine m_aload_n C dL_law_176 rfl 9 rfl ?_
        refine m_iload C dL_law_177 0 rfl ?_
        refine m_iconst (v := 1) C dL_law_179 (by decide) ?_
        obtain ⟨mf0, hme⟩ := hI.me
        refine m_callVi (As := [.int (nI a), .int 1]) (st := []) C hme rfl (c_X7_node0 D A l hI hw hb hap (w9 := 1) (by decide)) (cwV 2 C.1.2.2.2.2 gL_law_X7_node rfl rfl rfl (by decide +kernel) ⟨Nat.le_of_ble_eq_true rfl, Nat.le_of_ble_eq_true rfl⟩) rfl rfl (Nat.le_of_ble_eq_true rfl) dL_law_180 ⟨by show k + 0 ≤ 600064; omega, by show n9 + 0 ≤ 7301640; omega⟩ (fun r M1 hq1 => ?_)
        obtain ⟨e1, e2⟩ := hq1
        subst e1
        rw [show q_tld ar (chn ar a) (plc ar a) a 1 = ar 4 a from rfl] at e2
        subst e2
        refine mV_kn (k := k) (n := n9) rfl rfl ?_
        by_cases h0 : a = 0
        · rw [show ar 4 a = -1 by rw [h0]; exact hw.2.1.2.2]
          refine m_istore (L' := [(10, .int ((-1))), (9, .int (nI n)), (8, .int v8), (7, .int v7), (6, .int v6), (5, .int v5), (4, .int (nI y)), (3, .int (nI x)), (2, .ref o2), (1, .ref (Z 0)), (0, .ref b)]) C dL_law_183 (by decide) rfl ?_
          refine m_goto (tgt := 157) C dL_law_185 (by decide) ?_
          refine m_iload C dL_law_157 0 rfl ?_
          refine m_if_lt (tgt := 188) C dL_law_159 (by decide) (fun h_3 => ?_) (fun h_3 => ?_)
          · refine m_sub (L' := [(9, .int (nI n)), (8, .int v8), (7, .int v7), (6, .int v6), (5, .int v5), (4, .int (nI y)), (3, .int (nI x)), (2, .ref o2), (1, .ref (Z 0)), (0, .ref b)]) [1, 2, 3, 4, 5, 6, 7, 8, 9, 10] rfl ?_
            exact kx _ hI
          · exact absurd h_3 (by decide)
        · obtain ⟨p1, p2, -, -, -⟩ := wf_place hw hap.1 hap.2 h0
          rw [p2]
          refine m_istore (L' := [(10, .int (nI (par9 ar a))), (9, .int (nI n)), (8, .int v8), (7, .int v7), (6, .int v6), (5, .int v5), (4, .int (nI y)), (3, .int (nI x)), (2, .ref o2), (1, .ref (Z 0)), (0, .ref b)]) C dL_law_183 (by decide) rfl ?_
          refine m_goto (tgt := 157) C dL_law_185 (by decide) ?_
          refine m_sub (L' := [(10, .int (nI (par9 ar a))), (9, .int (nI n)), (8, .int v8), (7, .int v7), (6, .int v6), (5, .int v5), (4, .int (nI y)), (3, .int (nI x)), (2, .ref o2), (1, .ref (Z 0)), (0, .ref b)]) [0, 1, 2, 3, 4, 5, 6, 7, 8, 9, 10] rfl ?_
          have hl := (wf_chp hw hap.1 hap.2 h0).1
          exact ih _ (by rw [← hd, hl, List.length_cons]; omega) (par9 ar a) _ rfl (par_ch hw hn ha h0) hI
      · exact absurd h_2 (by decide)
set_option maxHeartbeats 4000000 in
set_option maxRecDepth 100000 in
theorem law_nodes {p : Program} {l : Launch} {e : Env} {s : State} {m : MethodId} {args : Array Value} {below : List Frame} {meth : Method} {c : Code} {Q : State → Prop} {D : mD} {A : Nat → Prop} {y0 : MethodName} {ret0 : Option FieldType} {Z : Nat → Nat} {F : Mm} {cm g0 : Nat} {ar : rA} {o2 b qn qc qp : Nat} {nr cr : Nat → Option Nat} {B : Nat → Nat → Int32} {K : Nat → List Nat} (hRF : hW D o2 qn qc qp nr cr cm (nI g0) B K F) (hnr : ∀ n, n < 40 → ((∃ a, nr n = some a) ↔ cP ar cm n)) (hB0 : ∀ n, cP ar cm n → B n 0 = ar 3 n) (hP : lP cm ar) (hB : PB ar) (hg : g0 ≤ 255) (hst : l.stackTraces = false) (C : mC p m meth c cL_law 11 s args wsL_law RL D A y0 ret0) {k n9 : Nat} {v5 : Int32} {x y : Nat} (hx : x < 64) (hy : y < 48) (hk : k ≤ 600064) (hn9 : n9 ≤ 7301640) (kx : ∀ (M : Mm) (lo hi : Nat) (any : Bool), cI D Z F cm (nI g0) ar M → pxI ar cm (nI x) (nI y) g0 cm lo hi any → mV p l e room_1 s m args below meth c 11 D A Q M k n9 [(9, .int (nI cm)), (8, .int (bI any)), (7, .int (nI hi)), (6, .int (nI lo)), (5, .int v5), (4, .int (nI y)), (3, .int (nI x)), (2, .ref o2), (1, .ref (Z 0)), (0, .ref b)] [] 194)  : ∀ (N9 n : Nat) (M : Mm) (lo hi : Nat) (any : Bool), cm - n = N9 → 1 ≤ n → n ≤ cm → cI D Z F cm (nI g0) ar M → pxI ar cm (nI x) (nI y) g0 n lo hi any → mV p l e room_1 s m args below meth c 11 D A Q M k n9 [(9, .int (nI n)), (8, .int (bI any)), (7, .int (nI hi)), (6, .int (nI lo)), (5, .int v5), (4, .int (nI y)), (3, .int (nI x)), (2, .ref o2), (1, .ref (Z 0)), (0, .ref b)] [] 74 := by
  have hw : wf ar cm := hP.1
  have hb : BD ar cm := hP.2.1
  have hcm := hw.1
  intro N9
  induction N9 using Nat.strongRecOn with
  | _ N9 ih =>
    intro n M lo hi any hN9 hn1 hnc hI hpx
    have hR : hW D o2 qn qc qp nr cr cm (nI g0) B K M := hRF.mono (fun a x h => hI.F0 h)
    refine m_iload C dL_law_74 0 rfl ?_
    refine m_aload_n C dL_law_76 rfl 7 rfl ?_
    refine m_get (ref := "PaintLayersLaw$Hand") C hR.1 rfl inlX8 2 (by decide) (by decide +kernel) (fun x h => h) (v := .int (nI cm)) rfl dL_law_77 ?_
    refine m_icmp_ge (tgt := 194) C dL_law_80 (by decide) (fun h_1 => ?_) (fun h_1 => ?_)
    · have hij : n = cm := by
        have := (nI_leI (a := cm) (b := n) (by omega) (by omega)).mp h_1
        omega
      subst hij
      exact kx M lo hi any hI hpx
    · have hij : n < cm := by
        rcases Nat.lt_or_ge n cm with z | z
        · exact z
        · exact absurd (nI_le (a := cm) (b := n) z (by omega)) h_1
      have hn40 : n < 40 := by omega
      refine m_aload_n C dL_law_83 rfl 7 rfl ?_
      refine m_get (ref := "PaintLayersLaw$Hand") C hR.1 rfl inlX8 0 (by decide) (by decide +kernel) (fun x h => h) (v := .ref qn) rfl dL_law_84 ?_
      refine m_iload C dL_law_87 0 rfl ?_
      refine m_aaldA C hR.2.1 (vp_in_nI hn40 (by decide)) dL_law_89 ?_
      rw [nI_clamp (show n < 2 ^ 31 by omega)]
      refine m_ifnull (tgt := 188) C dL_law_90 (by decide) (fun h_2 => ?_) (fun q_3 h_2 => ?_)
      · have hnp : ¬ cP ar cm n := fun y => by
          obtain ⟨a, ha⟩ := (hnr n hn40).mpr y
          rw [ha] at h_2
          cases h_2
        obtain ⟨x_4, ex_4⟩ : ∃ z : Int32, z = nI n + 1 := ⟨_, rfl⟩
        refine m_iinc (q := 0) (v := x_4) (L' := [(9, .int x_4), (8, .int (bI any)), (7, .int (nI hi)), (6, .int (nI lo)), (5, .int v5), (4, .int (nI y)), (3, .int (nI x)), (2, .ref o2), (1, .ref (Z 0)), (0, .ref b)]) C dL_law_188 rfl (by rw [ex_4]; rfl) (by decide) rfl ?_
        refine m_goto (tgt := 74) C dL_law_191 (by decide) ?_
        rw [nI_1] at ex_4
        subst ex_4
        refine m_sub (L' := [(9, .int (nI (n + 1))), (8, .int (bI any)), (7, .int (nI hi)), (6, .int (nI lo)), (5, .int v5), (4, .int (nI y)), (3, .int (nI x)), (2, .ref o2), (1, .ref (Z 0)), (0, .ref b)]) [0, 1, 2, 3, 4, 5, 6, 7, 8, 9] rfl ?_
        exact ih (cm - (n + 1)) (by omega) (n + 1) _ _ _ _ rfl (by omega) (by omega) hI (pxI_no hpx (fun y => hnp y.1))
      · have hnp : cP ar cm n := (hnr n hn40).mp ⟨_, h_2⟩
        refine m_aload_n C dL_law_93 rfl 7 rfl ?_
        refine m_get (ref := "PaintLayersLaw$Hand") C hR.1 rfl inlX8 0 (by decide) (by decide +kernel) (fun x h => h) (v := .ref qn) rfl dL_law_94 ?_
        refine m_iload C dL_law_97 0 rfl ?_
        refine m_aaldA C hR.2.1 (vp_in_nI hn40 (by decide)) dL_law_99 ?_
        rw [nI_clamp (show n < 2 ^ 31 by omega), h_2]
        refine m_iconst (v := 0) C dL_law_100 (by decide) ?_
        refine m_iald C (hR.nrow hn40 h_2) (by unfold vp_in; decide) dL_law_101 ?_
        refine m_i (y := B n 0) (rfl) ?_
        refine m_i (y := ar 3 n) (hB0 n hnp) ?_
        refine m_if_eq (tgt := 188) C dL_law_102 (by decide) (fun h_5 => ?_) (fun h_5 => ?_)
        · obtain ⟨x_6, ex_6⟩ : ∃ z : Int32, z = nI n + 1 := ⟨_, rfl⟩
          refine m_iinc (q := 0) (v := x_6) (L' := [(9, .int x_6), (8, .int (bI any)), (7, .int (nI hi)), (6, .int (nI lo)), (5, .int v5), (4, .int (nI y)), (3, .int (nI x)), (2, .ref o2), (1, .ref (Z 0)), (0, .ref b)]) C dL_law_188 rfl (by rw [ex_6]; rfl) (by decide) rfl ?_
          refine m_goto (tgt := 74) C dL_law_191 (by decide) ?_
          rw [nI_1] at ex_6
          subst ex_6
          refine m_sub (L' := [(9, .int (nI (n + 1))), (8, .int (bI any)), (7, .int (nI hi)), (6, .int (nI lo)), (5, .int v5), (4, .int (nI y)), (3, .int (nI x)), (2, .ref o2), (1, .ref (Z 0)), (0, .ref b)]) [0, 1, 2, 3, 4, 5, 6, 7, 8, 9] rfl ?_
          exact ih (cm - (n + 1)) (by omega) (n + 1) _ _ _ _ rfl (by omega) (by omega) hI (pxI_no hpx (fun y => y.2.1 h_5))
        · have h3 : ¬ ar 3 n = 0 := h_5
          refine m_aload_n C dL_law_105 rfl 8 rfl ?_
          refine m_iload C dL_law_106 0 rfl ?_
          refine m_iload_n C dL_law_108 rfl 6 rfl ?_
          refine m_iload C dL_law_109 5 rfl ?_
          obtain ⟨mf0, hme⟩ := hI.me
          refine m_callVi (As := [.int (nI n), .int (nI x), .int (nI y)]) (st := []) C hme rfl (c_X7_shows0 D A l hI hw hb hnp hx hy) (cwV 3 C.1.2.2.2.2 gL_law_X7_shows rfl rfl rfl (by decide +kernel) ⟨Nat.le_of_ble_eq_true rfl, Nat.le_of_ble_eq_true rfl⟩) rfl rfl (Nat.le_of_ble_eq_true rfl) dL_law_111 ⟨by show k + 0 ≤ 600064; omega, by show n9 + 0 ≤ 7301640; omega⟩ (fun r M1 hq1 => ?_)
          obtain ⟨hr, hI⟩ := hq1
          rw [sh_any hw hnp h3] at hr
          subst hr
          refine mV_kn (k := k) (n := n9) rfl rfl ?_
          refine m_if_ne (tgt := 120) C dL_law_114 (by decide) (fun h_7 => ?_) (fun h_7 => ?_)
          · have hs := bI_n h_7
            obtain ⟨bf, hbf, hfn⟩ := pb_fill hB (chn ar n)
            have hlo : lo < 2 ^ 31 := by have := hpx.1; omega
            have hhi : hi < 2 ^ 31 := by have := hpx.1; omega
            refine m_iload C dL_law_120 3 rfl ?_
            refine m_aload_n C dL_law_122 rfl 8 rfl ?_
            refine m_iload C dL_law_123 0 rfl ?_
            refine m_bipush (v := 7) C dL_law_125 (by decide) ?_
            obtain ⟨mf0, hme⟩ := hI.me
            refine m_callVi (As := [.int (nI n), .int 7]) (st := [.int (nI lo)]) C hme rfl (c_X7_node0 D A l hI hw hb hnp (w9 := 7) (by decide)) (cwV 2 C.1.2.2.2.2 gL_law_X7_node rfl rfl rfl (by decide +kernel) ⟨Nat.le_of_ble_eq_true rfl, Nat.le_of_ble_eq_true rfl⟩) rfl rfl (Nat.le_of_ble_eq_true rfl) dL_law_127 ⟨by show k + 0 ≤ 600064; omega, by show n9 + 0 ≤ 7301640; omega⟩ (fun r M1 hq1 => ?_)
            obtain ⟨e1, e2⟩ := hq1
            subst e1
            rw [show q_tld ar (chn ar n) (plc ar n) n 7 = q_fill ar (chn ar n) from rfl, hfn] at e2
            subst e2
            refine mV_kn (k := k) (n := n9) rfl rfl ?_
            refine m_mmin (x := nI lo) (y := nI bf) (index := 129) C (by decide +kernel) (by decide +kernel) (by decide +kernel) (by decide +kernel) (Nat.le_of_ble_eq_true rfl) (Nat.le_of_ble_eq_true rfl) hk hn9 dL_law_130 ?_
            rw [mn_N hlo (show bf < 2 ^ 31 by omega)]
            refine m_istore (L' := [(6, .int (nI (min lo bf))), (9, .int (nI n)), (8, .int (bI any)), (7, .int (nI hi)), (5, .int v5), (4, .int (nI y)), (3, .int (nI x)), (2, .ref o2), (1, .ref (Z 0)), (0, .ref b)]) C dL_law_133 (by decide) rfl ?_
            refine m_iload C dL_law_135 3 rfl ?_
            refine m_aload_n C dL_law_137 rfl 8 rfl ?_
            refine m_iload C dL_law_138 1 rfl ?_
            refine m_bipush (v := 7) C dL_law_140 (by decide) ?_
            obtain ⟨mf0, hme⟩ := hI.me
            refine m_callVi (As := [.int (nI n), .int 7]) (st := [.int (nI hi)]) C hme rfl (c_X7_node0 D A l hI hw hb hnp (w9 := 7) (by decide)) (cwV 2 C.1.2.2.2.2 gL_law_X7_node rfl rfl rfl (by decide +kernel) ⟨Nat.le_of_ble_eq_true rfl, Nat.le_of_ble_eq_true rfl⟩) rfl rfl (Nat.le_of_ble_eq_true rfl) dL_law_142 ⟨by show k + 0 ≤ 600064; omega, by show n9 + 0 ≤ 7301640; omega⟩ (fun r M1 hq1 => ?_)
            obtain ⟨e1, e2⟩ := hq1
            subst e1
            rw [show q_tld ar (chn ar n) (plc ar n) n 7 = q_fill ar (chn ar n) from rfl, hfn] at e2
            subst e2
            refine mV_kn (k := k) (n := n9) rfl rfl ?_
            refine m_mmax (x := nI hi) (y := nI bf) (index := 134) C (by decide +kernel) (by decide +kernel) (by decide +kernel) (by decide +kernel) (Nat.le_of_ble_eq_true rfl) (Nat.le_of_ble_eq_true rfl) hk hn9 dL_law_145 ?_
            rw [mx_N hhi (show bf < 2 ^ 31 by omega)]
            refine m_istore (L' := [(7, .int (nI (max hi bf))), (6, .int (nI (min lo bf))), (9, .int (nI n)), (8, .int (bI any)), (5, .int v5), (4, .int (nI y)), (3, .int (nI x)), (2, .ref o2), (1, .ref (Z 0)), (0, .ref b)]) C dL_law_148 (by decide) rfl ?_
            refine m_iconst (v := 1) C dL_law_150 (by decide) ?_
            refine m_istore (L' := [(8, .int 1), (7, .int (nI (max hi bf))), (6, .int (nI (min lo bf))), (9, .int (nI n)), (5, .int v5), (4, .int (nI y)), (3, .int (nI x)), (2, .ref o2), (1, .ref (Z 0)), (0, .ref b)]) C dL_law_151 (by decide) rfl ?_
            refine m_iload C dL_law_153 3 rfl ?_
            refine m_istore (L' := [(10, .int (nI n)), (8, .int 1), (7, .int (nI (max hi bf))), (6, .int (nI (min lo bf))), (9, .int (nI n)), (5, .int v5), (4, .int (nI y)), (3, .int (nI x)), (2, .ref o2), (1, .ref (Z 0)), (0, .ref b)]) C dL_law_155 (by decide) rfl ?_
            refine m_sub (L' := [(10, .int (nI n)), (9, .int (nI n)), (8, .int 1), (7, .int (nI (max hi bf))), (6, .int (nI (min lo bf))), (5, .int v5), (4, .int (nI y)), (3, .int (nI x)), (2, .ref o2), (1, .ref (Z 0)), (0, .ref b)]) [0, 4, 1, 2, 3, 5, 6, 7, 8, 9, 10] rfl ?_
            refine law_anc hRF hnr hB0 hP hB hg hst C hx hy hk hn9 hnp hs (fun M hI => ?_) _ n _ rfl (wf_self hw hnp.1 hnp.2) hI
            obtain ⟨x_8, ex_8⟩ : ∃ z : Int32, z = nI n + 1 := ⟨_, rfl⟩
            refine m_iinc (q := 0) (v := x_8) (L' := [(9, .int x_8), (8, .int 1), (7, .int (nI (max hi bf))), (6, .int (nI (min lo bf))), (5, .int v5), (4, .int (nI y)), (3, .int (nI x)), (2, .ref o2), (1, .ref (Z 0)), (0, .ref b)]) C dL_law_188 rfl (by rw [ex_8]; rfl) (by decide) rfl ?_
            refine m_goto (tgt := 74) C dL_law_191 (by decide) ?_
            rw [nI_1] at ex_8
            subst ex_8
            refine m_sub (L' := [(9, .int (nI (n + 1))), (8, .int 1), (7, .int (nI (max hi bf))), (6, .int (nI (min lo bf))), (5, .int v5), (4, .int (nI y)), (3, .int (nI x)), (2, .ref o2), (1, .ref (Z 0)), (0, .ref b)]) [0, 1, 2, 3, 4, 5, 6, 7, 8, 9] rfl ?_
            exact ih (cm - (n + 1)) (by omega) (n + 1) _ _ _ _ rfl (by omega) (by omega) hI (pxI_yes hpx ⟨hnp, h3, hs⟩ hbf hfn)
          · have hs := bI_z h_7
            refine m_goto (tgt := 188) C dL_law_117 (by decide) ?_
            obtain ⟨x_9, ex_9⟩ : ∃ z : Int32, z = nI n + 1 := ⟨_, rfl⟩
            refine m_iinc (q := 0) (v := x_9) (L' := [(9, .int x_9), (8, .int (bI any)), (7, .int (nI hi)), (6, .int (nI lo)), (5, .int v5), (4, .int (nI y)), (3, .int (nI x)), (2, .ref o2), (1, .ref (Z 0)), (0, .ref b)]) C dL_law_188 rfl (by rw [ex_9]; rfl) (by decide) rfl ?_
            refine m_goto (tgt := 74) C dL_law_191 (by decide) ?_
            rw [nI_1] at ex_9
            subst ex_9
            refine m_sub (L' := [(9, .int (nI (n + 1))), (8, .int (bI any)), (7, .int (nI hi)), (6, .int (nI lo)), (5, .int v5), (4, .int (nI y)), (3, .int (nI x)), (2, .ref o2), (1, .ref (Z 0)), (0, .ref b)]) [0, 1, 2, 3, 4, 5, 6, 7, 8, 9] rfl ?_
            exact ih (cm - (n + 1)) (by omega) (n + 1) _ _ _ _ rfl (by omega) (by omega) hI (pxI_no hpx (fun y => by have := y.2.2; rw [hs] at this; cases this))
