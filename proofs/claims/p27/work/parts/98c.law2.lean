/-! ===== the law: the pixels ===== -/
theorem px_ge {v lo cm : Nat} (h : lo ≤ v) (hv : v < 1000) (hc : cm < 1000) : nI lo - nI cm ≤ nI v := by
  rw [Int32.le_iff_toInt_le, pk_sub_toInt (by omega) (by omega), nI_toInt (by omega)]
  omega
set_option maxHeartbeats 4000000 in
set_option maxRecDepth 100000 in
theorem law_pix {p : Program} {l : Launch} {e : Env} {s : State} {m : MethodId} {args : Array Value} {below : List Frame} {meth : Method} {c : Code} {Q : State → Prop} {D : mD} {A : Nat → Prop} {y0 : MethodName} {ret0 : Option FieldType} {Z : Nat → Nat} {F : Mm} {cm g0 : Nat} {ar : rA} {o2 b qn qc qp : Nat} {nr cr : Nat → Option Nat} {B : Nat → Nat → Int32} {K : Nat → List Nat} (hRF : hW D o2 qn qc qp nr cr cm (nI g0) B K F) (hnr : ∀ n, n < 40 → ((∃ a, nr n = some a) ↔ cP ar cm n)) (hB0 : ∀ n, cP ar cm n → B n 0 = ar 3 n) (hP : lP cm ar) (hB : PB ar) (hg : g0 ≤ 255) (hst : l.stackTraces = false) (C : mC p m meth c cL_law 11 s args wsL_law RL D A y0 ret0) {k n9 : Nat} {x y : Nat} (hx : x < 64) (hy : y < 48) (hk : k + 2 ≤ 600064) (hn9 : n9 + 12 ≤ 7301640) (kx : ∀ M : Mm, cI D Z F cm (nI g0) ar M → mV p l e room_1 s m args below meth c 11 D A Q M (k + 1 + 1) (n9 + 6 + 6) [(4, .int (nI y)), (3, .int (nI x)), (2, .ref o2), (1, .ref (Z 0)), (0, .ref b)] [] 297)  : ∀ M : Mm, cI D Z F cm (nI g0) ar M → mV p l e room_1 s m args below meth c 11 D A Q M k n9 [(4, .int (nI y)), (3, .int (nI x)), (2, .ref o2), (1, .ref (Z 0)), (0, .ref b)] [] 47 := by
  have hw : wf ar cm := hP.1
  have hb : BD ar cm := hP.2.1
  have hcm := hw.1
  intro M hI
  refine m_aload_n C dL_law_47 rfl 3 rfl ?_
  refine m_iload_n C dL_law_48 rfl 1 rfl ?_
  refine m_iload C dL_law_49 0 rfl ?_
  have hk0 : k_pix (nI x) (nI y) = 0 := pix_0 hx hy
  obtain ⟨mf0, hme⟩ := hI.me
  refine m_callVXiH (As := [.int (nI x), .int (nI y)]) (st := []) C hme rfl (c_X7_hit D A l hst hI hw hb) (cwV 2 C.1.2.2.2.2 gL_law_X7_hit rfl rfl rfl (by decide +kernel) ⟨Nat.le_of_ble_eq_true rfl, Nat.le_of_ble_eq_true rfl⟩) rfl rfl (Nat.le_of_ble_eq_true rfl) dL_law_51 ⟨by show k + 1 ≤ 600064; omega, by show n9 + 6 ≤ 7301640; omega⟩ (fun E M9 hx => ?_) (fun r M1 hp => ?_)
  · exact absurd (hk0.symm.trans hx.2.1) (by decide)
  · obtain ⟨-, hr, hI⟩ := hp
    obtain ⟨vh, hvh⟩ : ∃ v, q_hitL ar (pre9 ar 0) (nI x) (nI y) = v := ⟨_, rfl⟩
    rw [hvh] at hr
    rw [hr]
    have hR : hW D o2 qn qc qp nr cr cm (nI g0) B K M1 := hRF.mono (fun a x h => hI.F0 h)
    refine m_istore (L' := [(5, .int vh), (4, .int (nI y)), (3, .int (nI x)), (2, .ref o2), (1, .ref (Z 0)), (0, .ref b)]) C dL_law_54 (by decide) rfl ?_
    refine m_aload_n C dL_law_56 rfl 3 rfl ?_
    refine m_get (ref := "PaintLayersLaw$Hand") C hR.1 rfl inlX8 3 (by decide) (by decide +kernel) (fun x h => h) (v := .int (nI g0)) rfl dL_law_57 ?_
    refine m_istore (L' := [(6, .int (nI g0)), (5, .int vh), (4, .int (nI y)), (3, .int (nI x)), (2, .ref o2), (1, .ref (Z 0)), (0, .ref b)]) C dL_law_60 (by decide) rfl ?_
    refine m_aload_n C dL_law_62 rfl 4 rfl ?_
    refine m_get (ref := "PaintLayersLaw$Hand") C hR.1 rfl inlX8 3 (by decide) (by decide +kernel) (fun x h => h) (v := .int (nI g0)) rfl dL_law_63 ?_
    refine m_istore (L' := [(7, .int (nI g0)), (6, .int (nI g0)), (5, .int vh), (4, .int (nI y)), (3, .int (nI x)), (2, .ref o2), (1, .ref (Z 0)), (0, .ref b)]) C dL_law_66 (by decide) rfl ?_
    refine m_iconst (v := 0) C dL_law_68 (by decide) ?_
    refine m_istore (L' := [(8, .int 0), (7, .int (nI g0)), (6, .int (nI g0)), (5, .int vh), (4, .int (nI y)), (3, .int (nI x)), (2, .ref o2), (1, .ref (Z 0)), (0, .ref b)]) C dL_law_69 (by decide) rfl ?_
    refine m_iconst (v := 1) C dL_law_71 (by decide) ?_
    refine m_istore (L' := [(9, .int 1), (8, .int 0), (7, .int (nI g0)), (6, .int (nI g0)), (5, .int vh), (4, .int (nI y)), (3, .int (nI x)), (2, .ref o2), (1, .ref (Z 0)), (0, .ref b)]) C dL_law_72 (by decide) rfl ?_
    refine m_sub (L' := [(9, .int (nI 1)), (8, .int (bI false)), (7, .int (nI g0)), (6, .int (nI g0)), (5, .int vh), (4, .int (nI y)), (3, .int (nI x)), (2, .ref o2), (1, .ref (Z 0)), (0, .ref b)]) [0, 1, 2, 3, 4, 5, 6, 7, 8, 9] rfl ?_
    refine law_nodes hRF hnr hB0 hP hB hg hst C hx hy (show k + 1 ≤ 600064 by omega) (show n9 + 6 ≤ 7301640 by omega) (fun M lo hi any hI hpx => ?_) _ 1 _ g0 g0 false rfl (Nat.le_refl _) hcm.1 hI (pxI_0 hw hg)
    refine m_aload_n C dL_law_194 rfl 8 rfl ?_
    refine m_iload_n C dL_law_195 rfl 6 rfl ?_
    refine m_iload C dL_law_196 5 rfl ?_
    obtain ⟨v, v1, v2, v3⟩ := px_val hw hB hpx
    have hlo : hi ≤ 255 := hpx.1.2.2
    have hk0 : k_pix (nI x) (nI y) = 0 := pix_0 hx hy
    obtain ⟨mf0, hme⟩ := hI.me
    refine m_callVXiH (As := [.int (nI x), .int (nI y)]) (st := []) C hme rfl (c_X7_value D A l hst hI hw hb) (cwV 2 C.1.2.2.2.2 gL_law_X7_value rfl rfl rfl (by decide +kernel) ⟨Nat.le_of_ble_eq_true rfl, Nat.le_of_ble_eq_true rfl⟩) rfl rfl (Nat.le_of_ble_eq_true rfl) dL_law_198 ⟨by show (k + 1) + 1 ≤ 600064; omega, by show (n9 + 6) + 6 ≤ 7301640; omega⟩ (fun E M9 hx => ?_) (fun r M1 hp => ?_)
    · exact absurd (hk0.symm.trans hx.2.1) (by decide)
    · obtain ⟨-, hr, hI⟩ := hp
      rw [v3] at hr
      subst hr
      have hR : hW D o2 qn qc qp nr cr cm (nI g0) B K M1 := hRF.mono (fun a x h => hI.F0 h)
      refine m_istore (L' := [(9, .int (nI v)), (8, .int (bI any)), (7, .int (nI hi)), (6, .int (nI lo)), (5, .int vh), (4, .int (nI y)), (3, .int (nI x)), (2, .ref o2), (1, .ref (Z 0)), (0, .ref b)]) C dL_law_201 (by decide) rfl ?_
      refine m_sub (L' := [(9, .int (nI v)), (8, .int (bI any)), (7, .int (nI hi)), (6, .int (nI lo)), (5, .int vh), (4, .int (nI y)), (3, .int (nI x)), (2, .ref o2), (1, .ref (Z 0)), (0, .ref b)]) [0, 1, 2, 3, 4, 5, 6, 7, 8, 9] rfl ?_
      have h230 : ∀ M : Mm, cI D Z F cm (nI g0) ar M → mV p l e room_1 s m args below meth c 11 D A Q M ((k + 1) + 1) ((n9 + 6) + 6) [(9, .int (nI v)), (8, .int (bI any)), (7, .int (nI hi)), (6, .int (nI lo)), (5, .int vh), (4, .int (nI y)), (3, .int (nI x)), (2, .ref o2), (1, .ref (Z 0)), (0, .ref b)] [] 230 := by
        intro M hI
        have hR : hW D o2 qn qc qp nr cr cm (nI g0) B K M := hRF.mono (fun a x h => hI.F0 h)
        refine m_iload C dL_law_230 0 rfl ?_
        refine m_iload C dL_law_232 2 rfl ?_
        refine m_icmp_gt (tgt := 249) C dL_law_234 (by decide) (fun h_1 => ?_) (fun h_1 => ?_)
        · exact absurd ((nI_ltI (by omega) (by omega)).mp h_1) (by omega)
        · refine m_iload C dL_law_237 0 rfl ?_
          refine m_iload C dL_law_239 3 rfl ?_
          refine m_aload_n C dL_law_241 rfl 7 rfl ?_
          refine m_get (ref := "PaintLayersLaw$Hand") C hR.1 rfl inlX8 2 (by decide) (by decide +kernel) (fun x h => h) (v := .int (nI cm)) rfl dL_law_242 ?_
          refine m_isub C dL_law_245 ?_
          refine m_icmp_ge (tgt := 251) C dL_law_246 (by decide) (fun h_2 => ?_) (fun h_2 => ?_)
          · rcases hit_L (ar := ar) (px := nI x) (py := nI y) (pre9 ar 0) with ⟨e, hno⟩ | ⟨h, hm, e, hs, hp⟩
            · rw [hvh] at e
              subst e
              have hvg := val_st0 hB (px := nI x) (py := nI y) (pre9 ar 0) g0 hg hno
              have hvv : nI v = nI g0 := v3.symm.trans hvg
              rw [hvv]
              refine m_iload C dL_law_251 4 rfl ?_
              refine m_if_lt (tgt := 281) C dL_law_253 (by decide) (fun h_3 => ?_) (fun h_3 => ?_)
              · refine m_iload C dL_law_281 4 rfl ?_
                refine m_if_ge (tgt := 297) C dL_law_283 (by decide) (fun h_4 => ?_) (fun h_4 => ?_)
                · exact absurd h_4 (by decide)
                · refine m_iload C dL_law_286 0 rfl ?_
                  refine m_aload_n C dL_law_288 rfl 7 rfl ?_
                  refine m_get (ref := "PaintLayersLaw$Hand") C hR.1 rfl inlX8 3 (by decide) (by decide +kernel) (fun x h => h) (v := .int (nI g0)) rfl dL_law_289 ?_
                  refine m_icmp_eq (tgt := 297) C dL_law_292 (by decide) (fun h_5 => ?_) (fun h_5 => ?_)
                  · refine m_sub (L' := [(4, .int (nI y)), (3, .int (nI x)), (2, .ref o2), (1, .ref (Z 0)), (0, .ref b)]) [5, 6, 7, 8, 9] rfl ?_
                    exact kx _ hI
                  · exact absurd rfl h_5
              · exact absurd h_3 (by decide)
            · rw [hvh] at e
              subst e
              have hhp := of_root hw hm
              have hh4 := cP_40 hw hhp
              refine m_iload C dL_law_251 4 rfl ?_
              refine m_if_lt (tgt := 281) C dL_law_253 (by decide) (fun h_6 => ?_) (fun h_6 => ?_)
              · exact absurd h_6 (nI_pos (by omega))
              · refine m_aload_n C dL_law_256 rfl 8 rfl ?_
                refine m_iload C dL_law_257 4 rfl ?_
                refine m_iload_n C dL_law_259 rfl 6 rfl ?_
                refine m_iload C dL_law_260 5 rfl ?_
                obtain ⟨mf0, hme⟩ := hI.me
                refine m_callVi (As := [.int (nI h), .int (nI x), .int (nI y)]) (st := []) C hme rfl (c_X7_shows0 D A l hI hw hb hhp hx hy) (cwV 3 C.1.2.2.2.2 gL_law_X7_shows rfl rfl rfl (by decide +kernel) ⟨Nat.le_of_ble_eq_true rfl, Nat.le_of_ble_eq_true rfl⟩) rfl rfl (Nat.le_of_ble_eq_true rfl) dL_law_262 ⟨by show ((k + 1) + 1) + 0 ≤ 600064; omega, by show ((n9 + 6) + 6) + 0 ≤ 7301640; omega⟩ (fun r M1 hq1 => ?_)
                obtain ⟨hr, hI⟩ := hq1
                rw [any_of (wf_pre_hd hw hhp.1 hhp.2) hs] at hr
                subst hr
                refine mV_kn (k := ((k + 1) + 1)) (n := ((n9 + 6) + 6)) rfl rfl ?_
                refine m_i (y := 1) rfl ?_
                refine m_if_eq (tgt := 279) C dL_law_265 (by decide) (fun h_7 => ?_) (fun h_7 => ?_)
                · exact absurd h_7 (by decide)
                · refine m_aload_n C dL_law_268 rfl 8 rfl ?_
                  refine m_iload C dL_law_269 4 rfl ?_
                  refine m_bipush (v := 9) C dL_law_271 (by decide) ?_
                  obtain ⟨mf0, hme⟩ := hI.me
                  refine m_callVi (As := [.int (nI h), .int 9]) (st := []) C hme rfl (c_X7_node0 D A l hI hw hb hhp (w9 := 9) (by decide)) (cwV 2 C.1.2.2.2.2 gL_law_X7_node rfl rfl rfl (by decide +kernel) ⟨Nat.le_of_ble_eq_true rfl, Nat.le_of_ble_eq_true rfl⟩) rfl rfl (Nat.le_of_ble_eq_true rfl) dL_law_273 ⟨by show ((k + 1) + 1) + 0 ≤ 600064; omega, by show ((n9 + 6) + 6) + 0 ≤ 7301640; omega⟩ (fun r M1 hq1 => ?_)
                  obtain ⟨e1, e2⟩ := hq1
                  subst e1
                  rw [show q_tld ar (chn ar h) (plc ar h) h 9 = q_sn ar h from rfl] at e2
                  subst e2
                  refine mV_kn (k := ((k + 1) + 1)) (n := ((n9 + 6) + 6)) rfl rfl ?_
                  refine m_if_ne (tgt := 281) C dL_law_276 (by decide) (fun h_8 => ?_) (fun h_8 => ?_)
                  · refine m_iload C dL_law_281 4 rfl ?_
                    refine m_if_ge (tgt := 297) C dL_law_283 (by decide) (fun h_9 => ?_) (fun h_9 => ?_)
                    · refine m_sub (L' := [(4, .int (nI y)), (3, .int (nI x)), (2, .ref o2), (1, .ref (Z 0)), (0, .ref b)]) [5, 6, 7, 8, 9] rfl ?_
                      exact kx _ hI
                    · exact absurd (Int32.not_lt.mp (nI_pos (by omega))) h_9
                  · exact absurd hp (by rw [h_8]; decide)
          · exact absurd (px_ge v1 (by omega) (by omega)) h_2
      refine m_iload C dL_law_203 1 rfl ?_
      refine m_aload_n C dL_law_205 rfl 8 rfl ?_
      refine m_iconst (v := 0) C dL_law_206 (by decide) ?_
      refine m_iload_n C dL_law_207 rfl 6 rfl ?_
      refine m_iload C dL_law_208 5 rfl ?_
      obtain ⟨mf0, hme⟩ := hI.me
      refine m_callVi (As := [.int 0, .int (nI x), .int (nI y)]) (st := [.int (bI any)]) C hme rfl (c_X7_shows0 D A l hI hw hb (j := 0) (wf_root hw) hx hy) (cwV 3 C.1.2.2.2.2 gL_law_X7_shows rfl rfl rfl (by decide +kernel) ⟨Nat.le_of_ble_eq_true rfl, Nat.le_of_ble_eq_true rfl⟩) rfl rfl (Nat.le_of_ble_eq_true rfl) dL_law_210 ⟨by show ((k + 1) + 1) + 0 ≤ 600064; omega, by show ((n9 + 6) + 6) + 0 ≤ 7301640; omega⟩ (fun r M1 hq1 => ?_)
      obtain ⟨hr, hI⟩ := hq1
      rw [px_any hw hpx] at hr
      subst hr
      refine mV_kn (k := ((k + 1) + 1)) (n := ((n9 + 6) + 6)) rfl rfl ?_
      have hR : hW D o2 qn qc qp nr cr cm (nI g0) B K M1 := hRF.mono (fun a x h => hI.F0 h)
      refine m_icmp_ne (tgt := 249) C dL_law_213 (by decide) (fun h_10 => ?_) (fun h_10 => ?_)
      · exact absurd rfl h_10
      · refine m_iload C dL_law_216 1 rfl ?_
        refine m_if_ne (tgt := 230) C dL_law_218 (by decide) (fun h_11 => ?_) (fun h_11 => ?_)
        · exact h230 _ hI
        · have hany := bI_z h_11
          have hvv : nI v = nI g0 := v3.symm.trans (val_none (pre9 ar 0) (by rw [px_any hw hpx, hany]))
          refine m_iload C dL_law_221 0 rfl ?_
          refine m_aload_n C dL_law_223 rfl 7 rfl ?_
          refine m_get (ref := "PaintLayersLaw$Hand") C hR.1 rfl inlX8 3 (by decide) (by decide +kernel) (fun x h => h) (v := .int (nI g0)) rfl dL_law_224 ?_
          refine m_icmp_ne (tgt := 249) C dL_law_227 (by decide) (fun h_12 => ?_) (fun h_12 => ?_)
          · exact absurd hvv h_12
          · exact h230 _ hI
set_option maxHeartbeats 4000000 in
set_option maxRecDepth 100000 in
theorem law_y {p : Program} {l : Launch} {e : Env} {s : State} {m : MethodId} {args : Array Value} {below : List Frame} {meth : Method} {c : Code} {Q : State → Prop} {D : mD} {A : Nat → Prop} {y0 : MethodName} {ret0 : Option FieldType} {Z : Nat → Nat} {F : Mm} {cm g0 : Nat} {ar : rA} {o2 b qn qc qp : Nat} {nr cr : Nat → Option Nat} {B : Nat → Nat → Int32} {K : Nat → List Nat} (hRF : hW D o2 qn qc qp nr cr cm (nI g0) B K F) (hnr : ∀ n, n < 40 → ((∃ a, nr n = some a) ↔ cP ar cm n)) (hB0 : ∀ n, cP ar cm n → B n 0 = ar 3 n) (hP : lP cm ar) (hB : PB ar) (hg : g0 ≤ 255) (hst : l.stackTraces = false) (C : mC p m meth c cL_law 11 s args wsL_law RL D A y0 ret0) {KB NB : Nat} (hKB : KB ≤ 600064) (hNB : NB ≤ 7301640) {x : Nat} (hx : x < 64) (kx : ∀ (M : Mm) (k n9 : Nat), k ≤ KB → n9 ≤ NB → cI D Z F cm (nI g0) ar M → mV p l e room_1 s m args below meth c 11 D A Q M k n9 [(4, .int (nI 48)), (3, .int (nI x)), (2, .ref o2), (1, .ref (Z 0)), (0, .ref b)] [] 303)  : ∀ (t j : Nat) (M : Mm) (k n9 : Nat), j + t = 16 → k + 2 * t ≤ KB → n9 + 12 * t ≤ NB → cI D Z F cm (nI g0) ar M → mV p l e room_1 s m args below meth c 11 D A Q M k n9 [(4, .int (nI (3 * j))), (3, .int (nI x)), (2, .ref o2), (1, .ref (Z 0)), (0, .ref b)] [] 40 := by
  have hw : wf ar cm := hP.1
  have hb : BD ar cm := hP.2.1
  intro t
  induction t with
  | zero =>
    intro j M k n9 hj hk hn9 hI
    refine m_iload C dL_law_40 0 rfl ?_
    refine m_bipush (v := 48) C dL_law_42 (by decide) ?_
    refine m_icmp_ge (tgt := 303) C dL_law_44 (by decide) (fun h_1 => ?_) (fun h_1 => ?_)
    · have h48 := (nI_leI (a := 48) (b := 3 * j) (by omega) (by omega)).mp h_1
      have hj16 : j = 16 := by omega
      subst hj16
      exact kx M k n9 (by omega) (by omega) hI
    · exact absurd (nI_le (a := 48) (b := 3 * j) (by omega) (by omega)) h_1
  | succ t ih =>
    intro j M k n9 hj hk hn9 hI
    refine m_iload C dL_law_40 0 rfl ?_
    refine m_bipush (v := 48) C dL_law_42 (by decide) ?_
    refine m_icmp_ge (tgt := 303) C dL_law_44 (by decide) (fun h_2 => ?_) (fun h_2 => ?_)
    · have h48 := (nI_leI (a := 48) (b := 3 * j) (by omega) (by omega)).mp h_2
      have hj16 : j = 16 := by omega
      subst hj16
      exact kx M k n9 (by omega) (by omega) hI
    · have hy : 3 * j < 48 := by omega
      refine law_pix hRF hnr hB0 hP hB hg hst C hx hy (by omega) (by omega) (fun M hI => ?_) M hI
      obtain ⟨x_3, ex_3⟩ : ∃ z : Int32, z = nI (3 * j) + 3 := ⟨_, rfl⟩
      refine m_iinc (q := 0) (v := x_3) (L' := [(4, .int x_3), (3, .int (nI x)), (2, .ref o2), (1, .ref (Z 0)), (0, .ref b)]) C dL_law_297 rfl (by rw [ex_3]; rfl) (by decide) rfl ?_
      refine m_goto (tgt := 40) C dL_law_300 (by decide) ?_
      rw [show nI (3 * j) + 3 = nI (3 * (j + 1)) from nI_add (3 * j) 3] at ex_3
      subst ex_3
      refine m_sub (L' := [(4, .int (nI (3 * (j + 1)))), (3, .int (nI x)), (2, .ref o2), (1, .ref (Z 0)), (0, .ref b)]) [0, 1, 2, 3, 4] rfl ?_
      exact ih (j + 1) _ _ _ (by omega) (by omega) (by omega) hI
set_option maxHeartbeats 4000000 in
set_option maxRecDepth 100000 in
theorem law_x {p : Program} {l : Launch} {e : Env} {s : State} {m : MethodId} {args : Array Value} {below : List Frame} {meth : Method} {c : Code} {Q : State → Prop} {D : mD} {A : Nat → Prop} {y0 : MethodName} {ret0 : Option FieldType} {Z : Nat → Nat} {F : Mm} {cm g0 : Nat} {ar : rA} {o2 b qn qc qp : Nat} {nr cr : Nat → Option Nat} {B : Nat → Nat → Int32} {K : Nat → List Nat} (hRF : hW D o2 qn qc qp nr cr cm (nI g0) B K F) (hnr : ∀ n, n < 40 → ((∃ a, nr n = some a) ↔ cP ar cm n)) (hB0 : ∀ n, cP ar cm n → B n 0 = ar 3 n) (hP : lP cm ar) (hB : PB ar) (hg : g0 ≤ 255) (hst : l.stackTraces = false) (C : mC p m meth c cL_law 11 s args wsL_law RL D A y0 ret0) {KB NB : Nat} (hKB : KB ≤ 600064) (hNB : NB ≤ 7301640) (kx : ∀ (M : Mm) (k n9 : Nat), k ≤ KB → n9 ≤ NB → cI D Z F cm (nI g0) ar M → mV p l e room_1 s m args below meth c 11 D A Q M k n9 [(3, .int (nI 64)), (2, .ref o2), (1, .ref (Z 0)), (0, .ref b)] [] 309)  : ∀ (t i : Nat) (M : Mm) (k n9 : Nat), i + t = 32 → k + 32 * t ≤ KB → n9 + 192 * t ≤ NB → cI D Z F cm (nI g0) ar M → mV p l e room_1 s m args below meth c 11 D A Q M k n9 [(3, .int (nI (2 * i))), (2, .ref o2), (1, .ref (Z 0)), (0, .ref b)] [] 31 := by
  have hw : wf ar cm := hP.1
  have hb : BD ar cm := hP.2.1
  intro t
  induction t with
  | zero =>
    intro i M k n9 hi hk hn9 hI
    refine m_iload_n C dL_law_31 rfl 0 rfl ?_
    refine m_bipush (v := 64) C dL_law_32 (by decide) ?_
    refine m_icmp_ge (tgt := 309) C dL_law_34 (by decide) (fun h_1 => ?_) (fun h_1 => ?_)
    · have h48 := (nI_leI (a := 64) (b := 2 * i) (by omega) (by omega)).mp h_1
      have hj16 : i = 32 := by omega
      subst hj16
      exact kx M k n9 (by omega) (by omega) hI
    · exact absurd (nI_le (a := 64) (b := 2 * i) (by omega) (by omega)) h_1
  | succ t ih =>
    intro i M k n9 hi hk hn9 hI
    refine m_iload_n C dL_law_31 rfl 0 rfl ?_
    refine m_bipush (v := 64) C dL_law_32 (by decide) ?_
    refine m_icmp_ge (tgt := 309) C dL_law_34 (by decide) (fun h_2 => ?_) (fun h_2 => ?_)
    · have h48 := (nI_leI (a := 64) (b := 2 * i) (by omega) (by omega)).mp h_2
      have hj16 : i = 32 := by omega
      subst hj16
      exact kx M k n9 (by omega) (by omega) hI
    · have hx : 2 * i < 64 := by omega
      refine m_iconst (v := 0) C dL_law_37 (by decide) ?_
      refine m_istore (L' := [(4, .int 0), (3, .int (nI (2 * i))), (2, .ref o2), (1, .ref (Z 0)), (0, .ref b)]) C dL_law_38 (by decide) rfl ?_
      refine m_sub (L' := [(4, .int (nI (3 * 0))), (3, .int (nI (2 * i))), (2, .ref o2), (1, .ref (Z 0)), (0, .ref b)]) [0, 1, 2, 3, 4] rfl ?_
      refine law_y hRF hnr hB0 hP hB hg hst C (KB := k + 32) (NB := n9 + 192) (by omega) (by omega) hx (fun M k2 n2 hk2 hn2 hI => ?_) 16 0 M k n9 rfl (by omega) (by omega) hI
      obtain ⟨x_3, ex_3⟩ : ∃ z : Int32, z = nI (2 * i) + 2 := ⟨_, rfl⟩
      refine m_iinc (q := 1) (v := x_3) (L' := [(3, .int x_3), (4, .int (nI 48)), (2, .ref o2), (1, .ref (Z 0)), (0, .ref b)]) C dL_law_303 rfl (by rw [ex_3]; rfl) (by decide) rfl ?_
      refine m_goto (tgt := 31) C dL_law_306 (by decide) ?_
      rw [show nI (2 * i) + 2 = nI (2 * (i + 1)) from nI_add (2 * i) 2] at ex_3
      subst ex_3
      refine m_sub (L' := [(3, .int (nI (2 * (i + 1)))), (2, .ref o2), (1, .ref (Z 0)), (0, .ref b)]) [0, 2, 3, 4] rfl ?_
      exact ih (i + 1) _ _ _ (by omega) (by omega) (by omega) hI
