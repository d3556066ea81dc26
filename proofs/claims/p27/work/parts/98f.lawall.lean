/-! ===== the law behind build ===== -/
theorem cnt_le (ar : rA) : ∀ n, q_cnt ar n ≤ n
  | 0 => Nat.le_refl _
  | n + 1 => by
    have h := cnt_le ar n
    show q_cnt ar n + (if ar 2 n = 0 then 0 else 1) ≤ n + 1
    split <;> omega
set_option maxHeartbeats 4000000 in
set_option maxRecDepth 100000 in
theorem law_all {p : Program} {l : Launch} {e : Env} {s : State} {m : MethodId} {args : Array Value} {below : List Frame} {meth : Method} {c : Code} {Q : State → Prop} {D : mD} {A : Nat → Prop} {y0 : MethodName} {ret0 : Option FieldType} {o1 o2 b : Nat} (hst : l.stackTraces = false) (C : mC p m meth c cL_law 11 s args wsL_law RL D A y0 ret0) (kx : ∀ (M : Mm) (k n9 : Nat), k ≤ 600064 → n9 ≤ 7301640 → mV p l e room_1 s m args below meth c 11 D A Q M k n9 [] [.int 1] 523) {M : Mm} {k n9 : Nat} (hA : hAA D o1 o2 M) (hk : k ≤ 500000) (hn9 : n9 ≤ 5000000) : mV p l e room_1 s m args below meth c 11 D A Q M k n9 [(2, .ref o2), (1, .ref o1), (0, .ref b)] [] 29 := by
  obtain ⟨Z, cm, g, ar, rfl, ⟨F, qn, qc, qp, nr, cr, B, K, hI, hRF, hT⟩, ⟨hP, hB⟩, ⟨g0, hg, rfl⟩⟩ := hA
  have hw : wf ar cm := hP.1
  have hcm := hw.1
  have hnr := hT.1
  have hB0 : ∀ n, cP ar cm n → B n 0 = ar 3 n := fun n hn => (hT.2.1 n hn).1
  refine m_iconst (v := 0) C dL_law_29 (by decide) ?_
  refine m_istore_n (L' := [(3, .int 0), (2, .ref o2), (1, .ref (Z 0)), (0, .ref b)]) C dL_law_30 rfl (by decide) rfl ?_
  refine m_sub (L' := [(3, .int (nI (2 * 0))), (2, .ref o2), (1, .ref (Z 0)), (0, .ref b)]) [0, 1, 2, 3] rfl ?_
  refine law_x hRF hnr hB0 hP hB hg hst C (KB := k + 1024) (NB := n9 + 6144) (by omega) (by omega) (fun M k n9 hk2 hn2 hI => ?_) 32 0 M k n9 rfl (by omega) (by omega) hI
  refine m_iconst (v := 0) C dL_law_309 (by decide) ?_
  refine m_istore_n (L' := [(3, .int 0), (2, .ref o2), (1, .ref (Z 0)), (0, .ref b)]) C dL_law_310 rfl (by decide) rfl ?_
  refine m_iconst (v := 0) C dL_law_311 (by decide) ?_
  refine m_istore (L' := [(4, .int 0), (3, .int 0), (2, .ref o2), (1, .ref (Z 0)), (0, .ref b)]) C dL_law_312 (by decide) rfl ?_
  refine m_sub (L' := [(4, .int (nI 0)), (3, .int (nI (q_dty ar (nI g0) (pre9 ar 0) 0))), (2, .ref o2), (1, .ref (Z 0)), (0, .ref b)]) [0, 1, 2, 3, 4] rfl ?_
  refine law_tiles hRF hnr hB0 hP hB hg hst C (KB := k + 48) (NB := n9 + 288) (by omega) (by omega) (fun M k n9 hk3 hn3 hI => ?_) 48 0 M k n9 rfl (by omega) (by omega) hI
  refine m_aload_n C dL_law_344 rfl 3 rfl ?_
  have hb : BD ar cm := hP.2.1
  obtain ⟨mf0, hme⟩ := hI.me
  refine m_callVi (As := []) (st := []) C hme rfl (c_X7_paint D A l hI hw hb) (cwV 0 C.1.2.2.2.2 gL_law_X7_paint rfl rfl rfl (by decide +kernel) ⟨Nat.le_of_ble_eq_true rfl, Nat.le_of_ble_eq_true rfl⟩) rfl rfl (Nat.le_of_ble_eq_true rfl) dL_law_345 ⟨by show k + 0 ≤ 600064; omega, by show n9 + 0 ≤ 7301640; omega⟩ (fun r M1 hq1 => ?_)
  obtain ⟨hr, hI⟩ := hq1
  subst hr
  refine mV_kn (k := k) (n := n9) rfl rfl ?_
  refine m_iload_n C dL_law_348 rfl 1 rfl ?_
  refine m_icmp_eq (tgt := 354) C dL_law_349 (by decide) (fun h_1 => ?_) (fun h_1 => ?_)
  · refine m_iconst (v := 0) C dL_law_354 (by decide) ?_
    refine m_istore (L' := [(4, .int 0), (3, .int (nI (q_dty ar (nI g0) (pre9 ar 0) 48))), (2, .ref o2), (1, .ref (Z 0)), (0, .ref b)]) C dL_law_355 (by decide) rfl ?_
    refine m_sub (L' := [(4, .int (nI 0)), (3, .int (nI (q_dty ar (nI g0) (pre9 ar 0) 48))), (2, .ref o2), (1, .ref (Z 0)), (0, .ref b)]) [0, 1, 2, 3, 4] rfl ?_
    refine law_again hRF hnr hB0 hP hB hg hst C (KB := k + 48) (NB := n9 + 288) (by omega) (by omega) (fun M k n9 hk4 hn4 hI => ?_) 48 0 _ k n9 rfl (by omega) (by omega) hI
    have hP2 : lP cm (upA ar 16 (q_pnt ar (nI g0) (pre9 ar 0) (ar 16) 3072)) := ⟨hP.1, hP.2.1, hP.2.2⟩
    have hB2 : PB (upA ar 16 (q_pnt ar (nI g0) (pre9 ar 0) (ar 16) 3072)) := PB_same hB rfl rfl rfl
    refine m_iconst (v := 0) C dL_law_381 (by decide) ?_
    refine m_istore (L' := [(4, .int 0), (3, .int (nI (q_dty ar (nI g0) (pre9 ar 0) 48))), (2, .ref o2), (1, .ref (Z 0)), (0, .ref b)]) C dL_law_382 (by decide) rfl ?_
    refine m_sub (L' := [(4, .int (nI 0)), (3, .int (nI (q_dty ar (nI g0) (pre9 ar 0) 48))), (2, .ref o2), (1, .ref (Z 0)), (0, .ref b)]) [0, 1, 2, 3, 4] rfl ?_
    refine law_opa hRF hst C (KB := k + 43 * cm) (NB := n9 + 2420 * cm) (by omega) (by omega) (fun M ar2 k n9 hk5 hn5 hP3 hB3 hnr3 h8 hI => ?_) cm 0 M (upA ar 16 (q_pnt ar (nI g0) (pre9 ar 0) (ar 16) 3072)) k n9 (Nat.zero_add _) (by omega) (by omega) hP2 hB2 hnr (fun m hm => absurd hm (Nat.not_lt_zero m)) hI
    have hT2 : ∀ n, cP ar2 cm n → cP ar cm n := fun n hn => (hnr n (cP_40 hP3.1 hn)).mp ((hnr3 n (cP_40 hP3.1 hn)).mpr hn)
    refine m_iconst (v := 1) C dL_law_435 (by decide) ?_
    refine m_istore (L' := [(4, .int 1), (3, .int (nI (q_dty ar (nI g0) (pre9 ar 0) 48))), (2, .ref o2), (1, .ref (Z 0)), (0, .ref b)]) C dL_law_436 (by decide) rfl ?_
    refine m_sub (L' := [(4, .int (nI (2 * 0 + 1))), (3, .int (nI (q_dty ar (nI g0) (pre9 ar 0) 48))), (2, .ref o2), (1, .ref (Z 0)), (0, .ref b)]) [0, 1, 2, 3, 4] rfl ?_
    refine law_x2 hRF hnr3 hP3 hB3 hg hst C (KB := k + 1024) (NB := n9 + 6144) (by omega) (by omega) (fun n hn => h8 n hn.1 hn) (fun M k n9 hk6 hn6 hI => ?_) 32 0 M k n9 rfl (by omega) (by omega) hI
    refine m_aload_n C dL_law_510 rfl 3 rfl ?_
    obtain ⟨mf0, hme⟩ := hI.me
    refine m_callVi (As := []) (st := []) C hme rfl (c_X7_count D A l hI hP3.1 hP3.2.1) (cwV 0 C.1.2.2.2.2 gL_law_X7_count rfl rfl rfl (by decide +kernel) ⟨Nat.le_of_ble_eq_true rfl, Nat.le_of_ble_eq_true rfl⟩) rfl rfl (Nat.le_of_ble_eq_true rfl) dL_law_511 ⟨by show k + 0 ≤ 600064; omega, by show n9 + 0 ≤ 7301640; omega⟩ (fun r M1 hq1 => ?_)
    obtain ⟨hr, hI⟩ := hq1
    subst hr
    refine mV_kn (k := k) (n := n9) rfl rfl ?_
    refine m_iconst (v := 1) C dL_law_514 (by decide) ?_
    refine m_icmp_lt (tgt := 522) C dL_law_515 (by decide) (fun h_2 => ?_) (fun h_2 => ?_)
    · have h1 := cnt_pos hP3.1 cm hcm.1
      have h2 := cnt_le ar2 cm
      exact absurd ((nI_ltI (a := q_cnt ar2 cm) (b := 1) (by omega) (by decide)).mp h_2) (by omega)
    · refine m_iconst (v := 1) C dL_law_518 (by decide) ?_
      refine m_goto (tgt := 523) C dL_law_519 (by decide) ?_
      refine m_sub (L' := []) [] rfl ?_
      exact kx _ _ _ (by omega) (by omega)
  · exact absurd rfl h_1
