/-! ===== act, whole ===== -/
set_option maxHeartbeats 4000000 in
set_option maxRecDepth 100000 in
theorem c_L_act (D : mD) (A : Nat → Prop) (l : Launch) (hst : l.stackTraces = false) {z0 o : Nat} {x : Int32} {M : Mm} (hA : hAA D z0 o M) : mMi D A l yL_act wsL_act ({ frames := 45, cells := 110, slots := 3200, locals := 1750 } : Room) [.ref z0, .ref o, .int x] M (fun r M' => r = 1 ∧ hAA D z0 o M') 110 3200 := by
  obtain ⟨Z, cm, g, ar, rfl, ⟨F, qn, qc, qp, nr, cr, B, K, hI, hRF, hT⟩, ⟨hP, hB⟩, hg⟩ := hA
  refine m_start (cc := cL_act) (maxL := 21) (ret := (some .boolean)) (by decide) rfl (Nat.le_of_ble_eq_true rfl) ?_
  intro p e s m args below meth c C
  have i8 : ∀ w ∈ wsX80, w ∈ wsL_act := by decide +kernel
  have hw : wf ar cm := hP.1
  have hcm := hw.1
  have hR : hW D o qn qc qp nr cr cm g B K M := hRF.mono (fun a x h => hI.F0 h)
  have hEnd : hAA D (Z 0) o M := ⟨Z, cm, g, ar, rfl, ⟨F, qn, qc, qp, nr, cr, B, K, hI, hRF, hT⟩, ⟨hP, hB⟩, hg⟩
  refine m_sub (L' := [(0, .ref (Z 0)), (1, .ref o), (2, .int x)]) [0, 1, 2] rfl ?_
  refine m_iload_n C dL_act_0 rfl 2 rfl ?_
  refine m_bipush (v := 13) C dL_act_1 (by decide) ?_
  refine m_callSFi (As := [.int x, .int 13]) (st := []) (v := nI (q_bl (x) 13)) C (c_L_below D A l (v := x) (N := 13) (by decide) (by decide)) (va_cwS 2 C.1.2.2.2.2 gL_act_L_below rfl rfl rfl (by decide +kernel) ⟨Nat.le_of_ble_eq_true rfl, Nat.le_of_ble_eq_true rfl⟩) rfl rfl (Nat.le_of_ble_eq_true rfl) dL_act_3 ⟨Nat.le_of_ble_eq_true rfl, Nat.le_of_ble_eq_true rfl⟩ ?_
  obtain ⟨t_1, lt_1, et_1⟩ : ∃ z, z < 13 ∧ q_bl (x) 13 = z := ⟨_, q_bl_lt (by decide), rfl⟩
  rw [et_1]
  refine m_istore_n (L' := [(3, .int (nI t_1)), (0, .ref (Z 0)), (1, .ref o), (2, .int x)]) C dL_act_6 rfl (by decide) rfl ?_
  refine m_aload_n C dL_act_7 rfl 2 rfl ?_
  refine m_iload_n C dL_act_8 rfl 3 rfl ?_
  refine m_iconst (v := 4) C dL_act_9 (by decide) ?_
  refine m_ishr C dL_act_10 ?_
  refine m_bipush (v := 40) C dL_act_11 (by decide) ?_
  refine m_callSFi (As := [.int (x >>> (4 &&& 31)), .int 40]) (st := [.ref o]) (v := nI (q_bl (x >>> (4 &&& 31)) 40)) C (c_L_below D A l (v := x >>> (4 &&& 31)) (N := 40) (by decide) (by decide)) (va_cwS 2 C.1.2.2.2.2 gL_act_L_below rfl rfl rfl (by decide +kernel) ⟨Nat.le_of_ble_eq_true rfl, Nat.le_of_ble_eq_true rfl⟩) rfl rfl (Nat.le_of_ble_eq_true rfl) dL_act_13 ⟨Nat.le_of_ble_eq_true rfl, Nat.le_of_ble_eq_true rfl⟩ ?_
  obtain ⟨t_2, lt_2, et_2⟩ : ∃ z, z < 40 ∧ q_bl (x >>> (4 &&& 31)) 40 = z := ⟨_, q_bl_lt (by decide), rfl⟩
  rw [et_2]
  refine m_callSi (As := [.ref o, .int (nI t_2)]) (st := []) C (c_L_group D A l hR hw hT lt_2) (va_cwS 2 C.1.2.2.2.2 gL_act_L_group rfl rfl rfl (by decide +kernel) ⟨Nat.le_of_ble_eq_true rfl, Nat.le_of_ble_eq_true rfl⟩) rfl rfl (Nat.le_of_ble_eq_true rfl) dL_act_16 ⟨Nat.le_of_ble_eq_true rfl, Nat.le_of_ble_eq_true rfl⟩ (fun r1 M1 hq1 => ?_)
  obtain ⟨e1, u, hu, hu0, e2⟩ := hq1
  subst e1
  subst e2
  rename Mm => M
  refine m_istore (L' := [(4, .int (nI u)), (3, .int (nI t_1)), (0, .ref (Z 0)), (1, .ref o), (2, .int x)]) C dL_act_19 (by decide) rfl ?_
  refine m_aload_n C dL_act_21 rfl 3 rfl ?_
  refine m_iload_n C dL_act_22 rfl 4 rfl ?_
  refine m_iconst (v := 5) C dL_act_23 (by decide) ?_
  refine m_ishr C dL_act_24 ?_
  refine m_bipush (v := 40) C dL_act_25 (by decide) ?_
  refine m_callSFi (As := [.int (x >>> (5 &&& 31)), .int 40]) (st := [.ref o]) (v := nI (q_bl (x >>> (5 &&& 31)) 40)) C (c_L_below D A l (v := x >>> (5 &&& 31)) (N := 40) (by decide) (by decide)) (va_cwS 2 C.1.2.2.2.2 gL_act_L_below rfl rfl rfl (by decide +kernel) ⟨Nat.le_of_ble_eq_true rfl, Nat.le_of_ble_eq_true rfl⟩) rfl rfl (Nat.le_of_ble_eq_true rfl) dL_act_27 ⟨Nat.le_of_ble_eq_true rfl, Nat.le_of_ble_eq_true rfl⟩ ?_
  obtain ⟨t_3, lt_3, et_3⟩ : ∃ z, z < 40 ∧ q_bl (x >>> (5 &&& 31)) 40 = z := ⟨_, q_bl_lt (by decide), rfl⟩
  rw [et_3]
  refine m_callSi (As := [.ref o, .int (nI t_3)]) (st := []) C (c_L_any D A l hR hw hT lt_3) (va_cwS 2 C.1.2.2.2.2 gL_act_L_any rfl rfl rfl (by decide +kernel) ⟨Nat.le_of_ble_eq_true rfl, Nat.le_of_ble_eq_true rfl⟩) rfl rfl (Nat.le_of_ble_eq_true rfl) dL_act_30 ⟨Nat.le_of_ble_eq_true rfl, Nat.le_of_ble_eq_true rfl⟩ (fun r1 M1 hq1 => ?_)
  obtain ⟨e1, n, hn, e2⟩ := hq1
  subst e1
  subst e2
  rename Mm => M
  have hn4 := cP_40 hw hn
  obtain ⟨an, han⟩ := (hT.1 n hn4).mpr hn
  refine m_istore (L' := [(5, .int (nI n)), (4, .int (nI u)), (3, .int (nI t_1)), (0, .ref (Z 0)), (1, .ref o), (2, .int x)]) C dL_act_33 (by decide) rfl ?_
  refine m_aload_n C dL_act_35 rfl 4 rfl ?_
  refine m_get (ref := "PaintLayersLaw$Hand") C hR.1 rfl i8 0 (by decide) (by decide +kernel) (fun x h => h) (v := .ref qn) rfl dL_act_36 ?_
  refine m_iload C dL_act_39 0 rfl ?_
  refine m_aaldA C hR.2.1 (vp_in_nI hn4 (by decide)) dL_act_41 ?_
  rw [nI_clamp (show n < 2 ^ 31 by omega), han]
  refine m_astore (L' := [(6, .ref an), (5, .int (nI n)), (4, .int (nI u)), (3, .int (nI t_1)), (0, .ref (Z 0)), (1, .ref o), (2, .int x)]) C dL_act_42 (by decide) rfl ?_
  refine m_iload_n C dL_act_44 rfl 6 rfl ?_
  refine m_iconst (v := 3) C dL_act_45 (by decide) ?_
  refine m_ishr C dL_act_46 ?_
  refine m_bipush (v := 70) C dL_act_47 (by decide) ?_
  refine m_callSFi (As := [.int (x >>> (3 &&& 31)), .int 70]) (st := []) (v := nI (q_bl (x >>> (3 &&& 31)) 70)) C (c_L_below D A l (v := x >>> (3 &&& 31)) (N := 70) (by decide) (by decide)) (va_cwS 2 C.1.2.2.2.2 gL_act_L_below rfl rfl rfl (by decide +kernel) ⟨Nat.le_of_ble_eq_true rfl, Nat.le_of_ble_eq_true rfl⟩) rfl rfl (Nat.le_of_ble_eq_true rfl) dL_act_49 ⟨Nat.le_of_ble_eq_true rfl, Nat.le_of_ble_eq_true rfl⟩ ?_
  obtain ⟨t_4, lt_4, et_4⟩ : ∃ z, z < 70 ∧ q_bl (x >>> (3 &&& 31)) 70 = z := ⟨_, q_bl_lt (by decide), rfl⟩
  rw [et_4]
  refine m_iconst (v := 5) C dL_act_52 (by decide) ?_
  refine m_isub C dL_act_53 ?_
  refine m_istore (L' := [(7, .int ((nI t_4) - 5)), (6, .ref an), (5, .int (nI n)), (4, .int (nI u)), (3, .int (nI t_1)), (0, .ref (Z 0)), (1, .ref o), (2, .int x)]) C dL_act_54 (by decide) rfl ?_
  refine m_iload_n C dL_act_56 rfl 7 rfl ?_
  refine m_bipush (v := 6) C dL_act_57 (by decide) ?_
  refine m_ishr C dL_act_59 ?_
  refine m_bipush (v := 55) C dL_act_60 (by decide) ?_
  refine m_callSFi (As := [.int (x >>> (6 &&& 31)), .int 55]) (st := []) (v := nI (q_bl (x >>> (6 &&& 31)) 55)) C (c_L_below D A l (v := x >>> (6 &&& 31)) (N := 55) (by decide) (by decide)) (va_cwS 2 C.1.2.2.2.2 gL_act_L_below rfl rfl rfl (by decide +kernel) ⟨Nat.le_of_ble_eq_true rfl, Nat.le_of_ble_eq_true rfl⟩) rfl rfl (Nat.le_of_ble_eq_true rfl) dL_act_62 ⟨Nat.le_of_ble_eq_true rfl, Nat.le_of_ble_eq_true rfl⟩ ?_
  obtain ⟨t_5, lt_5, et_5⟩ : ∃ z, z < 55 ∧ q_bl (x >>> (6 &&& 31)) 55 = z := ⟨_, q_bl_lt (by decide), rfl⟩
  rw [et_5]
  refine m_iconst (v := 5) C dL_act_65 (by decide) ?_
  refine m_isub C dL_act_66 ?_
  refine m_istore (L' := [(8, .int ((nI t_5) - 5)), (7, .int ((nI t_4) - 5)), (6, .ref an), (5, .int (nI n)), (4, .int (nI u)), (3, .int (nI t_1)), (0, .ref (Z 0)), (1, .ref o), (2, .int x)]) C dL_act_67 (by decide) rfl ?_
  refine m_sub (L' := [(8, .int ((nI t_5) - 5)), (7, .int ((nI t_4) - 5)), (6, .ref an), (5, .int (nI n)), (4, .int (nI u)), (3, .int (nI t_1)), (2, .int x), (1, .ref o), (0, .ref (Z 0))]) [0, 1, 2, 3, 4, 5, 8, 7, 6] rfl ?_
  have h85 : (5 ≤ t_1 ∨ cm < 40) → mV p l e ({ frames := 45, cells := 110, slots := 3200, locals := 1750 } : Room) s m args below meth c 21 D A (MQ below (va_Qi (fun r M' => r = 1 ∧ hAA D (Z 0) o M') (mB D A) A) args s 110 3200 A) M 0 0 [(8, .int ((nI t_5) - 5)), (7, .int ((nI t_4) - 5)), (6, .ref an), (5, .int (nI n)), (4, .int (nI u)), (3, .int (nI t_1)), (2, .int x), (1, .ref o), (0, .ref (Z 0))] [] 85 := by
    intro hor
    refine m_iload_n C dL_act_85 rfl 5 rfl ?_
    have hcs : t_1 = 0 ∨ t_1 = 1 ∨ t_1 = 2 ∨ t_1 = 3 ∨ t_1 = 4 ∨ t_1 = 5 ∨ t_1 = 6 ∨ t_1 = 7 ∨ t_1 = 8 ∨ t_1 = 9 ∨ t_1 = 10 ∨ t_1 = 11 ∨ t_1 = 12 := by omega
    rcases hcs with hc9 | hc9 | hc9 | hc9 | hc9 | hc9 | hc9 | hc9 | hc9 | hc9 | hc9 | hc9 | hc9 <;> rw [hc9]
    · refine m_tableIn (tgt := 148) C dL_act_86 (by decide) (by decide) rfl (by decide) ?_
      exact act_0 hst hI hRF hT hP hB hg hu hu0 hn han lt_4 lt_5 C i8 (by omega)
    · refine m_tableIn (tgt := 173) C dL_act_86 (by decide) (by decide) rfl (by decide) ?_
      exact act_1 hst hI hRF hT hP hB hg hu hu0 hn han lt_4 lt_5 C i8 (by omega)
    · refine m_tableIn (tgt := 173) C dL_act_86 (by decide) (by decide) rfl (by decide) ?_
      exact act_1 hst hI hRF hT hP hB hg hu hu0 hn han lt_4 lt_5 C i8 (by omega)
    · refine m_tableIn (tgt := 262) C dL_act_86 (by decide) (by decide) rfl (by decide) ?_
      exact act_3 hst hI hRF hT hP hB hg hu hu0 hn han lt_4 lt_5 C i8 (by omega)
    · refine m_tableIn (tgt := 326) C dL_act_86 (by decide) (by decide) rfl (by decide) ?_
      exact act_4 hst hI hRF hT hP hB hg hu hu0 hn han lt_4 lt_5 C i8 (by omega)
    · refine m_tableIn (tgt := 422) C dL_act_86 (by decide) (by decide) rfl (by decide) ?_
      exact act_5 hst hI hRF hT hP hB hg hu hu0 hn han lt_4 lt_5 C i8
    · refine m_tableIn (tgt := 467) C dL_act_86 (by decide) (by decide) rfl (by decide) ?_
      exact act_6 hst hI hRF hT hP hB hg hu hu0 hn han lt_4 lt_5 C i8
    · refine m_tableIn (tgt := 566) C dL_act_86 (by decide) (by decide) rfl (by decide) ?_
      exact act_7 hst hI hRF hT hP hB hg hu hu0 hn han lt_4 lt_5 C i8
    · refine m_tableIn (tgt := 629) C dL_act_86 (by decide) (by decide) rfl (by decide) ?_
      exact act_8 hst hI hRF hT hP hB hg hu hu0 hn han lt_4 lt_5 C i8
    · refine m_tableIn (tgt := 685) C dL_act_86 (by decide) (by decide) rfl (by decide) ?_
      exact act_9 hst hI hRF hT hP hB hg hu hu0 hn han lt_4 lt_5 C i8
    · refine m_tableIn (tgt := 760) C dL_act_86 (by decide) (by decide) rfl (by decide) ?_
      exact act_10 hst hI hRF hT hP hB hg hu hu0 hn han lt_4 lt_5 C i8
    · refine m_tableIn (tgt := 896) C dL_act_86 (by decide) (by decide) rfl (by decide) ?_
      exact act_11 hst hI hRF hT hP hB hg hu hu0 hn han lt_4 lt_5 C i8
    · refine m_tableOut (tgt := 971) C dL_act_86 (by decide) (by decide) ?_
      exact act_12 hst hI hRF hT hP hB hg hu hu0 hn han lt_4 lt_5 C i8
  refine m_iload_n C dL_act_69 rfl 5 rfl ?_
  refine m_iconst (v := 5) C dL_act_70 (by decide) ?_
  refine m_icmp_ge (tgt := 85) C dL_act_71 (by decide) (fun h_6 => ?_) (fun h_6 => ?_)
  · have h5 : 5 ≤ t_1 := (nI_leI (a := 5) (by omega) (by omega)).mp h_6
    exact h85 (Or.inl h5)
  · refine m_aload_n C dL_act_74 rfl 7 rfl ?_
    refine m_get (ref := "PaintLayersLaw$Hand") C hR.1 rfl i8 2 (by decide) (by decide +kernel) (fun x h => h) (v := .int (nI cm)) rfl dL_act_75 ?_
    refine m_bipush (v := 40) C dL_act_78 (by decide) ?_
    refine m_icmp_ne (tgt := 85) C dL_act_80 (by decide) (fun h_7 => ?_) (fun h_7 => ?_)
    · exact h85 (Or.inr (by
        rcases Nat.lt_or_ge cm 40 with z | z
        · exact z
        · exact absurd (show nI cm = 40 by rw [show cm = 40 by omega]; rfl) h_7))
    · refine m_iconst (v := 1) C dL_act_83 (by decide) ?_
      exact m_zret C (Nat.le_of_ble_eq_true rfl) (Nat.le_of_ble_eq_true rfl) dL_act_84 (Or.inr rfl) ⟨rfl, hEnd⟩
