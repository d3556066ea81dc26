/-! ===== act: remove, move ===== -/
set_option maxHeartbeats 4000000 in
set_option maxRecDepth 100000 in
theorem act_5 {p : Program} {l : Launch} {e : Env} {s : State} {m : MethodId} {args : Array Value} {below : List Frame} {meth : Method} {c : Code} {D : mD} {A : Nat → Prop} {Z : Nat → Nat} {o cm : Nat} {g : Int32} {ar : rA} {F M : Mm} {qn qc qp : Nat} {nr cr : Nat → Option Nat} {B : Nat → Nat → Int32} {K : Nat → List Nat} (hst : l.stackTraces = false) (hI : cI D Z F cm g ar M) (hRF : hW D o qn qc qp nr cr cm g B K F) (hT : hTT ar cm nr B K) (hP : lP cm ar) (hB : PB ar) (hg : ∃ b, b ≤ 255 ∧ g = nI b) {u n an a0 b0 : Nat} {x w : Int32} (hu : cP ar cm u) (hu0 : ar 3 u = 0) (hn : cP ar cm n) (han : nr n = some an) (ha0 : a0 < 70) (hb0 : b0 < 55) (C : mC p m meth c cL_act 21 s args wsL_act yL_act.cls D A yL_act (some .boolean)) (i8 : ∀ w ∈ wsX80, w ∈ wsL_act) : mV p l e ({ frames := 45, cells := 110, slots := 3200, locals := 1750 } : Room) s m args below meth c 21 D A (MQ below (va_Qi (fun r M' => r = 1 ∧ hAA D (Z 0) o M') (mB D A) A) args s 110 3200 A) M 0 0 [(8, .int (nI b0 - 5)), (7, .int (nI a0 - 5)), (6, .ref an), (5, .int (nI n)), (4, .int (nI u)), (3, .int w), (2, .int x), (1, .ref o), (0, .ref (Z 0))] [] 422 := by
  have hw : wf ar cm := hP.1
  have hb : BD ar cm := hP.2.1
  have hR : hW D o qn qc qp nr cr cm g B K M := hRF.mono (fun a x h => hI.F0 h)
  have hu4 := cP_40 hw hu
  have hn4 := cP_40 hw hn
  have hEnd : hAA D (Z 0) o M := ⟨Z, cm, g, ar, rfl, ⟨F, qn, qc, qp, nr, cr, B, K, hI, hRF, hT⟩, ⟨hP, hB⟩, hg⟩
  refine m_iload C dL_act_422 3 rfl ?_
  refine m_if_eq (tgt := 438) C dL_act_424 (by decide) (fun h_1 => ?_) (fun h_1 => ?_)
  · have h0 : n = 0 := (nI_eq (by omega) (by omega)).mp h_1
    refine m_iconst (v := 1) C dL_act_438 (by decide) ?_
    exact m_zret C (Nat.le_of_ble_eq_true rfl) (Nat.le_of_ble_eq_true rfl) dL_act_439 (Or.inr rfl) ⟨rfl, hEnd⟩
  · have h0 : n ≠ 0 := fun z => h_1 (by rw [z]; rfl)
    refine m_iload_n C dL_act_427 rfl 6 rfl ?_
    refine m_bipush (v := 8) C dL_act_428 (by decide) ?_
    refine m_ishr C dL_act_430 ?_
    refine m_iconst (v := 3) C dL_act_431 (by decide) ?_
    refine m_callSFi (As := [.int (x >>> (8 &&& 31)), .int 3]) (st := []) (v := nI (q_bl (x >>> (8 &&& 31)) 3)) C (c_L_below D A l (v := x >>> (8 &&& 31)) (N := 3) (by decide) (by decide)) (va_cwS 2 C.1.2.2.2.2 gL_act_L_below rfl rfl rfl (by decide +kernel) ⟨Nat.le_of_ble_eq_true rfl, Nat.le_of_ble_eq_true rfl⟩) rfl rfl (Nat.le_of_ble_eq_true rfl) dL_act_432 ⟨Nat.le_of_ble_eq_true rfl, Nat.le_of_ble_eq_true rfl⟩ ?_
    obtain ⟨t_2, lt_2, et_2⟩ : ∃ z, z < 3 ∧ q_bl (x >>> (8 &&& 31)) 3 = z := ⟨_, q_bl_lt (by decide), rfl⟩
    rw [et_2]
    refine m_if_le (tgt := 440) C dL_act_435 (by decide) (fun h_3 => ?_) (fun h_3 => ?_)
    · refine m_aload_n C dL_act_440 rfl 7 rfl ?_
      refine m_iload C dL_act_441 3 rfl ?_
      obtain ⟨p1, p2, -, -, -⟩ := wf_place hw hn.1 hn.2 h0
      obtain ⟨q1, q2, q3, q4, q5⟩ := kids_plc hw hn h0
      have hKp : K (par9 ar n) = kids ar (par9 ar n) := hT.2.2.1 _ q3
      have hB1 : B n 1 = nI (par9 ar n) := (hT.2.1 n hn).2.1.trans p2
      have hkl := kids_le hw q3
      refine m_callVv (As := [.int (nI n)]) (st := []) C hR.1 rfl (c_X8_take D A l hR hn4 p1 han hB1 (by rw [hKp]; omega) (by rw [hKp]; exact kids_lt hw q3) (by rw [hKp]; exact q2) (by rw [hKp]; exact q1) (by rw [hKp]; exact take_ne hw hn h0)) (cwV 1 C.1.2.2.2.2 gL_act_X8_take rfl rfl rfl (by decide +kernel) ⟨Nat.le_of_ble_eq_true rfl, Nat.le_of_ble_eq_true rfl⟩) rfl rfl (Nat.le_of_ble_eq_true rfl) dL_act_443 ⟨Nat.le_of_ble_eq_true rfl, Nat.le_of_ble_eq_true rfl⟩ (fun M1 hq1 => ?_)
      obtain ⟨cr1, hR1, hk1⟩ := hq1
      obtain ⟨F1, hI1, hRF1⟩ := hI.hand hRF hk1 hR1
      refine m_aload_n C dL_act_446 rfl 8 rfl ?_
      refine m_iload C dL_act_447 3 rfl ?_
      have hk0 : k_remove cm ar (nI n) = 0 := remove_0 hw hn h0
      obtain ⟨mf0, hme⟩ := hI1.me
      refine m_callVXiH (As := [.int (nI n)]) (st := []) C hme rfl (c_X7_remove D A l hst hI1 hw hb) (cwV 1 C.1.2.2.2.2 gL_act_X7_remove rfl rfl rfl (by decide +kernel) ⟨Nat.le_of_ble_eq_true rfl, Nat.le_of_ble_eq_true rfl⟩) rfl rfl (Nat.le_of_ble_eq_true rfl) dL_act_449 ⟨Nat.le_of_ble_eq_true rfl, Nat.le_of_ble_eq_true rfl⟩ (fun E M9 hx => ?_) (fun r M3 hp => ?_)
      · rcases hx.2 with ⟨h9, -⟩ | ⟨h9, -⟩ <;> exact absurd (hk0.symm.trans h9) (by decide)
      · obtain ⟨-, hr, hI3⟩ := hp
        rw [jN_at (show n < 2 ^ 31 by omega)] at hr
        subst hr
        have hR3 := hRF1.mono (fun a x h => hI3.F0 h)
        have hKv : ∀ x, cP ar cm x → n ∈ chn ar x → (upA K (par9 ar n) (outL (K (par9 ar n)) (plc ar n))) x = kids ar x := fun x hx hc => by
          rw [upA_n (fun z => par_not hw hn h0 (by rw [← z]; exact hc))]
          exact hT.2.2.1 x hx
        refine m_aload_n C dL_act_452 rfl 7 rfl ?_
        refine m_iload C dL_act_453 3 rfl ?_
        refine m_callVi (As := [.int (nI n)]) (st := [.int (nI (pre9 ar n).length)]) C hR3.1 rfl (c_X8_gone D A l hw hKv 40 n hn (wf_self hw hn.1 hn.2) (by obtain ⟨t, t1, -⟩ := wf_at hw hn.1 hn.2; rw [t1, List.length_cons]; omega) nr M3 hR3) (cwV 1 C.1.2.2.2.2 gL_act_X8_gone rfl rfl rfl (by decide +kernel) ⟨Nat.le_of_ble_eq_true rfl, Nat.le_of_ble_eq_true rfl⟩) rfl rfl (Nat.le_of_ble_eq_true rfl) dL_act_455 ⟨Nat.le_of_ble_eq_true rfl, Nat.le_of_ble_eq_true rfl⟩ (fun r5 M5 hq5 => ?_)
        obtain ⟨nr5, hR5, hK5, hr5, hnr5⟩ := hq5
        subst hr5
        have hE := act_end hI3 hRF1 hK5 hR5 (T_remove hT hw hn h0 hnr5) ⟨lP_remove hP hk0, PB_same hB rfl rfl rfl⟩ hg rfl
        refine m_icmp_ne (tgt := 465) C dL_act_458 (by decide) (fun h_4 => ?_) (fun h_4 => ?_)
        · exact absurd rfl h_4
        · refine m_iconst (v := 1) C dL_act_461 (by decide) ?_
          refine m_goto (tgt := 466) C dL_act_462 (by decide) ?_
          exact m_zret C (Nat.le_of_ble_eq_true rfl) (Nat.le_of_ble_eq_true rfl) dL_act_466 (Or.inr rfl) ⟨rfl, hE⟩
    · refine m_iconst (v := 1) C dL_act_438 (by decide) ?_
      exact m_zret C (Nat.le_of_ble_eq_true rfl) (Nat.le_of_ble_eq_true rfl) dL_act_439 (Or.inr rfl) ⟨rfl, hEnd⟩
set_option maxHeartbeats 4000000 in
set_option maxRecDepth 100000 in
theorem act_6 {p : Program} {l : Launch} {e : Env} {s : State} {m : MethodId} {args : Array Value} {below : List Frame} {meth : Method} {c : Code} {D : mD} {A : Nat → Prop} {Z : Nat → Nat} {o cm : Nat} {g : Int32} {ar : rA} {F M : Mm} {qn qc qp : Nat} {nr cr : Nat → Option Nat} {B : Nat → Nat → Int32} {K : Nat → List Nat} (hst : l.stackTraces = false) (hI : cI D Z F cm g ar M) (hRF : hW D o qn qc qp nr cr cm g B K F) (hT : hTT ar cm nr B K) (hP : lP cm ar) (hB : PB ar) (hg : ∃ b, b ≤ 255 ∧ g = nI b) {u n an a0 b0 : Nat} {x w : Int32} (hu : cP ar cm u) (hu0 : ar 3 u = 0) (hn : cP ar cm n) (han : nr n = some an) (ha0 : a0 < 70) (hb0 : b0 < 55) (C : mC p m meth c cL_act 21 s args wsL_act yL_act.cls D A yL_act (some .boolean)) (i8 : ∀ w ∈ wsX80, w ∈ wsL_act) : mV p l e ({ frames := 45, cells := 110, slots := 3200, locals := 1750 } : Room) s m args below meth c 21 D A (MQ below (va_Qi (fun r M' => r = 1 ∧ hAA D (Z 0) o M') (mB D A) A) args s 110 3200 A) M 0 0 [(8, .int (nI b0 - 5)), (7, .int (nI a0 - 5)), (6, .ref an), (5, .int (nI n)), (4, .int (nI u)), (3, .int w), (2, .int x), (1, .ref o), (0, .ref (Z 0))] [] 467 := by
  have hw : wf ar cm := hP.1
  have hb : BD ar cm := hP.2.1
  have hR : hW D o qn qc qp nr cr cm g B K M := hRF.mono (fun a x h => hI.F0 h)
  have hu4 := cP_40 hw hu
  have hn4 := cP_40 hw hn
  have hEnd : hAA D (Z 0) o M := ⟨Z, cm, g, ar, rfl, ⟨F, qn, qc, qp, nr, cr, B, K, hI, hRF, hT⟩, ⟨hP, hB⟩, hg⟩
  refine m_iload C dL_act_467 3 rfl ?_
  refine m_if_eq (tgt := 483) C dL_act_469 (by decide) (fun h_1 => ?_) (fun h_1 => ?_)
  · refine m_iconst (v := 1) C dL_act_483 (by decide) ?_
    exact m_zret C (Nat.le_of_ble_eq_true rfl) (Nat.le_of_ble_eq_true rfl) dL_act_484 (Or.inr rfl) ⟨rfl, hEnd⟩
  · have h0 : n ≠ 0 := fun z => h_1 (by rw [z]; rfl)
    refine m_aload_n C dL_act_472 rfl 7 rfl ?_
    refine m_iload C dL_act_473 3 rfl ?_
    refine m_iload C dL_act_475 4 rfl ?_
    refine m_callVFi (As := [.int (nI n), .int (nI u)]) (st := []) (v := bI (decide (n ∈ chn ar u))) C hR.1 rfl (c_X8_isAbove D A l hR hw hn4 (fun x hx => by obtain ⟨a, ha⟩ := (hT.1 x (cP_40 hw hx)).mpr hx; exact ⟨a, ha, (hT.2.1 x hx).2.1⟩) 40 u hu (wf_chl hw hu.1 hu.2)) (cwV 2 C.1.2.2.2.2 gL_act_X8_isAbove rfl rfl rfl (by decide +kernel) ⟨Nat.le_of_ble_eq_true rfl, Nat.le_of_ble_eq_true rfl⟩) rfl rfl (Nat.le_of_ble_eq_true rfl) dL_act_477 ⟨Nat.le_of_ble_eq_true rfl, Nat.le_of_ble_eq_true rfl⟩ ?_
    refine m_if_eq (tgt := 485) C dL_act_480 (by decide) (fun h_2 => ?_) (fun h_2 => ?_)
    · have hch : n ∉ chn ar u := of_decide_eq_false (bI_z h_2)
      obtain ⟨p1, p2, -, -, -⟩ := wf_place hw hn.1 hn.2 h0
      obtain ⟨q1, q2, q3, q4, q5⟩ := kids_plc hw hn h0
      have hKp : K (par9 ar n) = kids ar (par9 ar n) := hT.2.2.1 _ q3
      have hB1 : B n 1 = nI (par9 ar n) := (hT.2.1 n hn).2.1.trans p2
      have hkl := kids_le hw q3
      refine m_aload_n C dL_act_485 rfl 7 rfl ?_
      refine m_iload C dL_act_486 3 rfl ?_
      refine m_callVFi (As := [.int (nI n)]) (st := []) (v := nI (plc ar n)) C hR.1 rfl (c_X8_place D A l hR hn4 p1 han hB1 (by rw [hKp]; omega) (by rw [hKp]; exact kids_lt hw q3) (by rw [hKp]; exact q2) (by rw [hKp]; exact q1) (by rw [hKp]; exact take_ne hw hn h0)) (cwV 1 C.1.2.2.2.2 gL_act_X8_place rfl rfl rfl (by decide +kernel) ⟨Nat.le_of_ble_eq_true rfl, Nat.le_of_ble_eq_true rfl⟩) rfl rfl (Nat.le_of_ble_eq_true rfl) dL_act_488 ⟨Nat.le_of_ble_eq_true rfl, Nat.le_of_ble_eq_true rfl⟩ ?_
      obtain ⟨bu, fu, hbu, hbuM, hfu⟩ := hR.crow hu4
      have hKu : K u = kids ar u := hT.2.2.1 u hu
      have hKO := KO_len hw hn h0 hu
      have hku := kids_le hw hu
      refine m_istore (L' := [(11, .int (nI (plc ar n))), (8, .int (nI b0 - 5)), (7, .int (nI a0 - 5)), (6, .ref an), (5, .int (nI n)), (4, .int (nI u)), (3, .int w), (2, .int x), (1, .ref o), (0, .ref (Z 0))]) C dL_act_491 (by decide) rfl ?_
      refine m_aload_n C dL_act_493 rfl 8 rfl ?_
      refine m_get (ref := "PaintLayersLaw$Hand") C hR.1 rfl i8 1 (by decide) (by decide +kernel) (fun x h => h) (v := .ref qc) rfl dL_act_494 ?_
      refine m_iload C dL_act_497 5 rfl ?_
      refine m_aaldA C hR.2.2.1 (vp_in_nI hu4 (by decide)) dL_act_499 ?_
      rw [nI_clamp (show u < 2 ^ 31 by omega), hbu]
      refine m_alen C hbuM 0 rfl (v := nI (K u).length) rfl dL_act_500 ?_
      refine m_aload C dL_act_501 3 rfl ?_
      refine m_iconst (v := 1) C dL_act_503 (by decide) ?_
      refine m_iald C (hR.nrow hn4 han) (by unfold vp_in; decide) dL_act_504 ?_
      refine m_i (y := B n 1) (rfl) ?_
      refine m_i (y := nI (par9 ar n)) (hB1) ?_
      refine m_iload C dL_act_505 5 rfl ?_
      refine m_icmp_ne (tgt := 514) C dL_act_507 (by decide) (fun h_3 => ?_) (fun h_3 => ?_)
      · have hpu : ¬ par9 ar n = u := fun z => h_3 (by rw [z])
        rw [if_neg hpu] at hKO
        have hlu : (K u).length = (KO ar n u).length := by rw [hKu, hKO, kids_len]
        have hkm : (KO ar n u).length ≤ 39 := by rw [← hlu, hKu]; exact hku
        refine m_iconst (v := 1) C dL_act_514 (by decide) ?_
        refine m_iadd C dL_act_515 ?_
        refine m_i (y := nI ((KO ar n u).length + 1)) (by rw [hlu]; exact nI_add _ 1) ?_
        refine m_istore (L' := [(12, .int (nI ((KO ar n u).length + 1))), (11, .int (nI (plc ar n))), (8, .int (nI b0 - 5)), (7, .int (nI a0 - 5)), (6, .ref an), (5, .int (nI n)), (4, .int (nI u)), (3, .int w), (2, .int x), (1, .ref o), (0, .ref (Z 0))]) C dL_act_516 (by decide) rfl ?_
        refine m_iload_n C dL_act_518 rfl 8 rfl ?_
        refine m_bipush (v := 8) C dL_act_519 (by decide) ?_
        refine m_ishr C dL_act_521 ?_
        refine m_iload C dL_act_522 0 rfl ?_
        refine m_callSFi (As := [.int (x >>> (8 &&& 31)), .int (nI ((KO ar n u).length + 1))]) (st := []) (v := nI (q_bl (x >>> (8 &&& 31)) ((KO ar n u).length + 1))) C (c_L_below D A l (v := x >>> (8 &&& 31)) (N := ((KO ar n u).length + 1)) (Nat.succ_pos _) (by omega)) (va_cwS 2 C.1.2.2.2.2 gL_act_L_below rfl rfl rfl (by decide +kernel) ⟨Nat.le_of_ble_eq_true rfl, Nat.le_of_ble_eq_true rfl⟩) rfl rfl (Nat.le_of_ble_eq_true rfl) dL_act_524 ⟨Nat.le_of_ble_eq_true rfl, Nat.le_of_ble_eq_true rfl⟩ ?_
        obtain ⟨t_4, lt_4, et_4⟩ : ∃ z, z < ((KO ar n u).length + 1) ∧ q_bl (x >>> (8 &&& 31)) ((KO ar n u).length + 1) = z := ⟨_, q_bl_lt (Nat.succ_pos _), rfl⟩
        rw [et_4]
        refine m_istore (L' := [(13, .int (nI t_4)), (12, .int (nI ((KO ar n u).length + 1))), (11, .int (nI (plc ar n))), (8, .int (nI b0 - 5)), (7, .int (nI a0 - 5)), (6, .ref an), (5, .int (nI n)), (4, .int (nI u)), (3, .int w), (2, .int x), (1, .ref o), (0, .ref (Z 0))]) C dL_act_527 (by decide) rfl ?_
        refine m_aload_n C dL_act_529 rfl 10 rfl ?_
        refine m_iload C dL_act_530 6 rfl ?_
        refine m_callVv (As := [.int (nI n)]) (st := []) C hR.1 rfl (c_X8_take D A l hR hn4 p1 han hB1 (by rw [hKp]; omega) (by rw [hKp]; exact kids_lt hw q3) (by rw [hKp]; exact q2) (by rw [hKp]; exact q1) (by rw [hKp]; exact take_ne hw hn h0)) (cwV 1 C.1.2.2.2.2 gL_act_X8_take rfl rfl rfl (by decide +kernel) ⟨Nat.le_of_ble_eq_true rfl, Nat.le_of_ble_eq_true rfl⟩) rfl rfl (Nat.le_of_ble_eq_true rfl) dL_act_532 ⟨Nat.le_of_ble_eq_true rfl, Nat.le_of_ble_eq_true rfl⟩ (fun M1 hq1 => ?_)
        obtain ⟨cr1, hR1, hk1⟩ := hq1
        have hK1 : (upA K (par9 ar n) (outL (K (par9 ar n)) (plc ar n))) u = KO ar n u := by
          unfold KO
          by_cases z : u = par9 ar n
          · rw [if_pos z, z, upA_s, hKp]
          · rw [if_neg z, upA_n z]
            exact hKu
        refine m_aload_n C dL_act_535 rfl 10 rfl ?_
        refine m_iload C dL_act_536 6 rfl ?_
        refine m_iload C dL_act_538 7 rfl ?_
        refine m_iload C dL_act_540 0 rfl ?_
        refine m_callVv (As := [.int (nI n), .int (nI u), .int (nI t_4)]) (st := []) C hR1.1 rfl (c_X8_put D A l hR1 (j := t_4) hn4 hu4 han (by rw [hK1]; omega) (by rw [hK1]; omega)) (cwV 3 C.1.2.2.2.2 gL_act_X8_put rfl rfl rfl (by decide +kernel) ⟨Nat.le_of_ble_eq_true rfl, Nat.le_of_ble_eq_true rfl⟩) rfl rfl (Nat.le_of_ble_eq_true rfl) dL_act_542 ⟨Nat.le_of_ble_eq_true rfl, Nat.le_of_ble_eq_true rfl⟩ (fun M2 hq2 => ?_)
        obtain ⟨cr2, hR2, hk2⟩ := hq2
        obtain ⟨F2, hI2, hRF2⟩ := hI.hand hRF (hk1.tr hk2) hR2
        refine m_aload_n C dL_act_545 rfl 11 rfl ?_
        refine m_iload C dL_act_546 6 rfl ?_
        refine m_iload C dL_act_548 7 rfl ?_
        refine m_iload C dL_act_550 0 rfl ?_
        have hk0 : k_move cm ar (nI n) (nI u) (nI t_4) = 0 := move_0 hw hn h0 hu hu0 hch (show t_4 ≤ (KO ar n u).length by omega)
        obtain ⟨mf0, hme⟩ := hI2.me
        refine m_callVXiH (As := [.int (nI n), .int (nI u), .int (nI t_4)]) (st := []) C hme rfl (c_X7_move D A l hst hI2 hw hb) (cwV 3 C.1.2.2.2.2 gL_act_X7_move rfl rfl rfl (by decide +kernel) ⟨Nat.le_of_ble_eq_true rfl, Nat.le_of_ble_eq_true rfl⟩) rfl rfl (Nat.le_of_ble_eq_true rfl) dL_act_552 ⟨Nat.le_of_ble_eq_true rfl, Nat.le_of_ble_eq_true rfl⟩ (fun E M9 hx => ?_) (fun r M3 hp => ?_)
        · rcases hx.2 with ⟨h9, -⟩ | ⟨h9, -⟩ <;> exact absurd (hk0.symm.trans h9) (by decide)
        · obtain ⟨-, hr, hI3⟩ := hp
          rw [jN_at (show n < 2 ^ 31 by omega)] at hr
          subst hr
          have hE := act_end hI3 hRF2 hK.rf (hRF2.mono (fun a x h => hI3.F0 h)) (T_move hT hw hn h0 hu hu0 hch (show t_4 ≤ (KO ar n u).length by omega)) ⟨lP_move hP hk0, PB_same hB rfl rfl rfl⟩ hg rfl
          refine m_iload C dL_act_555 2 rfl ?_
          refine m_icmp_ne (tgt := 564) C dL_act_557 (by decide) (fun h_5 => ?_) (fun h_5 => ?_)
          · exact absurd rfl h_5
          · refine m_iconst (v := 1) C dL_act_560 (by decide) ?_
            refine m_goto (tgt := 565) C dL_act_561 (by decide) ?_
            exact m_zret C (Nat.le_of_ble_eq_true rfl) (Nat.le_of_ble_eq_true rfl) dL_act_565 (Or.inr rfl) ⟨rfl, hE⟩
      · have hpu : par9 ar n = u := (nI_eq (by omega) (by omega)).mp h_3
        rw [if_pos hpu] at hKO
        have hlu : (K u).length = (KO ar n u).length + 1 := by
          rw [hpu] at q2
          rw [hKu, hKO, ← kids_len]
          omega
        have hkm : (KO ar n u).length ≤ 39 := by rw [hKu] at hlu; omega
        refine m_iconst (v := 0) C dL_act_510 (by decide) ?_
        refine m_goto (tgt := 515) C dL_act_511 (by decide) ?_
        refine m_iadd C dL_act_515 ?_
        refine m_i (y := nI ((KO ar n u).length + 1)) (by rw [hlu]; exact nI_add _ 0) ?_
        refine m_istore (L' := [(12, .int (nI ((KO ar n u).length + 1))), (11, .int (nI (plc ar n))), (8, .int (nI b0 - 5)), (7, .int (nI a0 - 5)), (6, .ref an), (5, .int (nI n)), (4, .int (nI u)), (3, .int w), (2, .int x), (1, .ref o), (0, .ref (Z 0))]) C dL_act_516 (by decide) rfl ?_
        refine m_iload_n C dL_act_518 rfl 8 rfl ?_
        refine m_bipush (v := 8) C dL_act_519 (by decide) ?_
        refine m_ishr C dL_act_521 ?_
        refine m_iload C dL_act_522 0 rfl ?_
        refine m_callSFi (As := [.int (x >>> (8 &&& 31)), .int (nI ((KO ar n u).length + 1))]) (st := []) (v := nI (q_bl (x >>> (8 &&& 31)) ((KO ar n u).length + 1))) C (c_L_below D A l (v := x >>> (8 &&& 31)) (N := ((KO ar n u).length + 1)) (Nat.succ_pos _) (by omega)) (va_cwS 2 C.1.2.2.2.2 gL_act_L_below rfl rfl rfl (by decide +kernel) ⟨Nat.le_of_ble_eq_true rfl, Nat.le_of_ble_eq_true rfl⟩) rfl rfl (Nat.le_of_ble_eq_true rfl) dL_act_524 ⟨Nat.le_of_ble_eq_true rfl, Nat.le_of_ble_eq_true rfl⟩ ?_
        obtain ⟨t_6, lt_6, et_6⟩ : ∃ z, z < ((KO ar n u).length + 1) ∧ q_bl (x >>> (8 &&& 31)) ((KO ar n u).length + 1) = z := ⟨_, q_bl_lt (Nat.succ_pos _), rfl⟩
        rw [et_6]
        refine m_istore (L' := [(13, .int (nI t_6)), (12, .int (nI ((KO ar n u).length + 1))), (11, .int (nI (plc ar n))), (8, .int (nI b0 - 5)), (7, .int (nI a0 - 5)), (6, .ref an), (5, .int (nI n)), (4, .int (nI u)), (3, .int w), (2, .int x), (1, .ref o), (0, .ref (Z 0))]) C dL_act_527 (by decide) rfl ?_
        refine m_aload_n C dL_act_529 rfl 10 rfl ?_
        refine m_iload C dL_act_530 6 rfl ?_
        refine m_callVv (As := [.int (nI n)]) (st := []) C hR.1 rfl (c_X8_take D A l hR hn4 p1 han hB1 (by rw [hKp]; omega) (by rw [hKp]; exact kids_lt hw q3) (by rw [hKp]; exact q2) (by rw [hKp]; exact q1) (by rw [hKp]; exact take_ne hw hn h0)) (cwV 1 C.1.2.2.2.2 gL_act_X8_take rfl rfl rfl (by decide +kernel) ⟨Nat.le_of_ble_eq_true rfl, Nat.le_of_ble_eq_true rfl⟩) rfl rfl (Nat.le_of_ble_eq_true rfl) dL_act_532 ⟨Nat.le_of_ble_eq_true rfl, Nat.le_of_ble_eq_true rfl⟩ (fun M1 hq1 => ?_)
        obtain ⟨cr1, hR1, hk1⟩ := hq1
        have hK1 : (upA K (par9 ar n) (outL (K (par9 ar n)) (plc ar n))) u = KO ar n u := by
          unfold KO
          by_cases z : u = par9 ar n
          · rw [if_pos z, z, upA_s, hKp]
          · rw [if_neg z, upA_n z]
            exact hKu
        refine m_aload_n C dL_act_535 rfl 10 rfl ?_
        refine m_iload C dL_act_536 6 rfl ?_
        refine m_iload C dL_act_538 7 rfl ?_
        refine m_iload C dL_act_540 0 rfl ?_
        refine m_callVv (As := [.int (nI n), .int (nI u), .int (nI t_6)]) (st := []) C hR1.1 rfl (c_X8_put D A l hR1 (j := t_6) hn4 hu4 han (by rw [hK1]; omega) (by rw [hK1]; omega)) (cwV 3 C.1.2.2.2.2 gL_act_X8_put rfl rfl rfl (by decide +kernel) ⟨Nat.le_of_ble_eq_true rfl, Nat.le_of_ble_eq_true rfl⟩) rfl rfl (Nat.le_of_ble_eq_true rfl) dL_act_542 ⟨Nat.le_of_ble_eq_true rfl, Nat.le_of_ble_eq_true rfl⟩ (fun M2 hq2 => ?_)
        obtain ⟨cr2, hR2, hk2⟩ := hq2
        obtain ⟨F2, hI2, hRF2⟩ := hI.hand hRF (hk1.tr hk2) hR2
        refine m_aload_n C dL_act_545 rfl 11 rfl ?_
        refine m_iload C dL_act_546 6 rfl ?_
        refine m_iload C dL_act_548 7 rfl ?_
        refine m_iload C dL_act_550 0 rfl ?_
        have hk0 : k_move cm ar (nI n) (nI u) (nI t_6) = 0 := move_0 hw hn h0 hu hu0 hch (show t_6 ≤ (KO ar n u).length by omega)
        obtain ⟨mf0, hme⟩ := hI2.me
        refine m_callVXiH (As := [.int (nI n), .int (nI u), .int (nI t_6)]) (st := []) C hme rfl (c_X7_move D A l hst hI2 hw hb) (cwV 3 C.1.2.2.2.2 gL_act_X7_move rfl rfl rfl (by decide +kernel) ⟨Nat.le_of_ble_eq_true rfl, Nat.le_of_ble_eq_true rfl⟩) rfl rfl (Nat.le_of_ble_eq_true rfl) dL_act_552 ⟨Nat.le_of_ble_eq_true rfl, Nat.le_of_ble_eq_true rfl⟩ (fun E M9 hx => ?_) (fun r M3 hp => ?_)
        · rcases hx.2 with ⟨h9, -⟩ | ⟨h9, -⟩ <;> exact absurd (hk0.symm.trans h9) (by decide)
        · obtain ⟨-, hr, hI3⟩ := hp
          rw [jN_at (show n < 2 ^ 31 by omega)] at hr
          subst hr
          have hE := act_end hI3 hRF2 hK.rf (hRF2.mono (fun a x h => hI3.F0 h)) (T_move hT hw hn h0 hu hu0 hch (show t_6 ≤ (KO ar n u).length by omega)) ⟨lP_move hP hk0, PB_same hB rfl rfl rfl⟩ hg rfl
          refine m_iload C dL_act_555 2 rfl ?_
          refine m_icmp_ne (tgt := 564) C dL_act_557 (by decide) (fun h_7 => ?_) (fun h_7 => ?_)
          · exact absurd rfl h_7
          · refine m_iconst (v := 1) C dL_act_560 (by decide) ?_
            refine m_goto (tgt := 565) C dL_act_561 (by decide) ?_
            exact m_zret C (Nat.le_of_ble_eq_true rfl) (Nat.le_of_ble_eq_true rfl) dL_act_565 (Or.inr rfl) ⟨rfl, hE⟩
    · refine m_iconst (v := 1) C dL_act_483 (by decide) ?_
      exact m_zret C (Nat.le_of_ble_eq_true rfl) (Nat.le_of_ble_eq_true rfl) dL_act_484 (Or.inr rfl) ⟨rfl, hEnd⟩
