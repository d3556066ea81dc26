/-! ===== act: what changes a node or the ground ===== -/
set_option maxHeartbeats 4000000 in
set_option maxRecDepth 100000 in
theorem act_7 {p : Program} {l : Launch} {e : Env} {s : State} {m : MethodId} {args : Array Value} {below : List Frame} {meth : Method} {c : Code} {D : mD} {A : Nat → Prop} {Z : Nat → Nat} {o cm : Nat} {g : Int32} {ar : rA} {F M : Mm} {qn qc qp : Nat} {nr cr : Nat → Option Nat} {B : Nat → Nat → Int32} {K : Nat → List Nat} (hst : l.stackTraces = false) (hI : cI D Z F cm g ar M) (hRF : hW D o qn qc qp nr cr cm g B K F) (hT : hTT ar cm nr B K) (hP : lP cm ar) (hB : PB ar) (hg : ∃ b, b ≤ 255 ∧ g = nI b) {u n an a0 b0 : Nat} {x w : Int32} (hu : cP ar cm u) (hu0 : ar 3 u = 0) (hn : cP ar cm n) (han : nr n = some an) (ha0 : a0 < 70) (hb0 : b0 < 55) (C : mC p m meth c cL_act 21 s args wsL_act yL_act.cls D A yL_act (some .boolean)) (i8 : ∀ w ∈ wsX80, w ∈ wsL_act) : mV p l e ({ frames := 45, cells := 110, slots := 3200, locals := 1750 } : Room) s m args below meth c 21 D A (MQ below (va_Qi (fun r M' => r = 1 ∧ hAA D (Z 0) o M') (mB D A) A) args s 110 3200 A) M 0 0 [(8, .int (nI b0 - 5)), (7, .int (nI a0 - 5)), (6, .ref an), (5, .int (nI n)), (4, .int (nI u)), (3, .int w), (2, .int x), (1, .ref o), (0, .ref (Z 0))] [] 566 := by
  have hw : wf ar cm := hP.1
  have hb : BD ar cm := hP.2.1
  have hR : hW D o qn qc qp nr cr cm g B K M := hRF.mono (fun a x h => hI.F0 h)
  have hu4 := cP_40 hw hu
  have hn4 := cP_40 hw hn
  have hEnd : hAA D (Z 0) o M := ⟨Z, cm, g, ar, rfl, ⟨F, qn, qc, qp, nr, cr, B, K, hI, hRF, hT⟩, ⟨hP, hB⟩, hg⟩
  have hk := hK.rf (o := o) (qn := qn) (qc := qc) (nr := nr) (cr := cr) (M := M)
  have hR0 := hR
  rw [← upA_self B n] at hR0
  refine m_aload C dL_act_566 2 rfl ?_
  refine m_iconst (v := 2) C dL_act_568 (by decide) ?_
  refine m_ialdN C (hR0.rowU hn4 han) (by unfold vp_in; decide) (j := 2) (v := ar 8 n) (by decide) ((hT.2.1 n hn).2.2.1) dL_act_569 ?_
  refine m_istore (L' := [(14, .int (ar 8 n)), (8, .int (nI b0 - 5)), (7, .int (nI a0 - 5)), (6, .ref an), (5, .int (nI n)), (4, .int (nI u)), (3, .int w), (2, .int x), (1, .ref o), (0, .ref (Z 0))]) C dL_act_570 (by decide) rfl ?_
  refine m_aload C dL_act_572 3 rfl ?_
  refine m_iconst (v := 2) C dL_act_574 (by decide) ?_
  refine m_iload_n C dL_act_575 rfl 7 rfl ?_
  refine m_bipush (v := 8) C dL_act_576 (by decide) ?_
  refine m_ishr C dL_act_578 ?_
  refine m_bipush (v := 41) C dL_act_579 (by decide) ?_
  refine m_callSFi (As := [.int (x >>> (8 &&& 31)), .int 41]) (st := [.int 2, .ref an]) (v := nI (q_bl (x >>> (8 &&& 31)) 41)) C (c_L_below D A l (v := x >>> (8 &&& 31)) (N := 41) (by decide) (by decide)) (va_cwS 2 C.1.2.2.2.2 gL_act_L_below rfl rfl rfl (by decide +kernel) ⟨Nat.le_of_ble_eq_true rfl, Nat.le_of_ble_eq_true rfl⟩) rfl rfl (Nat.le_of_ble_eq_true rfl) dL_act_581 ⟨Nat.le_of_ble_eq_true rfl, Nat.le_of_ble_eq_true rfl⟩ ?_
  obtain ⟨t_1, lt_1, et_1⟩ : ∃ z, z < 41 ∧ q_bl (x >>> (8 &&& 31)) 41 = z := ⟨_, q_bl_lt (by decide), rfl⟩
  rw [et_1]
  refine m_bipush (v := 20) C dL_act_584 (by decide) ?_
  refine m_isub C dL_act_586 ?_
  refine m_iastH C hR0 hk hn4 han (by unfold vp_in; decide) (j := 2) (by decide) dL_act_587 (fun M1 hR1 hk => ?_)
  refine m_aload C dL_act_588 3 rfl ?_
  refine m_iconst (v := 3) C dL_act_590 (by decide) ?_
  refine m_iload_n C dL_act_591 rfl 7 rfl ?_
  refine m_bipush (v := 7) C dL_act_592 (by decide) ?_
  refine m_ishr C dL_act_594 ?_
  refine m_bipush (v := 31) C dL_act_595 (by decide) ?_
  refine m_callSFi (As := [.int (x >>> (7 &&& 31)), .int 31]) (st := [.int 3, .ref an]) (v := nI (q_bl (x >>> (7 &&& 31)) 31)) C (c_L_below D A l (v := x >>> (7 &&& 31)) (N := 31) (by decide) (by decide)) (va_cwS 2 C.1.2.2.2.2 gL_act_L_below rfl rfl rfl (by decide +kernel) ⟨Nat.le_of_ble_eq_true rfl, Nat.le_of_ble_eq_true rfl⟩) rfl rfl (Nat.le_of_ble_eq_true rfl) dL_act_597 ⟨Nat.le_of_ble_eq_true rfl, Nat.le_of_ble_eq_true rfl⟩ ?_
  obtain ⟨t_2, lt_2, et_2⟩ : ∃ z, z < 31 ∧ q_bl (x >>> (7 &&& 31)) 31 = z := ⟨_, q_bl_lt (by decide), rfl⟩
  rw [et_2]
  refine m_bipush (v := 15) C dL_act_600 (by decide) ?_
  refine m_isub C dL_act_602 ?_
  refine m_iastH C hR1 hk hn4 han (by unfold vp_in; decide) (j := 3) (by decide) dL_act_603 (fun M1 hR1 hk => ?_)
  refine m_aload_n C dL_act_604 rfl 9 rfl ?_
  refine m_iload C dL_act_605 4 rfl ?_
  refine m_aload C dL_act_607 3 rfl ?_
  refine m_iconst (v := 2) C dL_act_609 (by decide) ?_
  refine m_ialdN C (hR1.rowU hn4 han) (by unfold vp_in; decide) (j := 2) (v := (nI t_1) - 20) (by decide) (rfl) dL_act_610 ?_
  refine m_aload C dL_act_611 3 rfl ?_
  refine m_iconst (v := 3) C dL_act_613 (by decide) ?_
  refine m_ialdN C (hR1.rowU hn4 han) (by unfold vp_in; decide) (j := 3) (v := (nI t_2) - 15) (by decide) (rfl) dL_act_614 ?_
  obtain ⟨F1, hI1, hRF1⟩ := hI.hand hRF hk hR1
  have hk0 : k_place cm ar (nI n) (nI t_1 - 20) (nI t_2 - 15) = 0 := place_0 hw hn lt_1 lt_2
  obtain ⟨mf0, hme⟩ := hI1.me
  refine m_callVXiH (As := [.int (nI n), .int ((nI t_1) - 20), .int ((nI t_2) - 15)]) (st := []) C hme rfl (c_X7_place D A l hst hI1 hw hb) (cwV 3 C.1.2.2.2.2 gL_act_X7_place rfl rfl rfl (by decide +kernel) ⟨Nat.le_of_ble_eq_true rfl, Nat.le_of_ble_eq_true rfl⟩) rfl rfl (Nat.le_of_ble_eq_true rfl) dL_act_615 ⟨Nat.le_of_ble_eq_true rfl, Nat.le_of_ble_eq_true rfl⟩ (fun E M9 hx => ?_) (fun r M3 hp => ?_)
  · rcases hx.2 with ⟨h9, -⟩ | ⟨h9, -⟩ <;> exact absurd (hk0.symm.trans h9) (by decide)
  · obtain ⟨-, hr, hI3⟩ := hp
    rw [jN_at (show n < 2 ^ 31 by omega)] at hr
    subst hr
    have es : s_place ar (nI n) (nI t_1 - 20) (nI t_2 - 15) = upA (upA ar 8 (upd (ar 8) n (nI t_1 - 20))) 9 (upd (ar 9) n (nI t_2 - 15)) := by unfold s_place; rw [jN_at (show n < 2 ^ 31 by omega)]
    have hA' : AB (s_place ar (nI n) (nI t_1 - 20) (nI t_2 - 15)) cm := ⟨lP_place hP hk0, PB_same hB rfl rfl rfl⟩
    have hT' : hTT (s_place ar (nI n) (nI t_1 - 20) (nI t_2 - 15)) cm nr (upA B n (upd (upd (B n) 2 (nI t_1 - 20)) 3 (nI t_2 - 15))) K := by
      rw [es]
      exact T_set (ar' := upA (upA ar 8 (upd (ar 8) n (nI t_1 - 20))) 9 (upd (ar 9) n (nI t_2 - 15))) (n := n) hT rfl (fun _ => rfl) (fun m hm => ⟨rfl, rfl, upd_n9 hm, rfl, rfl, rfl, rfl⟩) ⟨(hT.2.1 n hn).1, (hT.2.1 n hn).2.1, upd_s9.symm, (hT.2.1 n hn).2.2.2.1, (hT.2.1 n hn).2.2.2.2.1, (hT.2.1 n hn).2.2.2.2.2.1, (hT.2.1 n hn).2.2.2.2.2.2⟩
    have hE := act_end hI3 hRF1 hK.rf (hRF1.mono (fun a x h => hI3.F0 h)) hT' hA' hg rfl
    refine m_iload C dL_act_618 0 rfl ?_
    refine m_icmp_ne (tgt := 627) C dL_act_620 (by decide) (fun h_3 => ?_) (fun h_3 => ?_)
    · exact absurd rfl h_3
    · refine m_iconst (v := 1) C dL_act_623 (by decide) ?_
      refine m_goto (tgt := 628) C dL_act_624 (by decide) ?_
      exact m_zret C (Nat.le_of_ble_eq_true rfl) (Nat.le_of_ble_eq_true rfl) dL_act_628 (Or.inr rfl) ⟨rfl, hE⟩
set_option maxHeartbeats 4000000 in
set_option maxRecDepth 100000 in
theorem act_8 {p : Program} {l : Launch} {e : Env} {s : State} {m : MethodId} {args : Array Value} {below : List Frame} {meth : Method} {c : Code} {D : mD} {A : Nat → Prop} {Z : Nat → Nat} {o cm : Nat} {g : Int32} {ar : rA} {F M : Mm} {qn qc qp : Nat} {nr cr : Nat → Option Nat} {B : Nat → Nat → Int32} {K : Nat → List Nat} (hst : l.stackTraces = false) (hI : cI D Z F cm g ar M) (hRF : hW D o qn qc qp nr cr cm g B K F) (hT : hTT ar cm nr B K) (hP : lP cm ar) (hB : PB ar) (hg : ∃ b, b ≤ 255 ∧ g = nI b) {u n an a0 b0 : Nat} {x w : Int32} (hu : cP ar cm u) (hu0 : ar 3 u = 0) (hn : cP ar cm n) (han : nr n = some an) (ha0 : a0 < 70) (hb0 : b0 < 55) (C : mC p m meth c cL_act 21 s args wsL_act yL_act.cls D A yL_act (some .boolean)) (i8 : ∀ w ∈ wsX80, w ∈ wsL_act) : mV p l e ({ frames := 45, cells := 110, slots := 3200, locals := 1750 } : Room) s m args below meth c 21 D A (MQ below (va_Qi (fun r M' => r = 1 ∧ hAA D (Z 0) o M') (mB D A) A) args s 110 3200 A) M 0 0 [(8, .int (nI b0 - 5)), (7, .int (nI a0 - 5)), (6, .ref an), (5, .int (nI n)), (4, .int (nI u)), (3, .int w), (2, .int x), (1, .ref o), (0, .ref (Z 0))] [] 629 := by
  have hw : wf ar cm := hP.1
  have hb : BD ar cm := hP.2.1
  have hR : hW D o qn qc qp nr cr cm g B K M := hRF.mono (fun a x h => hI.F0 h)
  have hu4 := cP_40 hw hu
  have hn4 := cP_40 hw hn
  have hEnd : hAA D (Z 0) o M := ⟨Z, cm, g, ar, rfl, ⟨F, qn, qc, qp, nr, cr, B, K, hI, hRF, hT⟩, ⟨hP, hB⟩, hg⟩
  have hk := hK.rf (o := o) (qn := qn) (qc := qc) (nr := nr) (cr := cr) (M := M)
  have hR0 := hR
  rw [← upA_self B n] at hR0
  refine m_aload C dL_act_629 2 rfl ?_
  refine m_iconst (v := 4) C dL_act_631 (by decide) ?_
  refine m_ialdN C (hR0.rowU hn4 han) (by unfold vp_in; decide) (j := 4) (v := ar 10 n) (by decide) ((hT.2.1 n hn).2.2.2.1) dL_act_632 ?_
  refine m_istore (L' := [(15, .int (ar 10 n)), (8, .int (nI b0 - 5)), (7, .int (nI a0 - 5)), (6, .ref an), (5, .int (nI n)), (4, .int (nI u)), (3, .int w), (2, .int x), (1, .ref o), (0, .ref (Z 0))]) C dL_act_633 (by decide) rfl ?_
  refine m_aload C dL_act_635 3 rfl ?_
  refine m_iconst (v := 4) C dL_act_637 (by decide) ?_
  refine m_iload_n C dL_act_638 rfl 7 rfl ?_
  refine m_bipush (v := 7) C dL_act_639 (by decide) ?_
  refine m_ishr C dL_act_641 ?_
  refine m_iconst (v := 4) C dL_act_642 (by decide) ?_
  refine m_callSFi (As := [.int (x >>> (7 &&& 31)), .int 4]) (st := [.int 4, .ref an]) (v := nI (q_bl (x >>> (7 &&& 31)) 4)) C (c_L_below D A l (v := x >>> (7 &&& 31)) (N := 4) (by decide) (by decide)) (va_cwS 2 C.1.2.2.2.2 gL_act_L_below rfl rfl rfl (by decide +kernel) ⟨Nat.le_of_ble_eq_true rfl, Nat.le_of_ble_eq_true rfl⟩) rfl rfl (Nat.le_of_ble_eq_true rfl) dL_act_643 ⟨Nat.le_of_ble_eq_true rfl, Nat.le_of_ble_eq_true rfl⟩ ?_
  obtain ⟨t_1, lt_1, et_1⟩ : ∃ z, z < 4 ∧ q_bl (x >>> (7 &&& 31)) 4 = z := ⟨_, q_bl_lt (by decide), rfl⟩
  rw [et_1]
  refine m_if_ne (tgt := 653) C dL_act_646 (by decide) (fun h_2 => ?_) (fun h_2 => ?_)
  · refine m_iload_n C dL_act_653 rfl 7 rfl ?_
    refine m_bipush (v := 8) C dL_act_654 (by decide) ?_
    refine m_ishr C dL_act_656 ?_
    refine m_sipush (v := 256) C dL_act_657 (by decide) ?_
    refine m_callSFi (As := [.int (x >>> (8 &&& 31)), .int 256]) (st := [.int 4, .ref an]) (v := nI (q_bl (x >>> (8 &&& 31)) 256)) C (c_L_below D A l (v := x >>> (8 &&& 31)) (N := 256) (by decide) (by decide)) (va_cwS 2 C.1.2.2.2.2 gL_act_L_below rfl rfl rfl (by decide +kernel) ⟨Nat.le_of_ble_eq_true rfl, Nat.le_of_ble_eq_true rfl⟩) rfl rfl (Nat.le_of_ble_eq_true rfl) dL_act_660 ⟨Nat.le_of_ble_eq_true rfl, Nat.le_of_ble_eq_true rfl⟩ ?_
    obtain ⟨t_3, lt_3, et_3⟩ : ∃ z, z < 256 ∧ q_bl (x >>> (8 &&& 31)) 256 = z := ⟨_, q_bl_lt (by decide), rfl⟩
    rw [et_3]
    refine m_iastH C hR0 hk hn4 han (by unfold vp_in; decide) (j := 4) (by decide) dL_act_663 (fun M1 hR1 hk => ?_)
    refine m_aload_n C dL_act_664 rfl 9 rfl ?_
    refine m_iload C dL_act_665 4 rfl ?_
    refine m_aload C dL_act_667 3 rfl ?_
    refine m_iconst (v := 4) C dL_act_669 (by decide) ?_
    refine m_ialdN C (hR1.rowU hn4 han) (by unfold vp_in; decide) (j := 4) (v := nI t_3) (by decide) (rfl) dL_act_670 ?_
    obtain ⟨F1, hI1, hRF1⟩ := hI.hand hRF hk hR1
    have hk0 : k_setFill cm ar (nI n) (nI t_3) = 0 := fill_0 hw hn (Or.inr ⟨t_3, by omega, rfl⟩)
    obtain ⟨mf0, hme⟩ := hI1.me
    refine m_callVXiH (As := [.int (nI n), .int (nI t_3)]) (st := []) C hme rfl (c_X7_setFill D A l hst hI1 hw hb) (cwV 2 C.1.2.2.2.2 gL_act_X7_setFill rfl rfl rfl (by decide +kernel) ⟨Nat.le_of_ble_eq_true rfl, Nat.le_of_ble_eq_true rfl⟩) rfl rfl (Nat.le_of_ble_eq_true rfl) dL_act_671 ⟨Nat.le_of_ble_eq_true rfl, Nat.le_of_ble_eq_true rfl⟩ (fun E M9 hx => ?_) (fun r M3 hp => ?_)
    · rcases hx.2 with ⟨h9, -⟩ | ⟨h9, -⟩ <;> exact absurd (hk0.symm.trans h9) (by decide)
    · obtain ⟨-, hr, hI3⟩ := hp
      rw [jN_at (show n < 2 ^ 31 by omega)] at hr
      subst hr
      have es : s_setFill ar (nI n) (nI t_3) = upA ar 10 (upd (ar 10) n (nI t_3)) := by unfold s_setFill; rw [jN_at (show n < 2 ^ 31 by omega)]
      have hA' : AB (s_setFill ar (nI n) (nI t_3)) cm := ⟨lP_setFill hP hk0, by rw [es]; exact PB_10 hB (n := n) (v := nI t_3) (Or.inr ⟨t_3, by omega, rfl⟩) rfl rfl rfl⟩
      have hT' : hTT (s_setFill ar (nI n) (nI t_3)) cm nr (upA B n (upd (B n) 4 (nI t_3))) K := by
        rw [es]
        exact T_set (ar' := upA ar 10 (upd (ar 10) n (nI t_3))) (n := n) hT rfl (fun _ => rfl) (fun m hm => ⟨rfl, rfl, rfl, upd_n9 hm, rfl, rfl, rfl⟩) ⟨(hT.2.1 n hn).1, (hT.2.1 n hn).2.1, (hT.2.1 n hn).2.2.1, upd_s9.symm, (hT.2.1 n hn).2.2.2.2.1, (hT.2.1 n hn).2.2.2.2.2.1, (hT.2.1 n hn).2.2.2.2.2.2⟩
      have hE := act_end hI3 hRF1 hK.rf (hRF1.mono (fun a x h => hI3.F0 h)) hT' hA' hg rfl
      refine m_iload C dL_act_674 0 rfl ?_
      refine m_icmp_ne (tgt := 683) C dL_act_676 (by decide) (fun h_4 => ?_) (fun h_4 => ?_)
      · exact absurd rfl h_4
      · refine m_iconst (v := 1) C dL_act_679 (by decide) ?_
        refine m_goto (tgt := 684) C dL_act_680 (by decide) ?_
        exact m_zret C (Nat.le_of_ble_eq_true rfl) (Nat.le_of_ble_eq_true rfl) dL_act_684 (Or.inr rfl) ⟨rfl, hE⟩
  · refine m_iconst (v := (-1)) C dL_act_649 (by decide) ?_
    refine m_goto (tgt := 663) C dL_act_650 (by decide) ?_
    refine m_iastH C hR0 hk hn4 han (by unfold vp_in; decide) (j := 4) (by decide) dL_act_663 (fun M1 hR1 hk => ?_)
    refine m_aload_n C dL_act_664 rfl 9 rfl ?_
    refine m_iload C dL_act_665 4 rfl ?_
    refine m_aload C dL_act_667 3 rfl ?_
    refine m_iconst (v := 4) C dL_act_669 (by decide) ?_
    refine m_ialdN C (hR1.rowU hn4 han) (by unfold vp_in; decide) (j := 4) (v := (-1)) (by decide) (rfl) dL_act_670 ?_
    obtain ⟨F1, hI1, hRF1⟩ := hI.hand hRF hk hR1
    have hk0 : k_setFill cm ar (nI n) (-1) = 0 := fill_0 hw hn (Or.inl rfl)
    obtain ⟨mf0, hme⟩ := hI1.me
    refine m_callVXiH (As := [.int (nI n), .int ((-1))]) (st := []) C hme rfl (c_X7_setFill D A l hst hI1 hw hb) (cwV 2 C.1.2.2.2.2 gL_act_X7_setFill rfl rfl rfl (by decide +kernel) ⟨Nat.le_of_ble_eq_true rfl, Nat.le_of_ble_eq_true rfl⟩) rfl rfl (Nat.le_of_ble_eq_true rfl) dL_act_671 ⟨Nat.le_of_ble_eq_true rfl, Nat.le_of_ble_eq_true rfl⟩ (fun E M9 hx => ?_) (fun r M3 hp => ?_)
    · rcases hx.2 with ⟨h9, -⟩ | ⟨h9, -⟩ <;> exact absurd (hk0.symm.trans h9) (by decide)
    · obtain ⟨-, hr, hI3⟩ := hp
      rw [jN_at (show n < 2 ^ 31 by omega)] at hr
      subst hr
      have es : s_setFill ar (nI n) (-1) = upA ar 10 (upd (ar 10) n (-1)) := by unfold s_setFill; rw [jN_at (show n < 2 ^ 31 by omega)]
      have hA' : AB (s_setFill ar (nI n) (-1)) cm := ⟨lP_setFill hP hk0, by rw [es]; exact PB_10 hB (n := n) (v := (-1)) (Or.inl rfl) rfl rfl rfl⟩
      have hT' : hTT (s_setFill ar (nI n) (-1)) cm nr (upA B n (upd (B n) 4 (-1))) K := by
        rw [es]
        exact T_set (ar' := upA ar 10 (upd (ar 10) n (-1))) (n := n) hT rfl (fun _ => rfl) (fun m hm => ⟨rfl, rfl, rfl, upd_n9 hm, rfl, rfl, rfl⟩) ⟨(hT.2.1 n hn).1, (hT.2.1 n hn).2.1, (hT.2.1 n hn).2.2.1, upd_s9.symm, (hT.2.1 n hn).2.2.2.2.1, (hT.2.1 n hn).2.2.2.2.2.1, (hT.2.1 n hn).2.2.2.2.2.2⟩
      have hE := act_end hI3 hRF1 hK.rf (hRF1.mono (fun a x h => hI3.F0 h)) hT' hA' hg rfl
      refine m_iload C dL_act_674 0 rfl ?_
      refine m_icmp_ne (tgt := 683) C dL_act_676 (by decide) (fun h_5 => ?_) (fun h_5 => ?_)
      · exact absurd rfl h_5
      · refine m_iconst (v := 1) C dL_act_679 (by decide) ?_
        refine m_goto (tgt := 684) C dL_act_680 (by decide) ?_
        exact m_zret C (Nat.le_of_ble_eq_true rfl) (Nat.le_of_ble_eq_true rfl) dL_act_684 (Or.inr rfl) ⟨rfl, hE⟩
set_option maxHeartbeats 4000000 in
set_option maxRecDepth 100000 in
theorem act_9 {p : Program} {l : Launch} {e : Env} {s : State} {m : MethodId} {args : Array Value} {below : List Frame} {meth : Method} {c : Code} {D : mD} {A : Nat → Prop} {Z : Nat → Nat} {o cm : Nat} {g : Int32} {ar : rA} {F M : Mm} {qn qc qp : Nat} {nr cr : Nat → Option Nat} {B : Nat → Nat → Int32} {K : Nat → List Nat} (hst : l.stackTraces = false) (hI : cI D Z F cm g ar M) (hRF : hW D o qn qc qp nr cr cm g B K F) (hT : hTT ar cm nr B K) (hP : lP cm ar) (hB : PB ar) (hg : ∃ b, b ≤ 255 ∧ g = nI b) {u n an a0 b0 : Nat} {x w : Int32} (hu : cP ar cm u) (hu0 : ar 3 u = 0) (hn : cP ar cm n) (han : nr n = some an) (ha0 : a0 < 70) (hb0 : b0 < 55) (C : mC p m meth c cL_act 21 s args wsL_act yL_act.cls D A yL_act (some .boolean)) (i8 : ∀ w ∈ wsX80, w ∈ wsL_act) : mV p l e ({ frames := 45, cells := 110, slots := 3200, locals := 1750 } : Room) s m args below meth c 21 D A (MQ below (va_Qi (fun r M' => r = 1 ∧ hAA D (Z 0) o M') (mB D A) A) args s 110 3200 A) M 0 0 [(8, .int (nI b0 - 5)), (7, .int (nI a0 - 5)), (6, .ref an), (5, .int (nI n)), (4, .int (nI u)), (3, .int w), (2, .int x), (1, .ref o), (0, .ref (Z 0))] [] 685 := by
  have hw : wf ar cm := hP.1
  have hb : BD ar cm := hP.2.1
  have hR : hW D o qn qc qp nr cr cm g B K M := hRF.mono (fun a x h => hI.F0 h)
  have hu4 := cP_40 hw hu
  have hn4 := cP_40 hw hn
  have hEnd : hAA D (Z 0) o M := ⟨Z, cm, g, ar, rfl, ⟨F, qn, qc, qp, nr, cr, B, K, hI, hRF, hT⟩, ⟨hP, hB⟩, hg⟩
  have hk := hK.rf (o := o) (qn := qn) (qc := qc) (nr := nr) (cr := cr) (M := M)
  have hR0 := hR
  rw [← upA_self B n] at hR0
  refine m_aload C dL_act_685 2 rfl ?_
  refine m_iconst (v := 5) C dL_act_687 (by decide) ?_
  refine m_ialdN C (hR0.rowU hn4 han) (by unfold vp_in; decide) (j := 5) (v := ar 11 n) (by decide) ((hT.2.1 n hn).2.2.2.2.1) dL_act_688 ?_
  refine m_istore (L' := [(16, .int (ar 11 n)), (8, .int (nI b0 - 5)), (7, .int (nI a0 - 5)), (6, .ref an), (5, .int (nI n)), (4, .int (nI u)), (3, .int w), (2, .int x), (1, .ref o), (0, .ref (Z 0))]) C dL_act_689 (by decide) rfl ?_
  refine m_aload C dL_act_691 3 rfl ?_
  refine m_iconst (v := 5) C dL_act_693 (by decide) ?_
  refine m_iload_n C dL_act_694 rfl 7 rfl ?_
  refine m_bipush (v := 8) C dL_act_695 (by decide) ?_
  refine m_ishr C dL_act_697 ?_
  refine m_bipush (v := 9) C dL_act_698 (by decide) ?_
  refine m_callSFi (As := [.int (x >>> (8 &&& 31)), .int 9]) (st := [.int 5, .ref an]) (v := nI (q_bl (x >>> (8 &&& 31)) 9)) C (c_L_below D A l (v := x >>> (8 &&& 31)) (N := 9) (by decide) (by decide)) (va_cwS 2 C.1.2.2.2.2 gL_act_L_below rfl rfl rfl (by decide +kernel) ⟨Nat.le_of_ble_eq_true rfl, Nat.le_of_ble_eq_true rfl⟩) rfl rfl (Nat.le_of_ble_eq_true rfl) dL_act_700 ⟨Nat.le_of_ble_eq_true rfl, Nat.le_of_ble_eq_true rfl⟩ ?_
  obtain ⟨t_1, lt_1, et_1⟩ : ∃ z, z < 9 ∧ q_bl (x >>> (8 &&& 31)) 9 = z := ⟨_, q_bl_lt (by decide), rfl⟩
  rw [et_1]
  refine m_iastH C hR0 hk hn4 han (by unfold vp_in; decide) (j := 5) (by decide) dL_act_703 (fun M1 hR1 hk => ?_)
  refine m_aload C dL_act_704 3 rfl ?_
  refine m_bipush (v := 6) C dL_act_706 (by decide) ?_
  refine m_iload_n C dL_act_708 rfl 7 rfl ?_
  refine m_bipush (v := 9) C dL_act_709 (by decide) ?_
  refine m_ishr C dL_act_711 ?_
  refine m_iconst (v := 4) C dL_act_712 (by decide) ?_
  refine m_callSFi (As := [.int (x >>> (9 &&& 31)), .int 4]) (st := [.int 6, .ref an]) (v := nI (q_bl (x >>> (9 &&& 31)) 4)) C (c_L_below D A l (v := x >>> (9 &&& 31)) (N := 4) (by decide) (by decide)) (va_cwS 2 C.1.2.2.2.2 gL_act_L_below rfl rfl rfl (by decide +kernel) ⟨Nat.le_of_ble_eq_true rfl, Nat.le_of_ble_eq_true rfl⟩) rfl rfl (Nat.le_of_ble_eq_true rfl) dL_act_713 ⟨Nat.le_of_ble_eq_true rfl, Nat.le_of_ble_eq_true rfl⟩ ?_
  obtain ⟨t_2, lt_2, et_2⟩ : ∃ z, z < 4 ∧ q_bl (x >>> (9 &&& 31)) 4 = z := ⟨_, q_bl_lt (by decide), rfl⟩
  rw [et_2]
  refine m_if_ne (tgt := 723) C dL_act_716 (by decide) (fun h_3 => ?_) (fun h_3 => ?_)
  · refine m_iconst (v := 0) C dL_act_723 (by decide) ?_
    refine m_iastH C hR1 hk hn4 han (by unfold vp_in; decide) (j := 6) (by decide) dL_act_724 (fun M1 hR1 hk => ?_)
    refine m_aload_n C dL_act_725 rfl 9 rfl ?_
    refine m_iload C dL_act_726 4 rfl ?_
    refine m_aload C dL_act_728 3 rfl ?_
    refine m_iconst (v := 5) C dL_act_730 (by decide) ?_
    refine m_ialdN C (hR1.rowU hn4 han) (by unfold vp_in; decide) (j := 5) (v := nI t_1) (by decide) (rfl) dL_act_731 ?_
    refine m_aload C dL_act_732 3 rfl ?_
    refine m_bipush (v := 6) C dL_act_734 (by decide) ?_
    refine m_ialdN C (hR1.rowU hn4 han) (by unfold vp_in; decide) (j := 6) (v := 0) (by decide) (rfl) dL_act_736 ?_
    refine m_iconst (v := 1) C dL_act_737 (by decide) ?_
    refine m_icmp_ne (tgt := 745) C dL_act_738 (by decide) (fun h_4 => ?_) (fun h_4 => ?_)
    · refine m_iconst (v := 0) C dL_act_745 (by decide) ?_
      obtain ⟨F1, hI1, hRF1⟩ := hI.hand hRF hk hR1
      have hk0 : k_setOpacity cm ar (nI n) (nI t_1) = 0 := opa_0 hw hn lt_1
      obtain ⟨mf0, hme⟩ := hI1.me
      refine m_callVXiH (As := [.int (nI n), .int (nI t_1), .int 0]) (st := []) C hme rfl (c_X7_setOpacity D A l hst hI1 hw hb (h := false)) (cwV 3 C.1.2.2.2.2 gL_act_X7_setOpacity rfl rfl rfl (by decide +kernel) ⟨Nat.le_of_ble_eq_true rfl, Nat.le_of_ble_eq_true rfl⟩) rfl rfl (Nat.le_of_ble_eq_true rfl) dL_act_746 ⟨Nat.le_of_ble_eq_true rfl, Nat.le_of_ble_eq_true rfl⟩ (fun E M9 hx => ?_) (fun r M3 hp => ?_)
      · rcases hx.2 with ⟨h9, -⟩ | ⟨h9, -⟩ <;> exact absurd (hk0.symm.trans h9) (by decide)
      · obtain ⟨-, hr, hI3⟩ := hp
        rw [jN_at (show n < 2 ^ 31 by omega)] at hr
        subst hr
        have es : s_setOpacity ar (nI n) (nI t_1) false = upA (upA ar 11 (upd (ar 11) n (nI t_1))) 12 (upd (ar 12) n (bI false)) := by unfold s_setOpacity; rw [jN_at (show n < 2 ^ 31 by omega)]
        have hA' : AB (s_setOpacity ar (nI n) (nI t_1) false) cm := ⟨lP_setOpacity hP hk0, by rw [es]; exact PB_11 hB (n := n) ⟨t_1, by omega, rfl⟩ (Or.inl rfl) rfl rfl rfl⟩
        have hT' : hTT (s_setOpacity ar (nI n) (nI t_1) false) cm nr (upA B n (upd (upd (B n) 5 (nI t_1)) 6 0)) K := by
          rw [es]
          exact T_set (ar' := upA (upA ar 11 (upd (ar 11) n (nI t_1))) 12 (upd (ar 12) n (bI false))) (n := n) hT rfl (fun _ => rfl) (fun m hm => ⟨rfl, rfl, rfl, rfl, upd_n9 hm, rfl, rfl⟩) ⟨(hT.2.1 n hn).1, (hT.2.1 n hn).2.1, (hT.2.1 n hn).2.2.1, (hT.2.1 n hn).2.2.2.1, upd_s9.symm, (hT.2.1 n hn).2.2.2.2.2.1, (hT.2.1 n hn).2.2.2.2.2.2⟩
        have hE := act_end hI3 hRF1 hK.rf (hRF1.mono (fun a x h => hI3.F0 h)) hT' hA' hg rfl
        refine m_iload C dL_act_749 0 rfl ?_
        refine m_icmp_ne (tgt := 758) C dL_act_751 (by decide) (fun h_5 => ?_) (fun h_5 => ?_)
        · exact absurd rfl h_5
        · refine m_iconst (v := 1) C dL_act_754 (by decide) ?_
          refine m_goto (tgt := 759) C dL_act_755 (by decide) ?_
          exact m_zret C (Nat.le_of_ble_eq_true rfl) (Nat.le_of_ble_eq_true rfl) dL_act_759 (Or.inr rfl) ⟨rfl, hE⟩
    · exact absurd h_4 (by decide)
  · refine m_iconst (v := 1) C dL_act_719 (by decide) ?_
    refine m_goto (tgt := 724) C dL_act_720 (by decide) ?_
    refine m_iastH C hR1 hk hn4 han (by unfold vp_in; decide) (j := 6) (by decide) dL_act_724 (fun M1 hR1 hk => ?_)
    refine m_aload_n C dL_act_725 rfl 9 rfl ?_
    refine m_iload C dL_act_726 4 rfl ?_
    refine m_aload C dL_act_728 3 rfl ?_
    refine m_iconst (v := 5) C dL_act_730 (by decide) ?_
    refine m_ialdN C (hR1.rowU hn4 han) (by unfold vp_in; decide) (j := 5) (v := nI t_1) (by decide) (rfl) dL_act_731 ?_
    refine m_aload C dL_act_732 3 rfl ?_
    refine m_bipush (v := 6) C dL_act_734 (by decide) ?_
    refine m_ialdN C (hR1.rowU hn4 han) (by unfold vp_in; decide) (j := 6) (v := 1) (by decide) (rfl) dL_act_736 ?_
    refine m_iconst (v := 1) C dL_act_737 (by decide) ?_
    refine m_icmp_ne (tgt := 745) C dL_act_738 (by decide) (fun h_6 => ?_) (fun h_6 => ?_)
    · exact absurd h_6 (by decide)
    · refine m_iconst (v := 1) C dL_act_741 (by decide) ?_
      refine m_goto (tgt := 746) C dL_act_742 (by decide) ?_
      obtain ⟨F1, hI1, hRF1⟩ := hI.hand hRF hk hR1
      have hk0 : k_setOpacity cm ar (nI n) (nI t_1) = 0 := opa_0 hw hn lt_1
      obtain ⟨mf0, hme⟩ := hI1.me
      refine m_callVXiH (As := [.int (nI n), .int (nI t_1), .int 1]) (st := []) C hme rfl (c_X7_setOpacity D A l hst hI1 hw hb (h := true)) (cwV 3 C.1.2.2.2.2 gL_act_X7_setOpacity rfl rfl rfl (by decide +kernel) ⟨Nat.le_of_ble_eq_true rfl, Nat.le_of_ble_eq_true rfl⟩) rfl rfl (Nat.le_of_ble_eq_true rfl) dL_act_746 ⟨Nat.le_of_ble_eq_true rfl, Nat.le_of_ble_eq_true rfl⟩ (fun E M9 hx => ?_) (fun r M3 hp => ?_)
      · rcases hx.2 with ⟨h9, -⟩ | ⟨h9, -⟩ <;> exact absurd (hk0.symm.trans h9) (by decide)
      · obtain ⟨-, hr, hI3⟩ := hp
        rw [jN_at (show n < 2 ^ 31 by omega)] at hr
        subst hr
        have es : s_setOpacity ar (nI n) (nI t_1) true = upA (upA ar 11 (upd (ar 11) n (nI t_1))) 12 (upd (ar 12) n (bI true)) := by unfold s_setOpacity; rw [jN_at (show n < 2 ^ 31 by omega)]
        have hA' : AB (s_setOpacity ar (nI n) (nI t_1) true) cm := ⟨lP_setOpacity hP hk0, by rw [es]; exact PB_11 hB (n := n) ⟨t_1, by omega, rfl⟩ (Or.inr rfl) rfl rfl rfl⟩
        have hT' : hTT (s_setOpacity ar (nI n) (nI t_1) true) cm nr (upA B n (upd (upd (B n) 5 (nI t_1)) 6 1)) K := by
          rw [es]
          exact T_set (ar' := upA (upA ar 11 (upd (ar 11) n (nI t_1))) 12 (upd (ar 12) n (bI true))) (n := n) hT rfl (fun _ => rfl) (fun m hm => ⟨rfl, rfl, rfl, rfl, upd_n9 hm, rfl, rfl⟩) ⟨(hT.2.1 n hn).1, (hT.2.1 n hn).2.1, (hT.2.1 n hn).2.2.1, (hT.2.1 n hn).2.2.2.1, upd_s9.symm, (hT.2.1 n hn).2.2.2.2.2.1, (hT.2.1 n hn).2.2.2.2.2.2⟩
        have hE := act_end hI3 hRF1 hK.rf (hRF1.mono (fun a x h => hI3.F0 h)) hT' hA' hg rfl
        refine m_iload C dL_act_749 0 rfl ?_
        refine m_icmp_ne (tgt := 758) C dL_act_751 (by decide) (fun h_7 => ?_) (fun h_7 => ?_)
        · exact absurd rfl h_7
        · refine m_iconst (v := 1) C dL_act_754 (by decide) ?_
          refine m_goto (tgt := 759) C dL_act_755 (by decide) ?_
          exact m_zret C (Nat.le_of_ble_eq_true rfl) (Nat.le_of_ble_eq_true rfl) dL_act_759 (Or.inr rfl) ⟨rfl, hE⟩
set_option maxHeartbeats 4000000 in
set_option maxRecDepth 100000 in
theorem act_10 {p : Program} {l : Launch} {e : Env} {s : State} {m : MethodId} {args : Array Value} {below : List Frame} {meth : Method} {c : Code} {D : mD} {A : Nat → Prop} {Z : Nat → Nat} {o cm : Nat} {g : Int32} {ar : rA} {F M : Mm} {qn qc qp : Nat} {nr cr : Nat → Option Nat} {B : Nat → Nat → Int32} {K : Nat → List Nat} (hst : l.stackTraces = false) (hI : cI D Z F cm g ar M) (hRF : hW D o qn qc qp nr cr cm g B K F) (hT : hTT ar cm nr B K) (hP : lP cm ar) (hB : PB ar) (hg : ∃ b, b ≤ 255 ∧ g = nI b) {u n an a0 b0 : Nat} {x w : Int32} (hu : cP ar cm u) (hu0 : ar 3 u = 0) (hn : cP ar cm n) (han : nr n = some an) (ha0 : a0 < 70) (hb0 : b0 < 55) (C : mC p m meth c cL_act 21 s args wsL_act yL_act.cls D A yL_act (some .boolean)) (i8 : ∀ w ∈ wsX80, w ∈ wsL_act) : mV p l e ({ frames := 45, cells := 110, slots := 3200, locals := 1750 } : Room) s m args below meth c 21 D A (MQ below (va_Qi (fun r M' => r = 1 ∧ hAA D (Z 0) o M') (mB D A) A) args s 110 3200 A) M 0 0 [(8, .int (nI b0 - 5)), (7, .int (nI a0 - 5)), (6, .ref an), (5, .int (nI n)), (4, .int (nI u)), (3, .int w), (2, .int x), (1, .ref o), (0, .ref (Z 0))] [] 760 := by
  have hw : wf ar cm := hP.1
  have hb : BD ar cm := hP.2.1
  have hR : hW D o qn qc qp nr cr cm g B K M := hRF.mono (fun a x h => hI.F0 h)
  have hu4 := cP_40 hw hu
  have hn4 := cP_40 hw hn
  have hEnd : hAA D (Z 0) o M := ⟨Z, cm, g, ar, rfl, ⟨F, qn, qc, qp, nr, cr, B, K, hI, hRF, hT⟩, ⟨hP, hB⟩, hg⟩
  have hk := hK.rf (o := o) (qn := qn) (qc := qc) (nr := nr) (cr := cr) (M := M)
  have hR0 := hR
  rw [← upA_self B n] at hR0
  refine m_aload C dL_act_760 2 rfl ?_
  refine m_bipush (v := 10) C dL_act_762 (by decide) ?_
  refine m_ialdN C (hR0.rowU hn4 han) (by unfold vp_in; decide) (j := 10) (v := ar 14 (4 * n + 2)) (by decide) ((hT.2.1 n hn).2.2.2.2.2.2) dL_act_764 ?_
  refine m_if_le (tgt := 772) C dL_act_765 (by decide) (fun h_1 => ?_) (fun h_1 => ?_)
  · have hh := h_1
    refine m_iconst (v := 0) C dL_act_772 (by decide) ?_
    refine m_istore (L' := [(17, .int 0), (8, .int (nI b0 - 5)), (7, .int (nI a0 - 5)), (6, .ref an), (5, .int (nI n)), (4, .int (nI u)), (3, .int w), (2, .int x), (1, .ref o), (0, .ref (Z 0))]) C dL_act_773 (by decide) rfl ?_
    refine m_iconst (v := 4) C dL_act_775 (by decide) ?_
    refine m_newI C (by decide +kernel) (N := 4) rfl (by decide) (Nat.le_of_ble_eq_true rfl) (Nat.le_of_ble_eq_true rfl) dL_act_776 (fun sq hq0 => ?_)
    have hq : m_up M sq (jI D 4 (fun _ => 0)) sq = some (jI D 4 (fun _ => 0)) := m_up_s
    have hX : mS M (m_up M sq (jI D 4 (fun _ => 0))) := mS.rf.new hq0
    revert hq hX
    generalize m_up M sq (jI D 4 (fun _ => 0)) = M2
    intro hq hX
    refine m_dup C dL_act_778 rfl ?_
    refine m_iconst (v := 0) C dL_act_779 (by decide) ?_
    refine m_iload C dL_act_780 2 rfl ?_
    refine m_iconst (v := 5) C dL_act_782 (by decide) ?_
    refine m_isub C dL_act_783 ?_
    refine m_iastR C hq (by unfold vp_in; decide) (j := 0) (by decide) dL_act_784 (fun M2 hq hX9 => ?_)
    have hX := hX9 _ hX hq0
    refine m_dup C dL_act_785 rfl ?_
    refine m_iconst (v := 1) C dL_act_786 (by decide) ?_
    refine m_iload C dL_act_787 1 rfl ?_
    refine m_iconst (v := 5) C dL_act_789 (by decide) ?_
    refine m_isub C dL_act_790 ?_
    refine m_iastR C hq (by unfold vp_in; decide) (j := 1) (by decide) dL_act_791 (fun M2 hq hX9 => ?_)
    have hX := hX9 _ hX hq0
    refine m_dup C dL_act_792 rfl ?_
    refine m_iconst (v := 2) C dL_act_793 (by decide) ?_
    refine m_iload_n C dL_act_794 rfl 7 rfl ?_
    refine m_bipush (v := 8) C dL_act_795 (by decide) ?_
    refine m_ishr C dL_act_797 ?_
    refine m_iconst (v := 5) C dL_act_798 (by decide) ?_
    refine m_callSFi (As := [.int (x >>> (8 &&& 31)), .int 5]) (st := [.int 2, .ref sq, .ref sq]) (v := nI (q_bl (x >>> (8 &&& 31)) 5)) C (c_L_below D A l (v := x >>> (8 &&& 31)) (N := 5) (by decide) (by decide)) (va_cwS 2 C.1.2.2.2.2 gL_act_L_below rfl rfl rfl (by decide +kernel) ⟨Nat.le_of_ble_eq_true rfl, Nat.le_of_ble_eq_true rfl⟩) rfl rfl (Nat.le_of_ble_eq_true rfl) dL_act_799 ⟨Nat.le_of_ble_eq_true rfl, Nat.le_of_ble_eq_true rfl⟩ ?_
    obtain ⟨t_2, lt_2, et_2⟩ : ∃ z, z < 5 ∧ q_bl (x >>> (8 &&& 31)) 5 = z := ⟨_, q_bl_lt (by decide), rfl⟩
    rw [et_2]
    refine m_if_ne (tgt := 809) C dL_act_802 (by decide) (fun h_3 => ?_) (fun h_3 => ?_)
    · refine m_iconst (v := 1) C dL_act_809 (by decide) ?_
      refine m_iload_n C dL_act_810 rfl 7 rfl ?_
      refine m_bipush (v := 9) C dL_act_811 (by decide) ?_
      refine m_ishr C dL_act_813 ?_
      refine m_bipush (v := 60) C dL_act_814 (by decide) ?_
      refine m_callSFi (As := [.int (x >>> (9 &&& 31)), .int 60]) (st := [.int 1, .int 2, .ref sq, .ref sq]) (v := nI (q_bl (x >>> (9 &&& 31)) 60)) C (c_L_below D A l (v := x >>> (9 &&& 31)) (N := 60) (by decide) (by decide)) (va_cwS 2 C.1.2.2.2.2 gL_act_L_below rfl rfl rfl (by decide +kernel) ⟨Nat.le_of_ble_eq_true rfl, Nat.le_of_ble_eq_true rfl⟩) rfl rfl (Nat.le_of_ble_eq_true rfl) dL_act_816 ⟨Nat.le_of_ble_eq_true rfl, Nat.le_of_ble_eq_true rfl⟩ ?_
      obtain ⟨t_4, lt_4, et_4⟩ : ∃ z, z < 60 ∧ q_bl (x >>> (9 &&& 31)) 60 = z := ⟨_, q_bl_lt (by decide), rfl⟩
      rw [et_4]
      refine m_iadd C dL_act_819 ?_
      refine m_iastR C hq (by unfold vp_in; decide) (j := 2) (by decide) dL_act_820 (fun M2 hq hX9 => ?_)
      have hX := hX9 _ hX hq0
      refine m_dup C dL_act_821 rfl ?_
      refine m_iconst (v := 3) C dL_act_822 (by decide) ?_
      refine m_iload_n C dL_act_823 rfl 7 rfl ?_
      refine m_bipush (v := 7) C dL_act_824 (by decide) ?_
      refine m_ishr C dL_act_826 ?_
      refine m_bipush (v := 50) C dL_act_827 (by decide) ?_
      refine m_callSFi (As := [.int (x >>> (7 &&& 31)), .int 50]) (st := [.int 3, .ref sq, .ref sq]) (v := nI (q_bl (x >>> (7 &&& 31)) 50)) C (c_L_below D A l (v := x >>> (7 &&& 31)) (N := 50) (by decide) (by decide)) (va_cwS 2 C.1.2.2.2.2 gL_act_L_below rfl rfl rfl (by decide +kernel) ⟨Nat.le_of_ble_eq_true rfl, Nat.le_of_ble_eq_true rfl⟩) rfl rfl (Nat.le_of_ble_eq_true rfl) dL_act_829 ⟨Nat.le_of_ble_eq_true rfl, Nat.le_of_ble_eq_true rfl⟩ ?_
      obtain ⟨t_5, lt_5, et_5⟩ : ∃ z, z < 50 ∧ q_bl (x >>> (7 &&& 31)) 50 = z := ⟨_, q_bl_lt (by decide), rfl⟩
      rw [et_5]
      refine m_iastR C hq (by unfold vp_in; decide) (j := 3) (by decide) dL_act_832 (fun M2 hq hX9 => ?_)
      have hX := hX9 _ hX hq0
      refine m_astore (L' := [(18, .ref sq), (17, .int 0), (8, .int (nI b0 - 5)), (7, .int (nI a0 - 5)), (6, .ref an), (5, .int (nI n)), (4, .int (nI u)), (3, .int w), (2, .int x), (1, .ref o), (0, .ref (Z 0))]) C dL_act_833 (by decide) rfl ?_
      refine m_iconst (v := 0) C dL_act_835 (by decide) ?_
      refine m_istore (L' := [(19, .int 0), (18, .ref sq), (17, .int 0), (8, .int (nI b0 - 5)), (7, .int (nI a0 - 5)), (6, .ref an), (5, .int (nI n)), (4, .int (nI u)), (3, .int w), (2, .int x), (1, .ref o), (0, .ref (Z 0))]) C dL_act_836 (by decide) rfl ?_
      refine m_iload C dL_act_838 0 rfl ?_
      refine m_iconst (v := 4) C dL_act_840 (by decide) ?_
      have hR1 := hR0.mono hX
      have hk := hk.tr (hK.sub hX)
      refine m_icmp_ge (tgt := 863) C dL_act_841 (by decide) (fun h_6 => absurd h_6 (by decide)) (fun h_6 => ?_)
      refine m_aload C dL_act_844 5 rfl ?_
      refine m_bipush (v := 8) C dL_act_846 (by decide) ?_
      refine m_iload C dL_act_848 0 rfl ?_
      refine m_iadd C dL_act_850 ?_
      refine m_i (y := 8) (by decide) ?_
      refine m_aload C dL_act_851 1 rfl ?_
      refine m_iload C dL_act_853 0 rfl ?_
      refine m_ialdN C (hq) (by unfold vp_in; decide) (j := 0) (v := (nI a0 - 5) - 5) (by decide) rfl dL_act_855 ?_
      refine m_iastHq C hR1 hk hn4 han hq ?_ (by unfold vp_in; decide) (j := 8) (by decide) dL_act_856 (fun M1 hR1 hk hq => ?_)
      · intro z; rw [← z, hR.nrow hn4 han] at hq0; cases hq0
      refine m_iinc (q := 0) (v := 1) (L' := [(19, .int 1), (18, .ref sq), (17, .int 0), (8, .int (nI b0 - 5)), (7, .int (nI a0 - 5)), (6, .ref an), (5, .int (nI n)), (4, .int (nI u)), (3, .int w), (2, .int x), (1, .ref o), (0, .ref (Z 0))]) C dL_act_857 rfl (by decide) (by decide) rfl ?_
      refine m_goto (tgt := 838) C dL_act_860 (by decide) ?_
      refine m_iload C dL_act_838 0 rfl ?_
      refine m_iconst (v := 4) C dL_act_840 (by decide) ?_
      refine m_icmp_ge (tgt := 863) C dL_act_841 (by decide) (fun h_7 => absurd h_7 (by decide)) (fun h_7 => ?_)
      refine m_aload C dL_act_844 5 rfl ?_
      refine m_bipush (v := 8) C dL_act_846 (by decide) ?_
      refine m_iload C dL_act_848 0 rfl ?_
      refine m_iadd C dL_act_850 ?_
      refine m_i (y := 9) (by decide) ?_
      refine m_aload C dL_act_851 1 rfl ?_
      refine m_iload C dL_act_853 0 rfl ?_
      refine m_ialdN C (hq) (by unfold vp_in; decide) (j := 1) (v := (nI b0 - 5) - 5) (by decide) rfl dL_act_855 ?_
      refine m_iastHq C hR1 hk hn4 han hq ?_ (by unfold vp_in; decide) (j := 9) (by decide) dL_act_856 (fun M1 hR1 hk hq => ?_)
      · intro z; rw [← z, hR.nrow hn4 han] at hq0; cases hq0
      refine m_iinc (q := 0) (v := 2) (L' := [(19, .int 2), (18, .ref sq), (17, .int 0), (8, .int (nI b0 - 5)), (7, .int (nI a0 - 5)), (6, .ref an), (5, .int (nI n)), (4, .int (nI u)), (3, .int w), (2, .int x), (1, .ref o), (0, .ref (Z 0))]) C dL_act_857 rfl (by decide) (by decide) rfl ?_
      refine m_goto (tgt := 838) C dL_act_860 (by decide) ?_
      refine m_iload C dL_act_838 0 rfl ?_
      refine m_iconst (v := 4) C dL_act_840 (by decide) ?_
      refine m_icmp_ge (tgt := 863) C dL_act_841 (by decide) (fun h_8 => absurd h_8 (by decide)) (fun h_8 => ?_)
      refine m_aload C dL_act_844 5 rfl ?_
      refine m_bipush (v := 8) C dL_act_846 (by decide) ?_
      refine m_iload C dL_act_848 0 rfl ?_
      refine m_iadd C dL_act_850 ?_
      refine m_i (y := 10) (by decide) ?_
      refine m_aload C dL_act_851 1 rfl ?_
      refine m_iload C dL_act_853 0 rfl ?_
      refine m_ialdN C (hq) (by unfold vp_in; decide) (j := 2) (v := 1 + (nI t_4)) (by decide) rfl dL_act_855 ?_
      refine m_iastHq C hR1 hk hn4 han hq ?_ (by unfold vp_in; decide) (j := 10) (by decide) dL_act_856 (fun M1 hR1 hk hq => ?_)
      · intro z; rw [← z, hR.nrow hn4 han] at hq0; cases hq0
      refine m_iinc (q := 0) (v := 3) (L' := [(19, .int 3), (18, .ref sq), (17, .int 0), (8, .int (nI b0 - 5)), (7, .int (nI a0 - 5)), (6, .ref an), (5, .int (nI n)), (4, .int (nI u)), (3, .int w), (2, .int x), (1, .ref o), (0, .ref (Z 0))]) C dL_act_857 rfl (by decide) (by decide) rfl ?_
      refine m_goto (tgt := 838) C dL_act_860 (by decide) ?_
      refine m_iload C dL_act_838 0 rfl ?_
      refine m_iconst (v := 4) C dL_act_840 (by decide) ?_
      refine m_icmp_ge (tgt := 863) C dL_act_841 (by decide) (fun h_9 => absurd h_9 (by decide)) (fun h_9 => ?_)
      refine m_aload C dL_act_844 5 rfl ?_
      refine m_bipush (v := 8) C dL_act_846 (by decide) ?_
      refine m_iload C dL_act_848 0 rfl ?_
      refine m_iadd C dL_act_850 ?_
      refine m_i (y := 11) (by decide) ?_
      refine m_aload C dL_act_851 1 rfl ?_
      refine m_iload C dL_act_853 0 rfl ?_
      refine m_ialdN C (hq) (by unfold vp_in; decide) (j := 3) (v := nI t_5) (by decide) rfl dL_act_855 ?_
      refine m_iastHq C hR1 hk hn4 han hq ?_ (by unfold vp_in; decide) (j := 11) (by decide) dL_act_856 (fun M1 hR1 hk hq => ?_)
      · intro z; rw [← z, hR.nrow hn4 han] at hq0; cases hq0
      refine m_iinc (q := 0) (v := 4) (L' := [(19, .int 4), (18, .ref sq), (17, .int 0), (8, .int (nI b0 - 5)), (7, .int (nI a0 - 5)), (6, .ref an), (5, .int (nI n)), (4, .int (nI u)), (3, .int w), (2, .int x), (1, .ref o), (0, .ref (Z 0))]) C dL_act_857 rfl (by decide) (by decide) rfl ?_
      refine m_goto (tgt := 838) C dL_act_860 (by decide) ?_
      refine m_iload C dL_act_838 0 rfl ?_
      refine m_iconst (v := 4) C dL_act_840 (by decide) ?_
      refine m_icmp_ge (tgt := 863) C dL_act_841 (by decide) (fun h_10 => ?_) (fun h_10 => absurd (by decide) h_10)
      refine m_aload_n C dL_act_863 rfl 11 rfl ?_
      refine m_iload C dL_act_864 6 rfl ?_
      refine m_aload C dL_act_866 1 rfl ?_
      refine m_iconst (v := 0) C dL_act_868 (by decide) ?_
      refine m_ialdN C (hq) (by unfold vp_in; decide) (j := 0) (v := (nI a0 - 5) - 5) (by decide) rfl dL_act_869 ?_
      refine m_aload C dL_act_870 1 rfl ?_
      refine m_iconst (v := 1) C dL_act_872 (by decide) ?_
      refine m_ialdN C (hq) (by unfold vp_in; decide) (j := 1) (v := (nI b0 - 5) - 5) (by decide) rfl dL_act_873 ?_
      refine m_aload C dL_act_874 1 rfl ?_
      refine m_iconst (v := 2) C dL_act_876 (by decide) ?_
      refine m_ialdN C (hq) (by unfold vp_in; decide) (j := 2) (v := 1 + (nI t_4)) (by decide) rfl dL_act_877 ?_
      refine m_aload C dL_act_878 1 rfl ?_
      refine m_iconst (v := 3) C dL_act_880 (by decide) ?_
      refine m_ialdN C (hq) (by unfold vp_in; decide) (j := 3) (v := nI t_5) (by decide) rfl dL_act_881 ?_
      obtain ⟨F1, hI1, hRF1⟩ := hI.hand hRF hk hR1
      have hk0 : k_setClip cm ar (nI n) ((nI a0 - 5) - 5) ((nI b0 - 5) - 5) (1 + (nI t_4)) (nI t_5) = 0 := clip_0 hw hn ha0 hb0 lt_5 (⟨1 + t_4, by omega, nI_add 1 t_4⟩)
      obtain ⟨mf0, hme⟩ := hI1.me
      refine m_callVXiH (As := [.int (nI n), .int ((nI a0 - 5) - 5), .int ((nI b0 - 5) - 5), .int (1 + (nI t_4)), .int (nI t_5)]) (st := []) C hme rfl (c_X7_setClip D A l hst hI1 hw hb) (cwV 5 C.1.2.2.2.2 gL_act_X7_setClip rfl rfl rfl (by decide +kernel) ⟨Nat.le_of_ble_eq_true rfl, Nat.le_of_ble_eq_true rfl⟩) rfl rfl (Nat.le_of_ble_eq_true rfl) dL_act_882 ⟨Nat.le_of_ble_eq_true rfl, Nat.le_of_ble_eq_true rfl⟩ (fun E M9 hx => ?_) (fun r M3 hp => ?_)
      · rcases hx.2 with ⟨h9, -⟩ | ⟨h9, -⟩ <;> exact absurd (hk0.symm.trans h9) (by decide)
      · obtain ⟨-, hr, Z', F', hX0, hZ, hI3⟩ := hp
        rw [jN_at (show n < 2 ^ 31 by omega)] at hr
        rw [if_neg (Int32.not_lt.mpr hh)] at hr
        subst hr
        have es : s_setClip ar (nI n) ((nI a0 - 5) - 5) ((nI b0 - 5) - 5) (1 + (nI t_4)) (nI t_5) = clpA ar n ((nI a0 - 5) - 5) ((nI b0 - 5) - 5) (1 + (nI t_4)) (nI t_5) := by unfold s_setClip clpA; rw [jN_at (show n < 2 ^ 31 by omega)]
        have hA' : AB (s_setClip ar (nI n) ((nI a0 - 5) - 5) ((nI b0 - 5) - 5) (1 + (nI t_4)) (nI t_5)) cm := ⟨lP_setClip hP hk0, PB_same hB rfl rfl rfl⟩
        have hT' : hTT (s_setClip ar (nI n) ((nI a0 - 5) - 5) ((nI b0 - 5) - 5) (1 + (nI t_4)) (nI t_5)) cm nr (upA B n (upd (upd (upd (upd (B n) 8 ((nI a0 - 5) - 5)) 9 ((nI b0 - 5) - 5)) 10 (1 + (nI t_4))) 11 (nI t_5))) K := by
          rw [es]
          exact T_set (ar' := clpA ar n ((nI a0 - 5) - 5) ((nI b0 - 5) - 5) (1 + (nI t_4)) (nI t_5)) (n := n) hT rfl (fun _ => rfl) (fun m hm => ⟨rfl, rfl, rfl, rfl, rfl, rfl, clp_o hm (by decide)⟩) ⟨(hT.2.1 n hn).1, (hT.2.1 n hn).2.1, (hT.2.1 n hn).2.2.1, (hT.2.1 n hn).2.2.2.1, (hT.2.1 n hn).2.2.2.2.1, (hT.2.1 n hn).2.2.2.2.2.1, clp_at.2.2.1.symm⟩
        have hRF3 := hRF1.mono hX0
        have hE := act_end hI3 hRF3 hK.rf (hRF3.mono (fun a x h => hI3.F0 h)) hT' hA' hg hZ
        refine m_iload C dL_act_885 2 rfl ?_
        refine m_icmp_ne (tgt := 894) C dL_act_887 (by decide) (fun h_11 => ?_) (fun h_11 => ?_)
        · exact absurd h_11 (by decide)
        · refine m_iconst (v := 1) C dL_act_890 (by decide) ?_
          refine m_goto (tgt := 895) C dL_act_891 (by decide) ?_
          exact m_zret C (Nat.le_of_ble_eq_true rfl) (Nat.le_of_ble_eq_true rfl) dL_act_895 (Or.inr rfl) ⟨rfl, hE⟩
    · refine m_iconst (v := 0) C dL_act_805 (by decide) ?_
      refine m_goto (tgt := 820) C dL_act_806 (by decide) ?_
      refine m_iastR C hq (by unfold vp_in; decide) (j := 2) (by decide) dL_act_820 (fun M2 hq hX9 => ?_)
      have hX := hX9 _ hX hq0
      refine m_dup C dL_act_821 rfl ?_
      refine m_iconst (v := 3) C dL_act_822 (by decide) ?_
      refine m_iload_n C dL_act_823 rfl 7 rfl ?_
      refine m_bipush (v := 7) C dL_act_824 (by decide) ?_
      refine m_ishr C dL_act_826 ?_
      refine m_bipush (v := 50) C dL_act_827 (by decide) ?_
      refine m_callSFi (As := [.int (x >>> (7 &&& 31)), .int 50]) (st := [.int 3, .ref sq, .ref sq]) (v := nI (q_bl (x >>> (7 &&& 31)) 50)) C (c_L_below D A l (v := x >>> (7 &&& 31)) (N := 50) (by decide) (by decide)) (va_cwS 2 C.1.2.2.2.2 gL_act_L_below rfl rfl rfl (by decide +kernel) ⟨Nat.le_of_ble_eq_true rfl, Nat.le_of_ble_eq_true rfl⟩) rfl rfl (Nat.le_of_ble_eq_true rfl) dL_act_829 ⟨Nat.le_of_ble_eq_true rfl, Nat.le_of_ble_eq_true rfl⟩ ?_
      obtain ⟨t_12, lt_12, et_12⟩ : ∃ z, z < 50 ∧ q_bl (x >>> (7 &&& 31)) 50 = z := ⟨_, q_bl_lt (by decide), rfl⟩
      rw [et_12]
      refine m_iastR C hq (by unfold vp_in; decide) (j := 3) (by decide) dL_act_832 (fun M2 hq hX9 => ?_)
      have hX := hX9 _ hX hq0
      refine m_astore (L' := [(18, .ref sq), (17, .int 0), (8, .int (nI b0 - 5)), (7, .int (nI a0 - 5)), (6, .ref an), (5, .int (nI n)), (4, .int (nI u)), (3, .int w), (2, .int x), (1, .ref o), (0, .ref (Z 0))]) C dL_act_833 (by decide) rfl ?_
      refine m_iconst (v := 0) C dL_act_835 (by decide) ?_
      refine m_istore (L' := [(19, .int 0), (18, .ref sq), (17, .int 0), (8, .int (nI b0 - 5)), (7, .int (nI a0 - 5)), (6, .ref an), (5, .int (nI n)), (4, .int (nI u)), (3, .int w), (2, .int x), (1, .ref o), (0, .ref (Z 0))]) C dL_act_836 (by decide) rfl ?_
      refine m_iload C dL_act_838 0 rfl ?_
      refine m_iconst (v := 4) C dL_act_840 (by decide) ?_
      have hR1 := hR0.mono hX
      have hk := hk.tr (hK.sub hX)
      refine m_icmp_ge (tgt := 863) C dL_act_841 (by decide) (fun h_13 => absurd h_13 (by decide)) (fun h_13 => ?_)
      refine m_aload C dL_act_844 5 rfl ?_
      refine m_bipush (v := 8) C dL_act_846 (by decide) ?_
      refine m_iload C dL_act_848 0 rfl ?_
      refine m_iadd C dL_act_850 ?_
      refine m_i (y := 8) (by decide) ?_
      refine m_aload C dL_act_851 1 rfl ?_
      refine m_iload C dL_act_853 0 rfl ?_
      refine m_ialdN C (hq) (by unfold vp_in; decide) (j := 0) (v := (nI a0 - 5) - 5) (by decide) rfl dL_act_855 ?_
      refine m_iastHq C hR1 hk hn4 han hq ?_ (by unfold vp_in; decide) (j := 8) (by decide) dL_act_856 (fun M1 hR1 hk hq => ?_)
      · intro z; rw [← z, hR.nrow hn4 han] at hq0; cases hq0
      refine m_iinc (q := 0) (v := 1) (L' := [(19, .int 1), (18, .ref sq), (17, .int 0), (8, .int (nI b0 - 5)), (7, .int (nI a0 - 5)), (6, .ref an), (5, .int (nI n)), (4, .int (nI u)), (3, .int w), (2, .int x), (1, .ref o), (0, .ref (Z 0))]) C dL_act_857 rfl (by decide) (by decide) rfl ?_
      refine m_goto (tgt := 838) C dL_act_860 (by decide) ?_
      refine m_iload C dL_act_838 0 rfl ?_
      refine m_iconst (v := 4) C dL_act_840 (by decide) ?_
      refine m_icmp_ge (tgt := 863) C dL_act_841 (by decide) (fun h_14 => absurd h_14 (by decide)) (fun h_14 => ?_)
      refine m_aload C dL_act_844 5 rfl ?_
      refine m_bipush (v := 8) C dL_act_846 (by decide) ?_
      refine m_iload C dL_act_848 0 rfl ?_
      refine m_iadd C dL_act_850 ?_
      refine m_i (y := 9) (by decide) ?_
      refine m_aload C dL_act_851 1 rfl ?_
      refine m_iload C dL_act_853 0 rfl ?_
      refine m_ialdN C (hq) (by unfold vp_in; decide) (j := 1) (v := (nI b0 - 5) - 5) (by decide) rfl dL_act_855 ?_
      refine m_iastHq C hR1 hk hn4 han hq ?_ (by unfold vp_in; decide) (j := 9) (by decide) dL_act_856 (fun M1 hR1 hk hq => ?_)
      · intro z; rw [← z, hR.nrow hn4 han] at hq0; cases hq0
      refine m_iinc (q := 0) (v := 2) (L' := [(19, .int 2), (18, .ref sq), (17, .int 0), (8, .int (nI b0 - 5)), (7, .int (nI a0 - 5)), (6, .ref an), (5, .int (nI n)), (4, .int (nI u)), (3, .int w), (2, .int x), (1, .ref o), (0, .ref (Z 0))]) C dL_act_857 rfl (by decide) (by decide) rfl ?_
      refine m_goto (tgt := 838) C dL_act_860 (by decide) ?_
      refine m_iload C dL_act_838 0 rfl ?_
      refine m_iconst (v := 4) C dL_act_840 (by decide) ?_
      refine m_icmp_ge (tgt := 863) C dL_act_841 (by decide) (fun h_15 => absurd h_15 (by decide)) (fun h_15 => ?_)
      refine m_aload C dL_act_844 5 rfl ?_
      refine m_bipush (v := 8) C dL_act_846 (by decide) ?_
      refine m_iload C dL_act_848 0 rfl ?_
      refine m_iadd C dL_act_850 ?_
      refine m_i (y := 10) (by decide) ?_
      refine m_aload C dL_act_851 1 rfl ?_
      refine m_iload C dL_act_853 0 rfl ?_
      refine m_ialdN C (hq) (by unfold vp_in; decide) (j := 2) (v := 0) (by decide) rfl dL_act_855 ?_
      refine m_iastHq C hR1 hk hn4 han hq ?_ (by unfold vp_in; decide) (j := 10) (by decide) dL_act_856 (fun M1 hR1 hk hq => ?_)
      · intro z; rw [← z, hR.nrow hn4 han] at hq0; cases hq0
      refine m_iinc (q := 0) (v := 3) (L' := [(19, .int 3), (18, .ref sq), (17, .int 0), (8, .int (nI b0 - 5)), (7, .int (nI a0 - 5)), (6, .ref an), (5, .int (nI n)), (4, .int (nI u)), (3, .int w), (2, .int x), (1, .ref o), (0, .ref (Z 0))]) C dL_act_857 rfl (by decide) (by decide) rfl ?_
      refine m_goto (tgt := 838) C dL_act_860 (by decide) ?_
      refine m_iload C dL_act_838 0 rfl ?_
      refine m_iconst (v := 4) C dL_act_840 (by decide) ?_
      refine m_icmp_ge (tgt := 863) C dL_act_841 (by decide) (fun h_16 => absurd h_16 (by decide)) (fun h_16 => ?_)
      refine m_aload C dL_act_844 5 rfl ?_
      refine m_bipush (v := 8) C dL_act_846 (by decide) ?_
      refine m_iload C dL_act_848 0 rfl ?_
      refine m_iadd C dL_act_850 ?_
      refine m_i (y := 11) (by decide) ?_
      refine m_aload C dL_act_851 1 rfl ?_
      refine m_iload C dL_act_853 0 rfl ?_
      refine m_ialdN C (hq) (by unfold vp_in; decide) (j := 3) (v := nI t_12) (by decide) rfl dL_act_855 ?_
      refine m_iastHq C hR1 hk hn4 han hq ?_ (by unfold vp_in; decide) (j := 11) (by decide) dL_act_856 (fun M1 hR1 hk hq => ?_)
      · intro z; rw [← z, hR.nrow hn4 han] at hq0; cases hq0
      refine m_iinc (q := 0) (v := 4) (L' := [(19, .int 4), (18, .ref sq), (17, .int 0), (8, .int (nI b0 - 5)), (7, .int (nI a0 - 5)), (6, .ref an), (5, .int (nI n)), (4, .int (nI u)), (3, .int w), (2, .int x), (1, .ref o), (0, .ref (Z 0))]) C dL_act_857 rfl (by decide) (by decide) rfl ?_
      refine m_goto (tgt := 838) C dL_act_860 (by decide) ?_
      refine m_iload C dL_act_838 0 rfl ?_
      refine m_iconst (v := 4) C dL_act_840 (by decide) ?_
      refine m_icmp_ge (tgt := 863) C dL_act_841 (by decide) (fun h_17 => ?_) (fun h_17 => absurd (by decide) h_17)
      refine m_aload_n C dL_act_863 rfl 11 rfl ?_
      refine m_iload C dL_act_864 6 rfl ?_
      refine m_aload C dL_act_866 1 rfl ?_
      refine m_iconst (v := 0) C dL_act_868 (by decide) ?_
      refine m_ialdN C (hq) (by unfold vp_in; decide) (j := 0) (v := (nI a0 - 5) - 5) (by decide) rfl dL_act_869 ?_
      refine m_aload C dL_act_870 1 rfl ?_
      refine m_iconst (v := 1) C dL_act_872 (by decide) ?_
      refine m_ialdN C (hq) (by unfold vp_in; decide) (j := 1) (v := (nI b0 - 5) - 5) (by decide) rfl dL_act_873 ?_
      refine m_aload C dL_act_874 1 rfl ?_
      refine m_iconst (v := 2) C dL_act_876 (by decide) ?_
      refine m_ialdN C (hq) (by unfold vp_in; decide) (j := 2) (v := 0) (by decide) rfl dL_act_877 ?_
      refine m_aload C dL_act_878 1 rfl ?_
      refine m_iconst (v := 3) C dL_act_880 (by decide) ?_
      refine m_ialdN C (hq) (by unfold vp_in; decide) (j := 3) (v := nI t_12) (by decide) rfl dL_act_881 ?_
      obtain ⟨F1, hI1, hRF1⟩ := hI.hand hRF hk hR1
      have hk0 : k_setClip cm ar (nI n) ((nI a0 - 5) - 5) ((nI b0 - 5) - 5) 0 (nI t_12) = 0 := clip_0 hw hn ha0 hb0 lt_12 (⟨0, by omega, rfl⟩)
      obtain ⟨mf0, hme⟩ := hI1.me
      refine m_callVXiH (As := [.int (nI n), .int ((nI a0 - 5) - 5), .int ((nI b0 - 5) - 5), .int 0, .int (nI t_12)]) (st := []) C hme rfl (c_X7_setClip D A l hst hI1 hw hb) (cwV 5 C.1.2.2.2.2 gL_act_X7_setClip rfl rfl rfl (by decide +kernel) ⟨Nat.le_of_ble_eq_true rfl, Nat.le_of_ble_eq_true rfl⟩) rfl rfl (Nat.le_of_ble_eq_true rfl) dL_act_882 ⟨Nat.le_of_ble_eq_true rfl, Nat.le_of_ble_eq_true rfl⟩ (fun E M9 hx => ?_) (fun r M3 hp => ?_)
      · rcases hx.2 with ⟨h9, -⟩ | ⟨h9, -⟩ <;> exact absurd (hk0.symm.trans h9) (by decide)
      · obtain ⟨-, hr, Z', F', hX0, hZ, hI3⟩ := hp
        rw [jN_at (show n < 2 ^ 31 by omega)] at hr
        rw [if_neg (Int32.not_lt.mpr hh)] at hr
        subst hr
        have es : s_setClip ar (nI n) ((nI a0 - 5) - 5) ((nI b0 - 5) - 5) 0 (nI t_12) = clpA ar n ((nI a0 - 5) - 5) ((nI b0 - 5) - 5) 0 (nI t_12) := by unfold s_setClip clpA; rw [jN_at (show n < 2 ^ 31 by omega)]
        have hA' : AB (s_setClip ar (nI n) ((nI a0 - 5) - 5) ((nI b0 - 5) - 5) 0 (nI t_12)) cm := ⟨lP_setClip hP hk0, PB_same hB rfl rfl rfl⟩
        have hT' : hTT (s_setClip ar (nI n) ((nI a0 - 5) - 5) ((nI b0 - 5) - 5) 0 (nI t_12)) cm nr (upA B n (upd (upd (upd (upd (B n) 8 ((nI a0 - 5) - 5)) 9 ((nI b0 - 5) - 5)) 10 0) 11 (nI t_12))) K := by
          rw [es]
          exact T_set (ar' := clpA ar n ((nI a0 - 5) - 5) ((nI b0 - 5) - 5) 0 (nI t_12)) (n := n) hT rfl (fun _ => rfl) (fun m hm => ⟨rfl, rfl, rfl, rfl, rfl, rfl, clp_o hm (by decide)⟩) ⟨(hT.2.1 n hn).1, (hT.2.1 n hn).2.1, (hT.2.1 n hn).2.2.1, (hT.2.1 n hn).2.2.2.1, (hT.2.1 n hn).2.2.2.2.1, (hT.2.1 n hn).2.2.2.2.2.1, clp_at.2.2.1.symm⟩
        have hRF3 := hRF1.mono hX0
        have hE := act_end hI3 hRF3 hK.rf (hRF3.mono (fun a x h => hI3.F0 h)) hT' hA' hg hZ
        refine m_iload C dL_act_885 2 rfl ?_
        refine m_icmp_ne (tgt := 894) C dL_act_887 (by decide) (fun h_18 => ?_) (fun h_18 => ?_)
        · exact absurd h_18 (by decide)
        · refine m_iconst (v := 1) C dL_act_890 (by decide) ?_
          refine m_goto (tgt := 895) C dL_act_891 (by decide) ?_
          exact m_zret C (Nat.le_of_ble_eq_true rfl) (Nat.le_of_ble_eq_true rfl) dL_act_895 (Or.inr rfl) ⟨rfl, hE⟩
  · have hh := h_1
    refine m_iconst (v := 1) C dL_act_768 (by decide) ?_
    refine m_goto (tgt := 773) C dL_act_769 (by decide) ?_
    refine m_istore (L' := [(17, .int 1), (8, .int (nI b0 - 5)), (7, .int (nI a0 - 5)), (6, .ref an), (5, .int (nI n)), (4, .int (nI u)), (3, .int w), (2, .int x), (1, .ref o), (0, .ref (Z 0))]) C dL_act_773 (by decide) rfl ?_
    refine m_iconst (v := 4) C dL_act_775 (by decide) ?_
    refine m_newI C (by decide +kernel) (N := 4) rfl (by decide) (Nat.le_of_ble_eq_true rfl) (Nat.le_of_ble_eq_true rfl) dL_act_776 (fun sq hq0 => ?_)
    have hq : m_up M sq (jI D 4 (fun _ => 0)) sq = some (jI D 4 (fun _ => 0)) := m_up_s
    have hX : mS M (m_up M sq (jI D 4 (fun _ => 0))) := mS.rf.new hq0
    revert hq hX
    generalize m_up M sq (jI D 4 (fun _ => 0)) = M2
    intro hq hX
    refine m_dup C dL_act_778 rfl ?_
    refine m_iconst (v := 0) C dL_act_779 (by decide) ?_
    refine m_iload C dL_act_780 2 rfl ?_
    refine m_iconst (v := 5) C dL_act_782 (by decide) ?_
    refine m_isub C dL_act_783 ?_
    refine m_iastR C hq (by unfold vp_in; decide) (j := 0) (by decide) dL_act_784 (fun M2 hq hX9 => ?_)
    have hX := hX9 _ hX hq0
    refine m_dup C dL_act_785 rfl ?_
    refine m_iconst (v := 1) C dL_act_786 (by decide) ?_
    refine m_iload C dL_act_787 1 rfl ?_
    refine m_iconst (v := 5) C dL_act_789 (by decide) ?_
    refine m_isub C dL_act_790 ?_
    refine m_iastR C hq (by unfold vp_in; decide) (j := 1) (by decide) dL_act_791 (fun M2 hq hX9 => ?_)
    have hX := hX9 _ hX hq0
    refine m_dup C dL_act_792 rfl ?_
    refine m_iconst (v := 2) C dL_act_793 (by decide) ?_
    refine m_iload_n C dL_act_794 rfl 7 rfl ?_
    refine m_bipush (v := 8) C dL_act_795 (by decide) ?_
    refine m_ishr C dL_act_797 ?_
    refine m_iconst (v := 5) C dL_act_798 (by decide) ?_
    refine m_callSFi (As := [.int (x >>> (8 &&& 31)), .int 5]) (st := [.int 2, .ref sq, .ref sq]) (v := nI (q_bl (x >>> (8 &&& 31)) 5)) C (c_L_below D A l (v := x >>> (8 &&& 31)) (N := 5) (by decide) (by decide)) (va_cwS 2 C.1.2.2.2.2 gL_act_L_below rfl rfl rfl (by decide +kernel) ⟨Nat.le_of_ble_eq_true rfl, Nat.le_of_ble_eq_true rfl⟩) rfl rfl (Nat.le_of_ble_eq_true rfl) dL_act_799 ⟨Nat.le_of_ble_eq_true rfl, Nat.le_of_ble_eq_true rfl⟩ ?_
    obtain ⟨t_19, lt_19, et_19⟩ : ∃ z, z < 5 ∧ q_bl (x >>> (8 &&& 31)) 5 = z := ⟨_, q_bl_lt (by decide), rfl⟩
    rw [et_19]
    refine m_if_ne (tgt := 809) C dL_act_802 (by decide) (fun h_20 => ?_) (fun h_20 => ?_)
    · refine m_iconst (v := 1) C dL_act_809 (by decide) ?_
      refine m_iload_n C dL_act_810 rfl 7 rfl ?_
      refine m_bipush (v := 9) C dL_act_811 (by decide) ?_
      refine m_ishr C dL_act_813 ?_
      refine m_bipush (v := 60) C dL_act_814 (by decide) ?_
      refine m_callSFi (As := [.int (x >>> (9 &&& 31)), .int 60]) (st := [.int 1, .int 2, .ref sq, .ref sq]) (v := nI (q_bl (x >>> (9 &&& 31)) 60)) C (c_L_below D A l (v := x >>> (9 &&& 31)) (N := 60) (by decide) (by decide)) (va_cwS 2 C.1.2.2.2.2 gL_act_L_below rfl rfl rfl (by decide +kernel) ⟨Nat.le_of_ble_eq_true rfl, Nat.le_of_ble_eq_true rfl⟩) rfl rfl (Nat.le_of_ble_eq_true rfl) dL_act_816 ⟨Nat.le_of_ble_eq_true rfl, Nat.le_of_ble_eq_true rfl⟩ ?_
      obtain ⟨t_21, lt_21, et_21⟩ : ∃ z, z < 60 ∧ q_bl (x >>> (9 &&& 31)) 60 = z := ⟨_, q_bl_lt (by decide), rfl⟩
      rw [et_21]
      refine m_iadd C dL_act_819 ?_
      refine m_iastR C hq (by unfold vp_in; decide) (j := 2) (by decide) dL_act_820 (fun M2 hq hX9 => ?_)
      have hX := hX9 _ hX hq0
      refine m_dup C dL_act_821 rfl ?_
      refine m_iconst (v := 3) C dL_act_822 (by decide) ?_
      refine m_iload_n C dL_act_823 rfl 7 rfl ?_
      refine m_bipush (v := 7) C dL_act_824 (by decide) ?_
      refine m_ishr C dL_act_826 ?_
      refine m_bipush (v := 50) C dL_act_827 (by decide) ?_
      refine m_callSFi (As := [.int (x >>> (7 &&& 31)), .int 50]) (st := [.int 3, .ref sq, .ref sq]) (v := nI (q_bl (x >>> (7 &&& 31)) 50)) C (c_L_below D A l (v := x >>> (7 &&& 31)) (N := 50) (by decide) (by decide)) (va_cwS 2 C.1.2.2.2.2 gL_act_L_below rfl rfl rfl (by decide +kernel) ⟨Nat.le_of_ble_eq_true rfl, Nat.le_of_ble_eq_true rfl⟩) rfl rfl (Nat.le_of_ble_eq_true rfl) dL_act_829 ⟨Nat.le_of_ble_eq_true rfl, Nat.le_of_ble_eq_true rfl⟩ ?_
      obtain ⟨t_22, lt_22, et_22⟩ : ∃ z, z < 50 ∧ q_bl (x >>> (7 &&& 31)) 50 = z := ⟨_, q_bl_lt (by decide), rfl⟩
      rw [et_22]
      refine m_iastR C hq (by unfold vp_in; decide) (j := 3) (by decide) dL_act_832 (fun M2 hq hX9 => ?_)
      have hX := hX9 _ hX hq0
      refine m_astore (L' := [(18, .ref sq), (17, .int 1), (8, .int (nI b0 - 5)), (7, .int (nI a0 - 5)), (6, .ref an), (5, .int (nI n)), (4, .int (nI u)), (3, .int w), (2, .int x), (1, .ref o), (0, .ref (Z 0))]) C dL_act_833 (by decide) rfl ?_
      refine m_iconst (v := 0) C dL_act_835 (by decide) ?_
      refine m_istore (L' := [(19, .int 0), (18, .ref sq), (17, .int 1), (8, .int (nI b0 - 5)), (7, .int (nI a0 - 5)), (6, .ref an), (5, .int (nI n)), (4, .int (nI u)), (3, .int w), (2, .int x), (1, .ref o), (0, .ref (Z 0))]) C dL_act_836 (by decide) rfl ?_
      refine m_iload C dL_act_838 0 rfl ?_
      refine m_iconst (v := 4) C dL_act_840 (by decide) ?_
      have hR1 := hR0.mono hX
      have hk := hk.tr (hK.sub hX)
      refine m_icmp_ge (tgt := 863) C dL_act_841 (by decide) (fun h_23 => absurd h_23 (by decide)) (fun h_23 => ?_)
      refine m_aload C dL_act_844 5 rfl ?_
      refine m_bipush (v := 8) C dL_act_846 (by decide) ?_
      refine m_iload C dL_act_848 0 rfl ?_
      refine m_iadd C dL_act_850 ?_
      refine m_i (y := 8) (by decide) ?_
      refine m_aload C dL_act_851 1 rfl ?_
      refine m_iload C dL_act_853 0 rfl ?_
      refine m_ialdN C (hq) (by unfold vp_in; decide) (j := 0) (v := (nI a0 - 5) - 5) (by decide) rfl dL_act_855 ?_
      refine m_iastHq C hR1 hk hn4 han hq ?_ (by unfold vp_in; decide) (j := 8) (by decide) dL_act_856 (fun M1 hR1 hk hq => ?_)
      · intro z; rw [← z, hR.nrow hn4 han] at hq0; cases hq0
      refine m_iinc (q := 0) (v := 1) (L' := [(19, .int 1), (18, .ref sq), (17, .int 1), (8, .int (nI b0 - 5)), (7, .int (nI a0 - 5)), (6, .ref an), (5, .int (nI n)), (4, .int (nI u)), (3, .int w), (2, .int x), (1, .ref o), (0, .ref (Z 0))]) C dL_act_857 rfl (by decide) (by decide) rfl ?_
      refine m_goto (tgt := 838) C dL_act_860 (by decide) ?_
      refine m_iload C dL_act_838 0 rfl ?_
      refine m_iconst (v := 4) C dL_act_840 (by decide) ?_
      refine m_icmp_ge (tgt := 863) C dL_act_841 (by decide) (fun h_24 => absurd h_24 (by decide)) (fun h_24 => ?_)
      refine m_aload C dL_act_844 5 rfl ?_
      refine m_bipush (v := 8) C dL_act_846 (by decide) ?_
      refine m_iload C dL_act_848 0 rfl ?_
      refine m_iadd C dL_act_850 ?_
      refine m_i (y := 9) (by decide) ?_
      refine m_aload C dL_act_851 1 rfl ?_
      refine m_iload C dL_act_853 0 rfl ?_
      refine m_ialdN C (hq) (by unfold vp_in; decide) (j := 1) (v := (nI b0 - 5) - 5) (by decide) rfl dL_act_855 ?_
      refine m_iastHq C hR1 hk hn4 han hq ?_ (by unfold vp_in; decide) (j := 9) (by decide) dL_act_856 (fun M1 hR1 hk hq => ?_)
      · intro z; rw [← z, hR.nrow hn4 han] at hq0; cases hq0
      refine m_iinc (q := 0) (v := 2) (L' := [(19, .int 2), (18, .ref sq), (17, .int 1), (8, .int (nI b0 - 5)), (7, .int (nI a0 - 5)), (6, .ref an), (5, .int (nI n)), (4, .int (nI u)), (3, .int w), (2, .int x), (1, .ref o), (0, .ref (Z 0))]) C dL_act_857 rfl (by decide) (by decide) rfl ?_
      refine m_goto (tgt := 838) C dL_act_860 (by decide) ?_
      refine m_iload C dL_act_838 0 rfl ?_
      refine m_iconst (v := 4) C dL_act_840 (by decide) ?_
      refine m_icmp_ge (tgt := 863) C dL_act_841 (by decide) (fun h_25 => absurd h_25 (by decide)) (fun h_25 => ?_)
      refine m_aload C dL_act_844 5 rfl ?_
      refine m_bipush (v := 8) C dL_act_846 (by decide) ?_
      refine m_iload C dL_act_848 0 rfl ?_
      refine m_iadd C dL_act_850 ?_
      refine m_i (y := 10) (by decide) ?_
      refine m_aload C dL_act_851 1 rfl ?_
      refine m_iload C dL_act_853 0 rfl ?_
      refine m_ialdN C (hq) (by unfold vp_in; decide) (j := 2) (v := 1 + (nI t_21)) (by decide) rfl dL_act_855 ?_
      refine m_iastHq C hR1 hk hn4 han hq ?_ (by unfold vp_in; decide) (j := 10) (by decide) dL_act_856 (fun M1 hR1 hk hq => ?_)
      · intro z; rw [← z, hR.nrow hn4 han] at hq0; cases hq0
      refine m_iinc (q := 0) (v := 3) (L' := [(19, .int 3), (18, .ref sq), (17, .int 1), (8, .int (nI b0 - 5)), (7, .int (nI a0 - 5)), (6, .ref an), (5, .int (nI n)), (4, .int (nI u)), (3, .int w), (2, .int x), (1, .ref o), (0, .ref (Z 0))]) C dL_act_857 rfl (by decide) (by decide) rfl ?_
      refine m_goto (tgt := 838) C dL_act_860 (by decide) ?_
      refine m_iload C dL_act_838 0 rfl ?_
      refine m_iconst (v := 4) C dL_act_840 (by decide) ?_
      refine m_icmp_ge (tgt := 863) C dL_act_841 (by decide) (fun h_26 => absurd h_26 (by decide)) (fun h_26 => ?_)
      refine m_aload C dL_act_844 5 rfl ?_
      refine m_bipush (v := 8) C dL_act_846 (by decide) ?_
      refine m_iload C dL_act_848 0 rfl ?_
      refine m_iadd C dL_act_850 ?_
      refine m_i (y := 11) (by decide) ?_
      refine m_aload C dL_act_851 1 rfl ?_
      refine m_iload C dL_act_853 0 rfl ?_
      refine m_ialdN C (hq) (by unfold vp_in; decide) (j := 3) (v := nI t_22) (by decide) rfl dL_act_855 ?_
      refine m_iastHq C hR1 hk hn4 han hq ?_ (by unfold vp_in; decide) (j := 11) (by decide) dL_act_856 (fun M1 hR1 hk hq => ?_)
      · intro z; rw [← z, hR.nrow hn4 han] at hq0; cases hq0
      refine m_iinc (q := 0) (v := 4) (L' := [(19, .int 4), (18, .ref sq), (17, .int 1), (8, .int (nI b0 - 5)), (7, .int (nI a0 - 5)), (6, .ref an), (5, .int (nI n)), (4, .int (nI u)), (3, .int w), (2, .int x), (1, .ref o), (0, .ref (Z 0))]) C dL_act_857 rfl (by decide) (by decide) rfl ?_
      refine m_goto (tgt := 838) C dL_act_860 (by decide) ?_
      refine m_iload C dL_act_838 0 rfl ?_
      refine m_iconst (v := 4) C dL_act_840 (by decide) ?_
      refine m_icmp_ge (tgt := 863) C dL_act_841 (by decide) (fun h_27 => ?_) (fun h_27 => absurd (by decide) h_27)
      refine m_aload_n C dL_act_863 rfl 11 rfl ?_
      refine m_iload C dL_act_864 6 rfl ?_
      refine m_aload C dL_act_866 1 rfl ?_
      refine m_iconst (v := 0) C dL_act_868 (by decide) ?_
      refine m_ialdN C (hq) (by unfold vp_in; decide) (j := 0) (v := (nI a0 - 5) - 5) (by decide) rfl dL_act_869 ?_
      refine m_aload C dL_act_870 1 rfl ?_
      refine m_iconst (v := 1) C dL_act_872 (by decide) ?_
      refine m_ialdN C (hq) (by unfold vp_in; decide) (j := 1) (v := (nI b0 - 5) - 5) (by decide) rfl dL_act_873 ?_
      refine m_aload C dL_act_874 1 rfl ?_
      refine m_iconst (v := 2) C dL_act_876 (by decide) ?_
      refine m_ialdN C (hq) (by unfold vp_in; decide) (j := 2) (v := 1 + (nI t_21)) (by decide) rfl dL_act_877 ?_
      refine m_aload C dL_act_878 1 rfl ?_
      refine m_iconst (v := 3) C dL_act_880 (by decide) ?_
      refine m_ialdN C (hq) (by unfold vp_in; decide) (j := 3) (v := nI t_22) (by decide) rfl dL_act_881 ?_
      obtain ⟨F1, hI1, hRF1⟩ := hI.hand hRF hk hR1
      have hk0 : k_setClip cm ar (nI n) ((nI a0 - 5) - 5) ((nI b0 - 5) - 5) (1 + (nI t_21)) (nI t_22) = 0 := clip_0 hw hn ha0 hb0 lt_22 (⟨1 + t_21, by omega, nI_add 1 t_21⟩)
      obtain ⟨mf0, hme⟩ := hI1.me
      refine m_callVXiH (As := [.int (nI n), .int ((nI a0 - 5) - 5), .int ((nI b0 - 5) - 5), .int (1 + (nI t_21)), .int (nI t_22)]) (st := []) C hme rfl (c_X7_setClip D A l hst hI1 hw hb) (cwV 5 C.1.2.2.2.2 gL_act_X7_setClip rfl rfl rfl (by decide +kernel) ⟨Nat.le_of_ble_eq_true rfl, Nat.le_of_ble_eq_true rfl⟩) rfl rfl (Nat.le_of_ble_eq_true rfl) dL_act_882 ⟨Nat.le_of_ble_eq_true rfl, Nat.le_of_ble_eq_true rfl⟩ (fun E M9 hx => ?_) (fun r M3 hp => ?_)
      · rcases hx.2 with ⟨h9, -⟩ | ⟨h9, -⟩ <;> exact absurd (hk0.symm.trans h9) (by decide)
      · obtain ⟨-, hr, Z', F', hX0, hZ, hI3⟩ := hp
        rw [jN_at (show n < 2 ^ 31 by omega)] at hr
        rw [if_pos (Int32.not_le.mp hh)] at hr
        subst hr
        have es : s_setClip ar (nI n) ((nI a0 - 5) - 5) ((nI b0 - 5) - 5) (1 + (nI t_21)) (nI t_22) = clpA ar n ((nI a0 - 5) - 5) ((nI b0 - 5) - 5) (1 + (nI t_21)) (nI t_22) := by unfold s_setClip clpA; rw [jN_at (show n < 2 ^ 31 by omega)]
        have hA' : AB (s_setClip ar (nI n) ((nI a0 - 5) - 5) ((nI b0 - 5) - 5) (1 + (nI t_21)) (nI t_22)) cm := ⟨lP_setClip hP hk0, PB_same hB rfl rfl rfl⟩
        have hT' : hTT (s_setClip ar (nI n) ((nI a0 - 5) - 5) ((nI b0 - 5) - 5) (1 + (nI t_21)) (nI t_22)) cm nr (upA B n (upd (upd (upd (upd (B n) 8 ((nI a0 - 5) - 5)) 9 ((nI b0 - 5) - 5)) 10 (1 + (nI t_21))) 11 (nI t_22))) K := by
          rw [es]
          exact T_set (ar' := clpA ar n ((nI a0 - 5) - 5) ((nI b0 - 5) - 5) (1 + (nI t_21)) (nI t_22)) (n := n) hT rfl (fun _ => rfl) (fun m hm => ⟨rfl, rfl, rfl, rfl, rfl, rfl, clp_o hm (by decide)⟩) ⟨(hT.2.1 n hn).1, (hT.2.1 n hn).2.1, (hT.2.1 n hn).2.2.1, (hT.2.1 n hn).2.2.2.1, (hT.2.1 n hn).2.2.2.2.1, (hT.2.1 n hn).2.2.2.2.2.1, clp_at.2.2.1.symm⟩
        have hRF3 := hRF1.mono hX0
        have hE := act_end hI3 hRF3 hK.rf (hRF3.mono (fun a x h => hI3.F0 h)) hT' hA' hg hZ
        refine m_iload C dL_act_885 2 rfl ?_
        refine m_icmp_ne (tgt := 894) C dL_act_887 (by decide) (fun h_28 => ?_) (fun h_28 => ?_)
        · exact absurd h_28 (by decide)
        · refine m_iconst (v := 1) C dL_act_890 (by decide) ?_
          refine m_goto (tgt := 895) C dL_act_891 (by decide) ?_
          exact m_zret C (Nat.le_of_ble_eq_true rfl) (Nat.le_of_ble_eq_true rfl) dL_act_895 (Or.inr rfl) ⟨rfl, hE⟩
    · refine m_iconst (v := 0) C dL_act_805 (by decide) ?_
      refine m_goto (tgt := 820) C dL_act_806 (by decide) ?_
      refine m_iastR C hq (by unfold vp_in; decide) (j := 2) (by decide) dL_act_820 (fun M2 hq hX9 => ?_)
      have hX := hX9 _ hX hq0
      refine m_dup C dL_act_821 rfl ?_
      refine m_iconst (v := 3) C dL_act_822 (by decide) ?_
      refine m_iload_n C dL_act_823 rfl 7 rfl ?_
      refine m_bipush (v := 7) C dL_act_824 (by decide) ?_
      refine m_ishr C dL_act_826 ?_
      refine m_bipush (v := 50) C dL_act_827 (by decide) ?_
      refine m_callSFi (As := [.int (x >>> (7 &&& 31)), .int 50]) (st := [.int 3, .ref sq, .ref sq]) (v := nI (q_bl (x >>> (7 &&& 31)) 50)) C (c_L_below D A l (v := x >>> (7 &&& 31)) (N := 50) (by decide) (by decide)) (va_cwS 2 C.1.2.2.2.2 gL_act_L_below rfl rfl rfl (by decide +kernel) ⟨Nat.le_of_ble_eq_true rfl, Nat.le_of_ble_eq_true rfl⟩) rfl rfl (Nat.le_of_ble_eq_true rfl) dL_act_829 ⟨Nat.le_of_ble_eq_true rfl, Nat.le_of_ble_eq_true rfl⟩ ?_
      obtain ⟨t_29, lt_29, et_29⟩ : ∃ z, z < 50 ∧ q_bl (x >>> (7 &&& 31)) 50 = z := ⟨_, q_bl_lt (by decide), rfl⟩
      rw [et_29]
      refine m_iastR C hq (by unfold vp_in; decide) (j := 3) (by decide) dL_act_832 (fun M2 hq hX9 => ?_)
      have hX := hX9 _ hX hq0
      refine m_astore (L' := [(18, .ref sq), (17, .int 1), (8, .int (nI b0 - 5)), (7, .int (nI a0 - 5)), (6, .ref an), (5, .int (nI n)), (4, .int (nI u)), (3, .int w), (2, .int x), (1, .ref o), (0, .ref (Z 0))]) C dL_act_833 (by decide) rfl ?_
      refine m_iconst (v := 0) C dL_act_835 (by decide) ?_
      refine m_istore (L' := [(19, .int 0), (18, .ref sq), (17, .int 1), (8, .int (nI b0 - 5)), (7, .int (nI a0 - 5)), (6, .ref an), (5, .int (nI n)), (4, .int (nI u)), (3, .int w), (2, .int x), (1, .ref o), (0, .ref (Z 0))]) C dL_act_836 (by decide) rfl ?_
      refine m_iload C dL_act_838 0 rfl ?_
      refine m_iconst (v := 4) C dL_act_840 (by decide) ?_
      have hR1 := hR0.mono hX
      have hk := hk.tr (hK.sub hX)
      refine m_icmp_ge (tgt := 863) C dL_act_841 (by decide) (fun h_30 => absurd h_30 (by decide)) (fun h_30 => ?_)
      refine m_aload C dL_act_844 5 rfl ?_
      refine m_bipush (v := 8) C dL_act_846 (by decide) ?_
      refine m_iload C dL_act_848 0 rfl ?_
      refine m_iadd C dL_act_850 ?_
      refine m_i (y := 8) (by decide) ?_
      refine m_aload C dL_act_851 1 rfl ?_
      refine m_iload C dL_act_853 0 rfl ?_
      refine m_ialdN C (hq) (by unfold vp_in; decide) (j := 0) (v := (nI a0 - 5) - 5) (by decide) rfl dL_act_855 ?_
      refine m_iastHq C hR1 hk hn4 han hq ?_ (by unfold vp_in; decide) (j := 8) (by decide) dL_act_856 (fun M1 hR1 hk hq => ?_)
      · intro z; rw [← z, hR.nrow hn4 han] at hq0; cases hq0
      refine m_iinc (q := 0) (v := 1) (L' := [(19, .int 1), (18, .ref sq), (17, .int 1), (8, .int (nI b0 - 5)), (7, .int (nI a0 - 5)), (6, .ref an), (5, .int (nI n)), (4, .int (nI u)), (3, .int w), (2, .int x), (1, .ref o), (0, .ref (Z 0))]) C dL_act_857 rfl (by decide) (by decide) rfl ?_
      refine m_goto (tgt := 838) C dL_act_860 (by decide) ?_
      refine m_iload C dL_act_838 0 rfl ?_
      refine m_iconst (v := 4) C dL_act_840 (by decide) ?_
      refine m_icmp_ge (tgt := 863) C dL_act_841 (by decide) (fun h_31 => absurd h_31 (by decide)) (fun h_31 => ?_)
      refine m_aload C dL_act_844 5 rfl ?_
      refine m_bipush (v := 8) C dL_act_846 (by decide) ?_
      refine m_iload C dL_act_848 0 rfl ?_
      refine m_iadd C dL_act_850 ?_
      refine m_i (y := 9) (by decide) ?_
      refine m_aload C dL_act_851 1 rfl ?_
      refine m_iload C dL_act_853 0 rfl ?_
      refine m_ialdN C (hq) (by unfold vp_in; decide) (j := 1) (v := (nI b0 - 5) - 5) (by decide) rfl dL_act_855 ?_
      refine m_iastHq C hR1 hk hn4 han hq ?_ (by unfold vp_in; decide) (j := 9) (by decide) dL_act_856 (fun M1 hR1 hk hq => ?_)
      · intro z; rw [← z, hR.nrow hn4 han] at hq0; cases hq0
      refine m_iinc (q := 0) (v := 2) (L' := [(19, .int 2), (18, .ref sq), (17, .int 1), (8, .int (nI b0 - 5)), (7, .int (nI a0 - 5)), (6, .ref an), (5, .int (nI n)), (4, .int (nI u)), (3, .int w), (2, .int x), (1, .ref o), (0, .ref (Z 0))]) C dL_act_857 rfl (by decide) (by decide) rfl ?_
      refine m_goto (tgt := 838) C dL_act_860 (by decide) ?_
      refine m_iload C dL_act_838 0 rfl ?_
      refine m_iconst (v := 4) C dL_act_840 (by decide) ?_
      refine m_icmp_ge (tgt := 863) C dL_act_841 (by decide) (fun h_32 => absurd h_32 (by decide)) (fun h_32 => ?_)
      refine m_aload C dL_act_844 5 rfl ?_
      refine m_bipush (v := 8) C dL_act_846 (by decide) ?_
      refine m_iload C dL_act_848 0 rfl ?_
      refine m_iadd C dL_act_850 ?_
      refine m_i (y := 10) (by decide) ?_
      refine m_aload C dL_act_851 1 rfl ?_
      refine m_iload C dL_act_853 0 rfl ?_
      refine m_ialdN C (hq) (by unfold vp_in; decide) (j := 2) (v := 0) (by decide) rfl dL_act_855 ?_
      refine m_iastHq C hR1 hk hn4 han hq ?_ (by unfold vp_in; decide) (j := 10) (by decide) dL_act_856 (fun M1 hR1 hk hq => ?_)
      · intro z; rw [← z, hR.nrow hn4 han] at hq0; cases hq0
      refine m_iinc (q := 0) (v := 3) (L' := [(19, .int 3), (18, .ref sq), (17, .int 1), (8, .int (nI b0 - 5)), (7, .int (nI a0 - 5)), (6, .ref an), (5, .int (nI n)), (4, .int (nI u)), (3, .int w), (2, .int x), (1, .ref o), (0, .ref (Z 0))]) C dL_act_857 rfl (by decide) (by decide) rfl ?_
      refine m_goto (tgt := 838) C dL_act_860 (by decide) ?_
      refine m_iload C dL_act_838 0 rfl ?_
      refine m_iconst (v := 4) C dL_act_840 (by decide) ?_
      refine m_icmp_ge (tgt := 863) C dL_act_841 (by decide) (fun h_33 => absurd h_33 (by decide)) (fun h_33 => ?_)
      refine m_aload C dL_act_844 5 rfl ?_
      refine m_bipush (v := 8) C dL_act_846 (by decide) ?_
      refine m_iload C dL_act_848 0 rfl ?_
      refine m_iadd C dL_act_850 ?_
      refine m_i (y := 11) (by decide) ?_
      refine m_aload C dL_act_851 1 rfl ?_
      refine m_iload C dL_act_853 0 rfl ?_
      refine m_ialdN C (hq) (by unfold vp_in; decide) (j := 3) (v := nI t_29) (by decide) rfl dL_act_855 ?_
      refine m_iastHq C hR1 hk hn4 han hq ?_ (by unfold vp_in; decide) (j := 11) (by decide) dL_act_856 (fun M1 hR1 hk hq => ?_)
      · intro z; rw [← z, hR.nrow hn4 han] at hq0; cases hq0
      refine m_iinc (q := 0) (v := 4) (L' := [(19, .int 4), (18, .ref sq), (17, .int 1), (8, .int (nI b0 - 5)), (7, .int (nI a0 - 5)), (6, .ref an), (5, .int (nI n)), (4, .int (nI u)), (3, .int w), (2, .int x), (1, .ref o), (0, .ref (Z 0))]) C dL_act_857 rfl (by decide) (by decide) rfl ?_
      refine m_goto (tgt := 838) C dL_act_860 (by decide) ?_
      refine m_iload C dL_act_838 0 rfl ?_
      refine m_iconst (v := 4) C dL_act_840 (by decide) ?_
      refine m_icmp_ge (tgt := 863) C dL_act_841 (by decide) (fun h_34 => ?_) (fun h_34 => absurd (by decide) h_34)
      refine m_aload_n C dL_act_863 rfl 11 rfl ?_
      refine m_iload C dL_act_864 6 rfl ?_
      refine m_aload C dL_act_866 1 rfl ?_
      refine m_iconst (v := 0) C dL_act_868 (by decide) ?_
      refine m_ialdN C (hq) (by unfold vp_in; decide) (j := 0) (v := (nI a0 - 5) - 5) (by decide) rfl dL_act_869 ?_
      refine m_aload C dL_act_870 1 rfl ?_
      refine m_iconst (v := 1) C dL_act_872 (by decide) ?_
      refine m_ialdN C (hq) (by unfold vp_in; decide) (j := 1) (v := (nI b0 - 5) - 5) (by decide) rfl dL_act_873 ?_
      refine m_aload C dL_act_874 1 rfl ?_
      refine m_iconst (v := 2) C dL_act_876 (by decide) ?_
      refine m_ialdN C (hq) (by unfold vp_in; decide) (j := 2) (v := 0) (by decide) rfl dL_act_877 ?_
      refine m_aload C dL_act_878 1 rfl ?_
      refine m_iconst (v := 3) C dL_act_880 (by decide) ?_
      refine m_ialdN C (hq) (by unfold vp_in; decide) (j := 3) (v := nI t_29) (by decide) rfl dL_act_881 ?_
      obtain ⟨F1, hI1, hRF1⟩ := hI.hand hRF hk hR1
      have hk0 : k_setClip cm ar (nI n) ((nI a0 - 5) - 5) ((nI b0 - 5) - 5) 0 (nI t_29) = 0 := clip_0 hw hn ha0 hb0 lt_29 (⟨0, by omega, rfl⟩)
      obtain ⟨mf0, hme⟩ := hI1.me
      refine m_callVXiH (As := [.int (nI n), .int ((nI a0 - 5) - 5), .int ((nI b0 - 5) - 5), .int 0, .int (nI t_29)]) (st := []) C hme rfl (c_X7_setClip D A l hst hI1 hw hb) (cwV 5 C.1.2.2.2.2 gL_act_X7_setClip rfl rfl rfl (by decide +kernel) ⟨Nat.le_of_ble_eq_true rfl, Nat.le_of_ble_eq_true rfl⟩) rfl rfl (Nat.le_of_ble_eq_true rfl) dL_act_882 ⟨Nat.le_of_ble_eq_true rfl, Nat.le_of_ble_eq_true rfl⟩ (fun E M9 hx => ?_) (fun r M3 hp => ?_)
      · rcases hx.2 with ⟨h9, -⟩ | ⟨h9, -⟩ <;> exact absurd (hk0.symm.trans h9) (by decide)
      · obtain ⟨-, hr, Z', F', hX0, hZ, hI3⟩ := hp
        rw [jN_at (show n < 2 ^ 31 by omega)] at hr
        rw [if_pos (Int32.not_le.mp hh)] at hr
        subst hr
        have es : s_setClip ar (nI n) ((nI a0 - 5) - 5) ((nI b0 - 5) - 5) 0 (nI t_29) = clpA ar n ((nI a0 - 5) - 5) ((nI b0 - 5) - 5) 0 (nI t_29) := by unfold s_setClip clpA; rw [jN_at (show n < 2 ^ 31 by omega)]
        have hA' : AB (s_setClip ar (nI n) ((nI a0 - 5) - 5) ((nI b0 - 5) - 5) 0 (nI t_29)) cm := ⟨lP_setClip hP hk0, PB_same hB rfl rfl rfl⟩
        have hT' : hTT (s_setClip ar (nI n) ((nI a0 - 5) - 5) ((nI b0 - 5) - 5) 0 (nI t_29)) cm nr (upA B n (upd (upd (upd (upd (B n) 8 ((nI a0 - 5) - 5)) 9 ((nI b0 - 5) - 5)) 10 0) 11 (nI t_29))) K := by
          rw [es]
          exact T_set (ar' := clpA ar n ((nI a0 - 5) - 5) ((nI b0 - 5) - 5) 0 (nI t_29)) (n := n) hT rfl (fun _ => rfl) (fun m hm => ⟨rfl, rfl, rfl, rfl, rfl, rfl, clp_o hm (by decide)⟩) ⟨(hT.2.1 n hn).1, (hT.2.1 n hn).2.1, (hT.2.1 n hn).2.2.1, (hT.2.1 n hn).2.2.2.1, (hT.2.1 n hn).2.2.2.2.1, (hT.2.1 n hn).2.2.2.2.2.1, clp_at.2.2.1.symm⟩
        have hRF3 := hRF1.mono hX0
        have hE := act_end hI3 hRF3 hK.rf (hRF3.mono (fun a x h => hI3.F0 h)) hT' hA' hg hZ
        refine m_iload C dL_act_885 2 rfl ?_
        refine m_icmp_ne (tgt := 894) C dL_act_887 (by decide) (fun h_35 => ?_) (fun h_35 => ?_)
        · exact absurd h_35 (by decide)
        · refine m_iconst (v := 1) C dL_act_890 (by decide) ?_
          refine m_goto (tgt := 895) C dL_act_891 (by decide) ?_
          exact m_zret C (Nat.le_of_ble_eq_true rfl) (Nat.le_of_ble_eq_true rfl) dL_act_895 (Or.inr rfl) ⟨rfl, hE⟩
set_option maxHeartbeats 4000000 in
set_option maxRecDepth 100000 in
theorem act_11 {p : Program} {l : Launch} {e : Env} {s : State} {m : MethodId} {args : Array Value} {below : List Frame} {meth : Method} {c : Code} {D : mD} {A : Nat → Prop} {Z : Nat → Nat} {o cm : Nat} {g : Int32} {ar : rA} {F M : Mm} {qn qc qp : Nat} {nr cr : Nat → Option Nat} {B : Nat → Nat → Int32} {K : Nat → List Nat} (hst : l.stackTraces = false) (hI : cI D Z F cm g ar M) (hRF : hW D o qn qc qp nr cr cm g B K F) (hT : hTT ar cm nr B K) (hP : lP cm ar) (hB : PB ar) (hg : ∃ b, b ≤ 255 ∧ g = nI b) {u n an a0 b0 : Nat} {x w : Int32} (hu : cP ar cm u) (hu0 : ar 3 u = 0) (hn : cP ar cm n) (han : nr n = some an) (ha0 : a0 < 70) (hb0 : b0 < 55) (C : mC p m meth c cL_act 21 s args wsL_act yL_act.cls D A yL_act (some .boolean)) (i8 : ∀ w ∈ wsX80, w ∈ wsL_act) : mV p l e ({ frames := 45, cells := 110, slots := 3200, locals := 1750 } : Room) s m args below meth c 21 D A (MQ below (va_Qi (fun r M' => r = 1 ∧ hAA D (Z 0) o M') (mB D A) A) args s 110 3200 A) M 0 0 [(8, .int (nI b0 - 5)), (7, .int (nI a0 - 5)), (6, .ref an), (5, .int (nI n)), (4, .int (nI u)), (3, .int w), (2, .int x), (1, .ref o), (0, .ref (Z 0))] [] 896 := by
  have hw : wf ar cm := hP.1
  have hb : BD ar cm := hP.2.1
  have hR : hW D o qn qc qp nr cr cm g B K M := hRF.mono (fun a x h => hI.F0 h)
  have hu4 := cP_40 hw hu
  have hn4 := cP_40 hw hn
  have hEnd : hAA D (Z 0) o M := ⟨Z, cm, g, ar, rfl, ⟨F, qn, qc, qp, nr, cr, B, K, hI, hRF, hT⟩, ⟨hP, hB⟩, hg⟩
  obtain ⟨au, hau⟩ := (hT.1 u hu4).mpr hu
  have hk := hK.rf (o := o) (qn := qn) (qc := qc) (nr := nr) (cr := cr) (M := M)
  have hR0 := hR
  rw [← upA_self B u] at hR0
  refine m_aload_n C dL_act_896 rfl 7 rfl ?_
  refine m_get (ref := "PaintLayersLaw$Hand") C hR0.1 rfl i8 0 (by decide) (by decide +kernel) (fun x h => h) (v := .ref qn) rfl dL_act_897 ?_
  refine m_iload C dL_act_900 4 rfl ?_
  refine m_aaldA C hR0.2.1 (vp_in_nI hu4 (by decide)) dL_act_902 ?_
  rw [nI_clamp (show u < 2 ^ 31 by omega), hau]
  refine m_bipush (v := 7) C dL_act_903 (by decide) ?_
  refine m_ialdN C (hR0.rowU hu4 hau) (by unfold vp_in; decide) (j := 7) (v := ar 13 u) (by decide) ((hT.2.1 u hu).2.2.2.2.2.1) dL_act_905 ?_
  refine m_iconst (v := 1) C dL_act_906 (by decide) ?_
  have h13 := hP.2.2 u
  refine m_icmp_ne (tgt := 914) C dL_act_907 (by decide) (fun h_1 => ?_) (fun h_1 => ?_)
  · have hwas := h_1
    refine m_iconst (v := 0) C dL_act_914 (by decide) ?_
    refine m_istore (L' := [(19, .int 0), (8, .int (nI b0 - 5)), (7, .int (nI a0 - 5)), (6, .ref an), (5, .int (nI n)), (4, .int (nI u)), (3, .int w), (2, .int x), (1, .ref o), (0, .ref (Z 0))]) C dL_act_915 (by decide) rfl ?_
    refine m_aload_n C dL_act_917 rfl 8 rfl ?_
    refine m_get (ref := "PaintLayersLaw$Hand") C hR0.1 rfl i8 0 (by decide) (by decide +kernel) (fun x h => h) (v := .ref qn) rfl dL_act_918 ?_
    refine m_iload C dL_act_921 5 rfl ?_
    refine m_aaldA C hR0.2.1 (vp_in_nI hu4 (by decide)) dL_act_923 ?_
    rw [nI_clamp (show u < 2 ^ 31 by omega), hau]
    refine m_bipush (v := 7) C dL_act_924 (by decide) ?_
    refine m_iload_n C dL_act_926 rfl 7 rfl ?_
    refine m_bipush (v := 8) C dL_act_927 (by decide) ?_
    refine m_ishr C dL_act_929 ?_
    refine m_iconst (v := 2) C dL_act_930 (by decide) ?_
    refine m_callSFi (As := [.int (x >>> (8 &&& 31)), .int 2]) (st := [.int 7, .ref au]) (v := nI (q_bl (x >>> (8 &&& 31)) 2)) C (c_L_below D A l (v := x >>> (8 &&& 31)) (N := 2) (by decide) (by decide)) (va_cwS 2 C.1.2.2.2.2 gL_act_L_below rfl rfl rfl (by decide +kernel) ⟨Nat.le_of_ble_eq_true rfl, Nat.le_of_ble_eq_true rfl⟩) rfl rfl (Nat.le_of_ble_eq_true rfl) dL_act_931 ⟨Nat.le_of_ble_eq_true rfl, Nat.le_of_ble_eq_true rfl⟩ ?_
    obtain ⟨t_2, lt_2, et_2⟩ : ∃ z, z < 2 ∧ q_bl (x >>> (8 &&& 31)) 2 = z := ⟨_, q_bl_lt (by decide), rfl⟩
    rw [et_2]
    refine m_iastH C hR0 hk hu4 hau (by unfold vp_in; decide) (j := 7) (by decide) dL_act_934 (fun M1 hR1 hk => ?_)
    refine m_aload_n C dL_act_935 rfl 9 rfl ?_
    refine m_iload C dL_act_936 5 rfl ?_
    refine m_aload_n C dL_act_938 rfl 8 rfl ?_
    refine m_get (ref := "PaintLayersLaw$Hand") C hR1.1 rfl i8 0 (by decide) (by decide +kernel) (fun x h => h) (v := .ref qn) rfl dL_act_939 ?_
    refine m_iload C dL_act_942 5 rfl ?_
    refine m_aaldA C hR1.2.1 (vp_in_nI hu4 (by decide)) dL_act_944 ?_
    rw [nI_clamp (show u < 2 ^ 31 by omega), hau]
    refine m_bipush (v := 7) C dL_act_945 (by decide) ?_
    refine m_ialdN C (hR1.rowU hu4 hau) (by unfold vp_in; decide) (j := 7) (v := nI t_2) (by decide) (rfl) dL_act_947 ?_
    refine m_iconst (v := 1) C dL_act_948 (by decide) ?_
    refine m_icmp_ne (tgt := 956) C dL_act_949 (by decide) (fun h_3 => ?_) (fun h_3 => ?_)
    · have hnow := h_3
      refine m_iconst (v := 0) C dL_act_956 (by decide) ?_
      obtain ⟨F1, hI1, hRF1⟩ := hI.hand hRF hk hR1
      have hk0 : k_setMask cm ar (nI u) = 0 := mask_0 hw hu hu0
      obtain ⟨mf0, hme⟩ := hI1.me
      refine m_callVXiH (As := [.int (nI u), .int 0]) (st := []) C hme rfl (c_X7_setMask D A l hst hI1 hw hb hP.2.2 (h := false)) (cwV 2 C.1.2.2.2.2 gL_act_X7_setMask rfl rfl rfl (by decide +kernel) ⟨Nat.le_of_ble_eq_true rfl, Nat.le_of_ble_eq_true rfl⟩) rfl rfl (Nat.le_of_ble_eq_true rfl) dL_act_957 ⟨Nat.le_of_ble_eq_true rfl, Nat.le_of_ble_eq_true rfl⟩ (fun E M9 hx => ?_) (fun r M3 hp => ?_)
      · rcases hx.2 with ⟨h9, -⟩ | ⟨h9, -⟩ <;> exact absurd (hk0.symm.trans h9) (by decide)
      · obtain ⟨-, hr, hI3⟩ := hp
        rw [jN_at (show u < 2 ^ 31 by omega)] at hr
        rw [h13.resolve_right hwas] at hr
        subst hr
        have es : s_setMask ar (nI u) false = upA ar 13 (upd (ar 13) u (bI false)) := by unfold s_setMask; rw [jN_at (show u < 2 ^ 31 by omega)]
        have hA' : AB (s_setMask ar (nI u) false) cm := ⟨lP_setMask hP hk0, PB_same hB rfl rfl rfl⟩
        have hT' : hTT (s_setMask ar (nI u) false) cm nr (upA B u (upd (B u) 7 (nI t_2))) K := by
          rw [es]
          exact T_set (ar' := upA ar 13 (upd (ar 13) u (bI false))) (n := u) hT rfl (fun _ => rfl) (fun m hm => ⟨rfl, rfl, rfl, rfl, rfl, upd_n9 hm, rfl⟩) ⟨(hT.2.1 u hu).1, (hT.2.1 u hu).2.1, (hT.2.1 u hu).2.2.1, (hT.2.1 u hu).2.2.2.1, (hT.2.1 u hu).2.2.2.2.1, (show nI t_2 = bI false by rcases (show t_2 = 0 ∨ t_2 = 1 by omega) with z | z <;> first | (rw [z]; rfl) | exact absurd (by rw [z]; rfl) hnow).trans upd_s9.symm, (hT.2.1 u hu).2.2.2.2.2.2⟩
        have hE := act_end hI3 hRF1 hK.rf (hRF1.mono (fun a x h => hI3.F0 h)) hT' hA' hg rfl
        refine m_iload C dL_act_960 0 rfl ?_
        refine m_icmp_ne (tgt := 969) C dL_act_962 (by decide) (fun h_4 => ?_) (fun h_4 => ?_)
        · exact absurd h_4 (by decide)
        · refine m_iconst (v := 1) C dL_act_965 (by decide) ?_
          refine m_goto (tgt := 970) C dL_act_966 (by decide) ?_
          exact m_zret C (Nat.le_of_ble_eq_true rfl) (Nat.le_of_ble_eq_true rfl) dL_act_970 (Or.inr rfl) ⟨rfl, hE⟩
    · have hnow := h_3
      refine m_iconst (v := 1) C dL_act_952 (by decide) ?_
      refine m_goto (tgt := 957) C dL_act_953 (by decide) ?_
      obtain ⟨F1, hI1, hRF1⟩ := hI.hand hRF hk hR1
      have hk0 : k_setMask cm ar (nI u) = 0 := mask_0 hw hu hu0
      obtain ⟨mf0, hme⟩ := hI1.me
      refine m_callVXiH (As := [.int (nI u), .int 1]) (st := []) C hme rfl (c_X7_setMask D A l hst hI1 hw hb hP.2.2 (h := true)) (cwV 2 C.1.2.2.2.2 gL_act_X7_setMask rfl rfl rfl (by decide +kernel) ⟨Nat.le_of_ble_eq_true rfl, Nat.le_of_ble_eq_true rfl⟩) rfl rfl (Nat.le_of_ble_eq_true rfl) dL_act_957 ⟨Nat.le_of_ble_eq_true rfl, Nat.le_of_ble_eq_true rfl⟩ (fun E M9 hx => ?_) (fun r M3 hp => ?_)
      · rcases hx.2 with ⟨h9, -⟩ | ⟨h9, -⟩ <;> exact absurd (hk0.symm.trans h9) (by decide)
      · obtain ⟨-, hr, hI3⟩ := hp
        rw [jN_at (show u < 2 ^ 31 by omega)] at hr
        rw [h13.resolve_right hwas] at hr
        subst hr
        have es : s_setMask ar (nI u) true = upA ar 13 (upd (ar 13) u (bI true)) := by unfold s_setMask; rw [jN_at (show u < 2 ^ 31 by omega)]
        have hA' : AB (s_setMask ar (nI u) true) cm := ⟨lP_setMask hP hk0, PB_same hB rfl rfl rfl⟩
        have hT' : hTT (s_setMask ar (nI u) true) cm nr (upA B u (upd (B u) 7 (nI t_2))) K := by
          rw [es]
          exact T_set (ar' := upA ar 13 (upd (ar 13) u (bI true))) (n := u) hT rfl (fun _ => rfl) (fun m hm => ⟨rfl, rfl, rfl, rfl, rfl, upd_n9 hm, rfl⟩) ⟨(hT.2.1 u hu).1, (hT.2.1 u hu).2.1, (hT.2.1 u hu).2.2.1, (hT.2.1 u hu).2.2.2.1, (hT.2.1 u hu).2.2.2.2.1, hnow.trans upd_s9.symm, (hT.2.1 u hu).2.2.2.2.2.2⟩
        have hE := act_end hI3 hRF1 hK.rf (hRF1.mono (fun a x h => hI3.F0 h)) hT' hA' hg rfl
        refine m_iload C dL_act_960 0 rfl ?_
        refine m_icmp_ne (tgt := 969) C dL_act_962 (by decide) (fun h_5 => ?_) (fun h_5 => ?_)
        · exact absurd h_5 (by decide)
        · refine m_iconst (v := 1) C dL_act_965 (by decide) ?_
          refine m_goto (tgt := 970) C dL_act_966 (by decide) ?_
          exact m_zret C (Nat.le_of_ble_eq_true rfl) (Nat.le_of_ble_eq_true rfl) dL_act_970 (Or.inr rfl) ⟨rfl, hE⟩
  · have hwas := h_1
    refine m_iconst (v := 1) C dL_act_910 (by decide) ?_
    refine m_goto (tgt := 915) C dL_act_911 (by decide) ?_
    refine m_istore (L' := [(19, .int 1), (8, .int (nI b0 - 5)), (7, .int (nI a0 - 5)), (6, .ref an), (5, .int (nI n)), (4, .int (nI u)), (3, .int w), (2, .int x), (1, .ref o), (0, .ref (Z 0))]) C dL_act_915 (by decide) rfl ?_
    refine m_aload_n C dL_act_917 rfl 8 rfl ?_
    refine m_get (ref := "PaintLayersLaw$Hand") C hR0.1 rfl i8 0 (by decide) (by decide +kernel) (fun x h => h) (v := .ref qn) rfl dL_act_918 ?_
    refine m_iload C dL_act_921 5 rfl ?_
    refine m_aaldA C hR0.2.1 (vp_in_nI hu4 (by decide)) dL_act_923 ?_
    rw [nI_clamp (show u < 2 ^ 31 by omega), hau]
    refine m_bipush (v := 7) C dL_act_924 (by decide) ?_
    refine m_iload_n C dL_act_926 rfl 7 rfl ?_
    refine m_bipush (v := 8) C dL_act_927 (by decide) ?_
    refine m_ishr C dL_act_929 ?_
    refine m_iconst (v := 2) C dL_act_930 (by decide) ?_
    refine m_callSFi (As := [.int (x >>> (8 &&& 31)), .int 2]) (st := [.int 7, .ref au]) (v := nI (q_bl (x >>> (8 &&& 31)) 2)) C (c_L_below D A l (v := x >>> (8 &&& 31)) (N := 2) (by decide) (by decide)) (va_cwS 2 C.1.2.2.2.2 gL_act_L_below rfl rfl rfl (by decide +kernel) ⟨Nat.le_of_ble_eq_true rfl, Nat.le_of_ble_eq_true rfl⟩) rfl rfl (Nat.le_of_ble_eq_true rfl) dL_act_931 ⟨Nat.le_of_ble_eq_true rfl, Nat.le_of_ble_eq_true rfl⟩ ?_
    obtain ⟨t_6, lt_6, et_6⟩ : ∃ z, z < 2 ∧ q_bl (x >>> (8 &&& 31)) 2 = z := ⟨_, q_bl_lt (by decide), rfl⟩
    rw [et_6]
    refine m_iastH C hR0 hk hu4 hau (by unfold vp_in; decide) (j := 7) (by decide) dL_act_934 (fun M1 hR1 hk => ?_)
    refine m_aload_n C dL_act_935 rfl 9 rfl ?_
    refine m_iload C dL_act_936 5 rfl ?_
    refine m_aload_n C dL_act_938 rfl 8 rfl ?_
    refine m_get (ref := "PaintLayersLaw$Hand") C hR1.1 rfl i8 0 (by decide) (by decide +kernel) (fun x h => h) (v := .ref qn) rfl dL_act_939 ?_
    refine m_iload C dL_act_942 5 rfl ?_
    refine m_aaldA C hR1.2.1 (vp_in_nI hu4 (by decide)) dL_act_944 ?_
    rw [nI_clamp (show u < 2 ^ 31 by omega), hau]
    refine m_bipush (v := 7) C dL_act_945 (by decide) ?_
    refine m_ialdN C (hR1.rowU hu4 hau) (by unfold vp_in; decide) (j := 7) (v := nI t_6) (by decide) (rfl) dL_act_947 ?_
    refine m_iconst (v := 1) C dL_act_948 (by decide) ?_
    refine m_icmp_ne (tgt := 956) C dL_act_949 (by decide) (fun h_7 => ?_) (fun h_7 => ?_)
    · have hnow := h_7
      refine m_iconst (v := 0) C dL_act_956 (by decide) ?_
      obtain ⟨F1, hI1, hRF1⟩ := hI.hand hRF hk hR1
      have hk0 : k_setMask cm ar (nI u) = 0 := mask_0 hw hu hu0
      obtain ⟨mf0, hme⟩ := hI1.me
      refine m_callVXiH (As := [.int (nI u), .int 0]) (st := []) C hme rfl (c_X7_setMask D A l hst hI1 hw hb hP.2.2 (h := false)) (cwV 2 C.1.2.2.2.2 gL_act_X7_setMask rfl rfl rfl (by decide +kernel) ⟨Nat.le_of_ble_eq_true rfl, Nat.le_of_ble_eq_true rfl⟩) rfl rfl (Nat.le_of_ble_eq_true rfl) dL_act_957 ⟨Nat.le_of_ble_eq_true rfl, Nat.le_of_ble_eq_true rfl⟩ (fun E M9 hx => ?_) (fun r M3 hp => ?_)
      · rcases hx.2 with ⟨h9, -⟩ | ⟨h9, -⟩ <;> exact absurd (hk0.symm.trans h9) (by decide)
      · obtain ⟨-, hr, hI3⟩ := hp
        rw [jN_at (show u < 2 ^ 31 by omega)] at hr
        rw [hwas] at hr
        subst hr
        have es : s_setMask ar (nI u) false = upA ar 13 (upd (ar 13) u (bI false)) := by unfold s_setMask; rw [jN_at (show u < 2 ^ 31 by omega)]
        have hA' : AB (s_setMask ar (nI u) false) cm := ⟨lP_setMask hP hk0, PB_same hB rfl rfl rfl⟩
        have hT' : hTT (s_setMask ar (nI u) false) cm nr (upA B u (upd (B u) 7 (nI t_6))) K := by
          rw [es]
          exact T_set (ar' := upA ar 13 (upd (ar 13) u (bI false))) (n := u) hT rfl (fun _ => rfl) (fun m hm => ⟨rfl, rfl, rfl, rfl, rfl, upd_n9 hm, rfl⟩) ⟨(hT.2.1 u hu).1, (hT.2.1 u hu).2.1, (hT.2.1 u hu).2.2.1, (hT.2.1 u hu).2.2.2.1, (hT.2.1 u hu).2.2.2.2.1, (show nI t_6 = bI false by rcases (show t_6 = 0 ∨ t_6 = 1 by omega) with z | z <;> first | (rw [z]; rfl) | exact absurd (by rw [z]; rfl) hnow).trans upd_s9.symm, (hT.2.1 u hu).2.2.2.2.2.2⟩
        have hE := act_end hI3 hRF1 hK.rf (hRF1.mono (fun a x h => hI3.F0 h)) hT' hA' hg rfl
        refine m_iload C dL_act_960 0 rfl ?_
        refine m_icmp_ne (tgt := 969) C dL_act_962 (by decide) (fun h_8 => ?_) (fun h_8 => ?_)
        · exact absurd h_8 (by decide)
        · refine m_iconst (v := 1) C dL_act_965 (by decide) ?_
          refine m_goto (tgt := 970) C dL_act_966 (by decide) ?_
          exact m_zret C (Nat.le_of_ble_eq_true rfl) (Nat.le_of_ble_eq_true rfl) dL_act_970 (Or.inr rfl) ⟨rfl, hE⟩
    · have hnow := h_7
      refine m_iconst (v := 1) C dL_act_952 (by decide) ?_
      refine m_goto (tgt := 957) C dL_act_953 (by decide) ?_
      obtain ⟨F1, hI1, hRF1⟩ := hI.hand hRF hk hR1
      have hk0 : k_setMask cm ar (nI u) = 0 := mask_0 hw hu hu0
      obtain ⟨mf0, hme⟩ := hI1.me
      refine m_callVXiH (As := [.int (nI u), .int 1]) (st := []) C hme rfl (c_X7_setMask D A l hst hI1 hw hb hP.2.2 (h := true)) (cwV 2 C.1.2.2.2.2 gL_act_X7_setMask rfl rfl rfl (by decide +kernel) ⟨Nat.le_of_ble_eq_true rfl, Nat.le_of_ble_eq_true rfl⟩) rfl rfl (Nat.le_of_ble_eq_true rfl) dL_act_957 ⟨Nat.le_of_ble_eq_true rfl, Nat.le_of_ble_eq_true rfl⟩ (fun E M9 hx => ?_) (fun r M3 hp => ?_)
      · rcases hx.2 with ⟨h9, -⟩ | ⟨h9, -⟩ <;> exact absurd (hk0.symm.trans h9) (by decide)
      · obtain ⟨-, hr, hI3⟩ := hp
        rw [jN_at (show u < 2 ^ 31 by omega)] at hr
        rw [hwas] at hr
        subst hr
        have es : s_setMask ar (nI u) true = upA ar 13 (upd (ar 13) u (bI true)) := by unfold s_setMask; rw [jN_at (show u < 2 ^ 31 by omega)]
        have hA' : AB (s_setMask ar (nI u) true) cm := ⟨lP_setMask hP hk0, PB_same hB rfl rfl rfl⟩
        have hT' : hTT (s_setMask ar (nI u) true) cm nr (upA B u (upd (B u) 7 (nI t_6))) K := by
          rw [es]
          exact T_set (ar' := upA ar 13 (upd (ar 13) u (bI true))) (n := u) hT rfl (fun _ => rfl) (fun m hm => ⟨rfl, rfl, rfl, rfl, rfl, upd_n9 hm, rfl⟩) ⟨(hT.2.1 u hu).1, (hT.2.1 u hu).2.1, (hT.2.1 u hu).2.2.1, (hT.2.1 u hu).2.2.2.1, (hT.2.1 u hu).2.2.2.2.1, hnow.trans upd_s9.symm, (hT.2.1 u hu).2.2.2.2.2.2⟩
        have hE := act_end hI3 hRF1 hK.rf (hRF1.mono (fun a x h => hI3.F0 h)) hT' hA' hg rfl
        refine m_iload C dL_act_960 0 rfl ?_
        refine m_icmp_ne (tgt := 969) C dL_act_962 (by decide) (fun h_9 => ?_) (fun h_9 => ?_)
        · exact absurd h_9 (by decide)
        · refine m_iconst (v := 1) C dL_act_965 (by decide) ?_
          refine m_goto (tgt := 970) C dL_act_966 (by decide) ?_
          exact m_zret C (Nat.le_of_ble_eq_true rfl) (Nat.le_of_ble_eq_true rfl) dL_act_970 (Or.inr rfl) ⟨rfl, hE⟩
set_option maxHeartbeats 4000000 in
set_option maxRecDepth 100000 in
theorem act_12 {p : Program} {l : Launch} {e : Env} {s : State} {m : MethodId} {args : Array Value} {below : List Frame} {meth : Method} {c : Code} {D : mD} {A : Nat → Prop} {Z : Nat → Nat} {o cm : Nat} {g : Int32} {ar : rA} {F M : Mm} {qn qc qp : Nat} {nr cr : Nat → Option Nat} {B : Nat → Nat → Int32} {K : Nat → List Nat} (hst : l.stackTraces = false) (hI : cI D Z F cm g ar M) (hRF : hW D o qn qc qp nr cr cm g B K F) (hT : hTT ar cm nr B K) (hP : lP cm ar) (hB : PB ar) (hg : ∃ b, b ≤ 255 ∧ g = nI b) {u n an a0 b0 : Nat} {x w : Int32} (hu : cP ar cm u) (hu0 : ar 3 u = 0) (hn : cP ar cm n) (han : nr n = some an) (ha0 : a0 < 70) (hb0 : b0 < 55) (C : mC p m meth c cL_act 21 s args wsL_act yL_act.cls D A yL_act (some .boolean)) (i8 : ∀ w ∈ wsX80, w ∈ wsL_act) : mV p l e ({ frames := 45, cells := 110, slots := 3200, locals := 1750 } : Room) s m args below meth c 21 D A (MQ below (va_Qi (fun r M' => r = 1 ∧ hAA D (Z 0) o M') (mB D A) A) args s 110 3200 A) M 0 0 [(8, .int (nI b0 - 5)), (7, .int (nI a0 - 5)), (6, .ref an), (5, .int (nI n)), (4, .int (nI u)), (3, .int w), (2, .int x), (1, .ref o), (0, .ref (Z 0))] [] 971 := by
  have hw : wf ar cm := hP.1
  have hb : BD ar cm := hP.2.1
  have hR : hW D o qn qc qp nr cr cm g B K M := hRF.mono (fun a x h => hI.F0 h)
  have hu4 := cP_40 hw hu
  have hn4 := cP_40 hw hn
  have hEnd : hAA D (Z 0) o M := ⟨Z, cm, g, ar, rfl, ⟨F, qn, qc, qp, nr, cr, B, K, hI, hRF, hT⟩, ⟨hP, hB⟩, hg⟩
  refine m_aload_n C dL_act_971 rfl 7 rfl ?_
  refine m_get (ref := "PaintLayersLaw$Hand") C hR.1 rfl i8 3 (by decide) (by decide +kernel) (fun x h => h) (v := .int g) rfl dL_act_972 ?_
  refine m_istore (L' := [(20, .int g), (8, .int (nI b0 - 5)), (7, .int (nI a0 - 5)), (6, .ref an), (5, .int (nI n)), (4, .int (nI u)), (3, .int w), (2, .int x), (1, .ref o), (0, .ref (Z 0))]) C dL_act_975 (by decide) rfl ?_
  refine m_aload_n C dL_act_977 rfl 8 rfl ?_
  refine m_iload_n C dL_act_978 rfl 7 rfl ?_
  refine m_bipush (v := 8) C dL_act_979 (by decide) ?_
  refine m_ishr C dL_act_981 ?_
  refine m_sipush (v := 256) C dL_act_982 (by decide) ?_
  refine m_callSFi (As := [.int (x >>> (8 &&& 31)), .int 256]) (st := [.ref o]) (v := nI (q_bl (x >>> (8 &&& 31)) 256)) C (c_L_below D A l (v := x >>> (8 &&& 31)) (N := 256) (by decide) (by decide)) (va_cwS 2 C.1.2.2.2.2 gL_act_L_below rfl rfl rfl (by decide +kernel) ⟨Nat.le_of_ble_eq_true rfl, Nat.le_of_ble_eq_true rfl⟩) rfl rfl (Nat.le_of_ble_eq_true rfl) dL_act_985 ⟨Nat.le_of_ble_eq_true rfl, Nat.le_of_ble_eq_true rfl⟩ ?_
  obtain ⟨t_1, lt_1, et_1⟩ : ∃ z, z < 256 ∧ q_bl (x >>> (8 &&& 31)) 256 = z := ⟨_, q_bl_lt (by decide), rfl⟩
  rw [et_1]
  refine m_put (ref := "PaintLayersLaw$Hand") C hR.1 rfl i8 tyX8 tyX8_ok nmX8 3 (by decide) (by decide +kernel) (fun x h => h) rfl rfl rfl (Nat.le_of_ble_eq_true rfl) (e' := .inr (10, [.ref qn, .ref qc, .int (nI cm), .int (nI t_1), .ref qp])) rfl dL_act_988 ?_
  have hR1 := hR.sets cm (nI t_1)
  have hk := (hK.rf (o := o) (qn := qn) (qc := qc) (nr := nr) (cr := cr) (M := M)).up (a := o) (e := .inr (10, [.ref qn, .ref qc, .int (nI cm), .int (nI t_1), .ref qp])) (Or.inl rfl)
  revert hR1 hk
  generalize m_up M o (.inr (10, [.ref qn, .ref qc, .int (nI cm), .int (nI t_1), .ref qp])) = M1
  intro hR1 hk
  refine m_aload_n C dL_act_991 rfl 9 rfl ?_
  refine m_aload_n C dL_act_992 rfl 8 rfl ?_
  refine m_get (ref := "PaintLayersLaw$Hand") C hR1.1 rfl i8 3 (by decide) (by decide +kernel) (fun x h => h) (v := .int (nI t_1)) rfl dL_act_993 ?_
  obtain ⟨F1, hI1, hRF1⟩ := hI.hand hRF hk hR1
  have hk0 : k_setGround (nI t_1) = 0 := ground_0 lt_1
  obtain ⟨mf0, hme⟩ := hI1.me
  refine m_callVXiH (As := [.int (nI t_1)]) (st := []) C hme rfl (c_X7_setGround D A l hst hI1 hw hb) (cwV 1 C.1.2.2.2.2 gL_act_X7_setGround rfl rfl rfl (by decide +kernel) ⟨Nat.le_of_ble_eq_true rfl, Nat.le_of_ble_eq_true rfl⟩) rfl rfl (Nat.le_of_ble_eq_true rfl) dL_act_996 ⟨Nat.le_of_ble_eq_true rfl, Nat.le_of_ble_eq_true rfl⟩ (fun E M9 hx => ?_) (fun r M3 hp => ?_)
  · exact absurd (hk0.symm.trans hx.2.1) (by decide)
  · obtain ⟨-, hr, hI3⟩ := hp
    rw [hr]
    have hE := act_end hI3 hRF1 hK.rf (hRF1.mono (fun a x h => hI3.F0 h)) hT ⟨hP, hB⟩ ⟨t_1, by omega, rfl⟩ rfl
    refine m_iload C dL_act_999 0 rfl ?_
    refine m_icmp_ne (tgt := 1008) C dL_act_1001 (by decide) (fun h_2 => ?_) (fun h_2 => ?_)
    · exact absurd rfl h_2
    · refine m_iconst (v := 1) C dL_act_1004 (by decide) ?_
      refine m_goto (tgt := 1009) C dL_act_1005 (by decide) ?_
      exact m_zret C (Nat.le_of_ble_eq_true rfl) (Nat.le_of_ble_eq_true rfl) dL_act_1009 (Or.inr rfl) ⟨rfl, hE⟩
