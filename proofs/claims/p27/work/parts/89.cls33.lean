/-! ===== the class: remove and move ===== -/
theorem nI_nz9 {j : Nat} (hj : j < 2 ^ 31) (h0 : j ≠ 0) : ¬ nI j = 0 := fun z => h0 (by
  have := congrArg Int32.toNatClampNeg z
  rw [nI_clamp hj] at this
  exact this)
set_option maxHeartbeats 4000000 in
set_option maxRecDepth 100000 in
theorem lp_X7_remove {p : Program} {l : Launch} {e : Env} {s : State} {m : MethodId} {args : Array Value} {below : List Frame} {meth : Method} {c : Code} {Q : State → Prop} {D : mD} {A : Nat → Prop} {Z : Nat → Nat} {F : Mm} {cm : Nat} {g : Int32} {ar : rA} {fi : Nat → Nat → Int32} {nl : Nat → Nat → Int64} {L : List Nat} {rw : Nat → Int32} (hw : wf ar cm) (hcm : cm ≤ 40) {j : Nat} (hj : cP ar cm j) (i_X7 : ∀ w ∈ wsX70, w ∈ wsX7_remove) (i_X3 : ∀ w ∈ wsX30, w ∈ wsX7_remove) (C : mC p m meth c cX7_remove 6 s args wsX7_remove yX7_remove.cls D A yX7_remove (some .int)) (kx : ∀ M : Mm, cW D Z (cP ar cm) (nF Z ar fi nl) (lsF ar L) (naR Z cm ar j 40) (ar 16) rw (mfF Z cm g) F M → mV p l e ({ frames := 9, cells := 42, slots := 2412, locals := 760 } : Room) s m args below meth c 6 D A Q M 2 12 [(4, .int (nI (cB (gB ar cm j) 40))), (3, .ref (Z (100 + par9 ar j))), (2, .ref (Z (100 + j))), (0, .ref (Z 0))] [] 69) : ∀ (N : Nat) (i9 : Nat) (M : Mm), 40 - i9 = N → (i9 ≤ 40) → (cW D Z (cP ar cm) (nF Z ar fi nl) (lsF ar L) (naR Z cm ar j i9) (ar 16) rw (mfF Z cm g) F M) → mV p l e ({ frames := 9, cells := 42, slots := 2412, locals := 760 } : Room) s m args below meth c 6 D A Q M 2 12 [(5, .int (nI i9)), (4, .int (nI (cB (gB ar cm j) i9))), (3, .ref (Z (100 + par9 ar j))), (2, .ref (Z (100 + j))), (0, .ref (Z 0))] [] 31 := by
  intro N
  induction N using Nat.strongRecOn with
  | _ N ih =>
    intro i9 M hN hk hR
    have hle := cB_le (gB ar cm j) i9
    refine m_iload C dX7_remove_31 0 rfl ?_
    refine m_bipush (v := 40) C dX7_remove_33 (by decide) ?_
    refine m_icmp_ge (tgt := 69) C dX7_remove_35 (by decide) (fun h_1 => ?_) (fun h_1 => ?_)
    · refine m_sub (L' := [(4, .int (nI (cB (gB ar cm j) i9))), (3, .ref (Z (100 + par9 ar j))), (2, .ref (Z (100 + j))), (0, .ref (Z 0))]) [1, 2, 3, 4] rfl ?_
      have hkm : i9 = 40 := by
        have := (nI_leI (a := 40) (b := i9) (by omega) (by omega)).mp h_1
        omega
      subst hkm
      exact kx M hR
    · have hkm : i9 < 40 := by
        rcases Nat.lt_or_ge i9 40 with z | z
        · exact z
        · exact absurd (nI_le (a := 40) (b := i9) z (by omega)) h_1
      refine m_aload_n C dX7_remove_38 rfl 4 rfl ?_
      refine m_get (ref := "PaintLayers") C hR.me rfl i_X7 0 (by decide) (by decide +kernel) (fun x h => h) (v := .ref (Z 1)) rfl dX7_remove_39 ?_
      refine m_iload C dX7_remove_42 0 rfl ?_
      refine m_aald C hR.gna 2 rfl (vp_in_nI hkm (by omega)) dX7_remove_44 ?_
      rw [nI_clamp (show i9 < 2 ^ 31 by omega), naR_at]
      by_cases hjp : cP ar cm i9
      · rw [show naF Z cm ar i9 = some (Z (100 + i9)) from if_pos hjp]
        refine m_aload_n C dX7_remove_45 rfl 3 rfl ?_
        refine m_callSFi (As := [.ref (Z (100 + i9)), .ref (Z (100 + j))]) (st := []) (v := bI (decide (j ∈ chn ar i9))) C (c_X7_isWithin_w D A l hR hcm hw hjp hj) (va_cwS 2 C.1.2.2.2.2 gX7_remove_X7_isWithin rfl rfl rfl (by decide +kernel) ⟨Nat.le_of_ble_eq_true rfl, Nat.le_of_ble_eq_true rfl⟩) rfl rfl (Nat.le_of_ble_eq_true rfl) dX7_remove_46 ⟨Nat.le_of_ble_eq_true rfl, Nat.le_of_ble_eq_true rfl⟩ ?_
        refine m_if_eq (tgt := 63) C dX7_remove_49 (by decide) (fun hz_2 => ?_) (fun hz_2 => ?_)
        · have hz_2 := bI_z hz_2
          have hg : gB ar cm j i9 = false := by cases hz : gB ar cm j i9 with | false => rfl | true => exact absurd (gB_t.mp hz).2 (of_decide_eq_false hz_2)
          rw [← naR_n hg] at hR
          rw [show cB (gB ar cm j) i9 = cB (gB ar cm j) (i9 + 1) by rw [cB, hg]; rfl]
          obtain ⟨x_3, ex_3⟩ : ∃ z : Int32, z = nI i9 + 1 := ⟨_, rfl⟩
          refine m_iinc (q := 0) (v := x_3) (L' := [(5, .int x_3), (4, .int (nI (cB (gB ar cm j) (i9 + 1)))), (3, .ref (Z (100 + par9 ar j))), (2, .ref (Z (100 + j))), (0, .ref (Z 0))]) C dX7_remove_63 rfl (by rw [ex_3]; rfl) (by decide) rfl ?_
          refine m_goto (tgt := 31) C dX7_remove_66 (by decide) ?_
          rw [nI_1] at ex_3
          subst ex_3
          refine m_sub (L' := [(5, .int (nI (i9 + 1))), (4, .int (nI (cB (gB ar cm j) (i9 + 1)))), (3, .ref (Z (100 + par9 ar j))), (2, .ref (Z (100 + j))), (0, .ref (Z 0))]) [0, 1, 2, 3, 4] rfl ?_
          exact ih (40 - (i9 + 1)) (by omega) (i9 + 1) M rfl (by omega) hR
        · have hz_2 := bI_n hz_2
          have hg : gB ar cm j i9 = true := gB_t.mpr ⟨hjp, of_decide_eq_true hz_2⟩
          refine m_aload_n C dX7_remove_52 rfl 4 rfl ?_
          refine m_get (ref := "PaintLayers") C hR.me rfl i_X7 0 (by decide) (by decide +kernel) (fun x h => h) (v := .ref (Z 1)) rfl dX7_remove_53 ?_
          refine m_iload C dX7_remove_56 0 rfl ?_
          refine m_null C dX7_remove_58 ?_
          refine m_aastN C hR.gna 2 rfl (vp_in_nI hkm (by omega)) dX7_remove_59 ?_
          rw [nI_clamp (show i9 < 2 ^ 31 by omega), naR_s hg]
          have hR9 := hR.sna (naR Z cm ar j (i9 + 1))
          revert hR9
          generalize m_up M _ _ = M
          intro hR
          obtain ⟨x_4, ex_4⟩ : ∃ z : Int32, z = nI (cB (gB ar cm j) i9) + 1 := ⟨_, rfl⟩
          refine m_iinc (q := 1) (v := x_4) (L' := [(4, .int x_4), (5, .int (nI i9)), (3, .ref (Z (100 + par9 ar j))), (2, .ref (Z (100 + j))), (0, .ref (Z 0))]) C dX7_remove_60 rfl (by rw [ex_4]; rfl) (by decide) rfl ?_
          have hcb : cB (gB ar cm j) (i9 + 1) = cB (gB ar cm j) i9 + 1 := by rw [cB, hg]; rfl
          rw [nI_1, ← hcb] at ex_4
          subst ex_4
          obtain ⟨x_5, ex_5⟩ : ∃ z : Int32, z = nI i9 + 1 := ⟨_, rfl⟩
          refine m_iinc (q := 1) (v := x_5) (L' := [(5, .int x_5), (4, .int (nI (cB (gB ar cm j) (i9 + 1)))), (3, .ref (Z (100 + par9 ar j))), (2, .ref (Z (100 + j))), (0, .ref (Z 0))]) C dX7_remove_63 rfl (by rw [ex_5]; rfl) (by decide) rfl ?_
          refine m_goto (tgt := 31) C dX7_remove_66 (by decide) ?_
          rw [nI_1] at ex_5
          subst ex_5
          refine m_sub (L' := [(5, .int (nI (i9 + 1))), (4, .int (nI (cB (gB ar cm j) (i9 + 1)))), (3, .ref (Z (100 + par9 ar j))), (2, .ref (Z (100 + j))), (0, .ref (Z 0))]) [0, 1, 2, 3, 4] rfl ?_
          exact ih (40 - (i9 + 1)) (by omega) (i9 + 1) M rfl (by omega) hR
      · rw [show naF Z cm ar i9 = none from if_neg hjp]
        refine m_aload_n C dX7_remove_45 rfl 3 rfl ?_
        refine m_callSFi (As := [.null, .ref (Z (100 + j))]) (st := []) (v := bI false) C (c_X7_isWithin_n D A l) (va_cwS 2 C.1.2.2.2.2 gX7_remove_X7_isWithin rfl rfl rfl (by decide +kernel) ⟨Nat.le_of_ble_eq_true rfl, Nat.le_of_ble_eq_true rfl⟩) rfl rfl (Nat.le_of_ble_eq_true rfl) dX7_remove_46 ⟨Nat.le_of_ble_eq_true rfl, Nat.le_of_ble_eq_true rfl⟩ ?_
        refine m_if_eq (tgt := 63) C dX7_remove_49 (by decide) (fun hz_6 => ?_) (fun hz_6 => ?_)
        · have hz_6 := bI_z hz_6
          have hg : gB ar cm j i9 = false := by cases hz : gB ar cm j i9 with | false => rfl | true => exact absurd (gB_t.mp hz).1 hjp
          rw [← naR_n hg] at hR
          rw [show cB (gB ar cm j) i9 = cB (gB ar cm j) (i9 + 1) by rw [cB, hg]; rfl]
          obtain ⟨x_7, ex_7⟩ : ∃ z : Int32, z = nI i9 + 1 := ⟨_, rfl⟩
          refine m_iinc (q := 0) (v := x_7) (L' := [(5, .int x_7), (4, .int (nI (cB (gB ar cm j) (i9 + 1)))), (3, .ref (Z (100 + par9 ar j))), (2, .ref (Z (100 + j))), (0, .ref (Z 0))]) C dX7_remove_63 rfl (by rw [ex_7]; rfl) (by decide) rfl ?_
          refine m_goto (tgt := 31) C dX7_remove_66 (by decide) ?_
          rw [nI_1] at ex_7
          subst ex_7
          refine m_sub (L' := [(5, .int (nI (i9 + 1))), (4, .int (nI (cB (gB ar cm j) (i9 + 1)))), (3, .ref (Z (100 + par9 ar j))), (2, .ref (Z (100 + j))), (0, .ref (Z 0))]) [0, 1, 2, 3, 4] rfl ?_
          exact ih (40 - (i9 + 1)) (by omega) (i9 + 1) M rfl (by omega) hR
        · have hz_6 := bI_n hz_6
          cases hz_6
set_option maxHeartbeats 4000000 in
set_option maxRecDepth 100000 in
theorem c_X7_remove (D : mD) (A : Nat → Prop) (l : Launch) (hst : l.stackTraces = false) {Z : Nat → Nat} {F : Mm} {cm : Nat} {g : Int32} {ar : rA} {M : Mm} (hI : cI D Z F cm g ar M) (hw : wf ar cm) (hb : BD ar cm) {v : Int32} : mXi D A l yX7_remove wsX7_remove ({ frames := 9, cells := 42, slots := 2412, locals := 760 } : Room) [.ref (Z 0), .int v] M (fun r M' => k_remove cm ar v = 0 ∧ r = nI (pre9 ar (jN v)).length ∧ cI D Z F cm g (s_remove ar v) M') (fun E M' => cI D Z F cm g ar M' ∧ ((k_remove cm ar v = 1 ∧ E = xIO) ∨ (k_remove cm ar v = 2 ∧ E = xIS))) 42 2412 := by
  refine m_startX (cc := cX7_remove) (maxL := 6) (ret := (some .int)) (by decide) rfl (Nat.le_of_ble_eq_true rfl) ?_
  intro p e s m args below meth c C hE
  have i_X7 : ∀ w ∈ wsX70, w ∈ wsX7_remove := by decide +kernel
  have i_X3 : ∀ w ∈ wsX30, w ∈ wsX7_remove := by decide +kernel
  refine m_sub (L' := [(0, .ref (Z 0)), (1, .int v)]) [0, 1] rfl ?_
  have hcm := hw.1.2
  have hI9 := hI
  obtain ⟨fi, nl, rw, hfv, hR⟩ := hI9
  refine m_aload_n C dX7_remove_0 rfl 0 rfl ?_
  refine m_iload_n C dX7_remove_1 rfl 1 rfl ?_
  refine m_callVXq (As := [.int v]) (st := []) C hR.me rfl (c_X7_find D A l hst hR hcm) (cwV 1 C.1.2.2.2.2 gX7_remove_X7_find rfl rfl rfl (by decide +kernel) ⟨Nat.le_of_ble_eq_true rfl, Nat.le_of_ble_eq_true rfl⟩) rfl rfl (Nat.le_of_ble_eq_true rfl) dX7_remove_2 ⟨Nat.le_of_ble_eq_true rfl, Nat.le_of_ble_eq_true rfl⟩ hE (fun E M9 z9 => ⟨by rw [z9.2.1]; exact hI, Or.inl (⟨by unfold k_remove; rw [if_pos z9.2.2], z9.1⟩)⟩) (Nat.le_of_ble_eq_true rfl) (Nat.le_of_ble_eq_true rfl) (fun r9 M9 hq9 => ?_)
  obtain ⟨e9, j, rfl, hj, rfl⟩ := hq9
  subst e9
  rename Mm => M
  have qj := q_node_t hcm hj
  have cj : jN (nI j) = j := nI_clamp (by have := hj.1; omega)
  refine m_astore_n (L' := [(2, .ref (Z (100 + j))), (0, .ref (Z 0)), (1, .int (nI j))]) C dX7_remove_5 rfl (by decide) rfl ?_
  refine m_aload_n C dX7_remove_6 rfl 0 rfl ?_
  refine m_get (ref := "PaintLayers$Node") C (hR.nd hj) rfl i_X3 3 (by decide) (by decide +kernel) (fun x h => h) (v := va_rf (nPa Z ar j)) rfl dX7_remove_7 ?_
  by_cases h0 : j = 0
  · rw [show nPa Z ar j = none from if_pos h0]
    refine m_astore_nq (x := none) (L' := [(3, .null), (2, .ref (Z (100 + j))), (0, .ref (Z 0)), (1, .int (nI j))]) C dX7_remove_10 rfl (by decide) rfl ?_
    refine m_aload_nq (x := none) C dX7_remove_11 rfl 0 rfl ?_
    refine m_ifnonnull (x := none) (tgt := 25) C dX7_remove_12 (by decide) (fun q h => absurd h (by simp)) (fun _ => ?_)
    exact m_throwS (E := xIS) (text := "the root stays") C hst hE (by decide) (by decide +kernel) (by decide +kernel) (by decide +kernel) (by decide) (by decide +kernel) (by decide +kernel) (by decide +kernel) dX7_remove_15 dX7_remove_18 dX7_remove_19 dX7_remove_21 dX7_remove_24 (Nat.le_of_ble_eq_true rfl) (Nat.le_of_ble_eq_true rfl) (Nat.le_of_ble_eq_true rfl) (Nat.le_of_ble_eq_true rfl) (Nat.le_of_ble_eq_true rfl) (Nat.le_of_ble_eq_true rfl) (⟨hI, Or.inr (⟨by unfold k_remove; rw [qj, if_neg (by decide), if_pos (by rw [h0]; rfl)], rfl⟩)⟩)
  · have hpP : cP ar cm (par9 ar j) := (wf_chp hw hj.1 hj.2 h0).2
    have hk0 : k_remove cm ar (nI j) = 0 := by unfold k_remove; rw [qj, if_neg (by decide), if_neg (nI_nz9 (by have := hj.1; omega) h0)]
    rw [show nPa Z ar j = some (Z (100 + par9 ar j)) from if_neg h0]
    refine m_astore_n (L' := [(3, .ref (Z (100 + par9 ar j))), (2, .ref (Z (100 + j))), (0, .ref (Z 0)), (1, .int (nI j))]) C dX7_remove_10 rfl (by decide) rfl ?_
    refine m_aload_n C dX7_remove_11 rfl 0 rfl ?_
    refine m_ifnonnull (x := some (Z (100 + par9 ar j))) (tgt := 25) C dX7_remove_12 (by decide) (fun _ _ => ?_) (fun h => absurd h (by simp))
    refine m_iconst (v := 0) C dX7_remove_25 (by decide) ?_
    refine m_istore (L' := [(4, .int 0), (3, .ref (Z (100 + par9 ar j))), (2, .ref (Z (100 + j))), (0, .ref (Z 0)), (1, .int (nI j))]) C dX7_remove_26 (by decide) rfl ?_
    refine m_iconst (v := 0) C dX7_remove_28 (by decide) ?_
    refine m_istore (L' := [(5, .int 0), (4, .int 0), (3, .ref (Z (100 + par9 ar j))), (2, .ref (Z (100 + j))), (0, .ref (Z 0)), (1, .int (nI j))]) C dX7_remove_29 (by decide) rfl ?_
    refine m_sub (L' := [(5, .int 0), (4, .int 0), (3, .ref (Z (100 + par9 ar j))), (2, .ref (Z (100 + j))), (0, .ref (Z 0))]) [0, 1, 2, 3, 4] rfl ?_
    refine m_widen (k' := 2) (n' := 12) (Nat.le_of_ble_eq_true rfl) (Nat.le_of_ble_eq_true rfl) ?_
    refine lp_X7_remove hw hcm hj i_X7 i_X3 C (fun M8 hR8 => ?_) _ 0 M rfl (Nat.zero_le _) (by rw [naR_0]; exact hR.1)
    obtain ⟨hP2, hw2, hk2⟩ := wf_remove hw hj h0
    refine m_aload_n C dX7_remove_69 rfl 1 rfl ?_
    refine m_aload_n C dX7_remove_70 rfl 2 rfl ?_
    refine m_callSi (As := [.ref (Z (100 + par9 ar j)), .ref (Z (100 + j))]) (st := []) C (c_X7_takeOut D A l hR8 hcm hw hj h0 hpP (if_neg (by have := hpP.1; omega))) (va_cwS 2 C.1.2.2.2.2 gX7_remove_X7_takeOut rfl rfl rfl (by decide +kernel) ⟨Nat.le_of_ble_eq_true rfl, Nat.le_of_ble_eq_true rfl⟩) rfl rfl (Nat.le_of_ble_eq_true rfl) dX7_remove_71 ⟨Nat.le_of_ble_eq_true rfl, Nat.le_of_ble_eq_true rfl⟩ (fun r2 M2 hq2 => ?_)
    obtain ⟨hr2, hR2⟩ := hq2
    refine m_pop C dX7_remove_74 rfl ?_
    refine m_aload_n C dX7_remove_75 rfl 3 rfl ?_
    have hR0 := cR.of_remove hw hj h0 hR2 hR.2
    refine m_callVv (As := []) (st := []) C hR0.me rfl (c_X7_settle D A l hw2 hR0) (cwV 0 C.1.2.2.2.2 gX7_remove_X7_settle rfl rfl rfl (by decide +kernel) ⟨Nat.le_of_ble_eq_true rfl, Nat.le_of_ble_eq_true rfl⟩) rfl rfl (Nat.le_of_ble_eq_true rfl) dX7_remove_76 ⟨Nat.le_of_ble_eq_true rfl, Nat.le_of_ble_eq_true rfl⟩ (fun M9 hq9 => ?_)
    obtain ⟨fi9, hfv9, hR9⟩ := hq9
    refine m_iload C dX7_remove_79 0 rfl ?_
    exact m_iretX C (Nat.le_of_ble_eq_true rfl) (Nat.le_of_ble_eq_true rfl) dX7_remove_81 (⟨hk0, by rw [cj, gone_n hw hj], fi9, nl, rw, hfv9, hR9⟩)
theorem mv_k {cm : Nat} {ar : rA} {v q : Nat} {pl : Int32} (hw : wf ar cm) (hv : cP ar cm v) (h0 : v ≠ 0) (hq : cP ar cm q) {N : Nat} (hN : N = (KO ar v q).length) : q_in pl 0 (ar 5 q - (if ar 4 v = nI q then 1 else 0)) = q_in pl 0 (nI N) := by
  have h40 := hw.1.2
  have hq1 := hq.1
  obtain ⟨m, m1, m2, m3, -, -⟩ := wf_mny hw hq.1 hq.2
  have h4 := (kids_plc hw hv h0).2.2.2.2
  have hp1 := (kids_plc hw hv h0).2.2.1.1
  rw [hN, KO_len hw hv h0 hq, m1]
  by_cases z : par9 ar v = q
  · have hm : 1 ≤ m := by
      have := (kids_plc hw hv h0).2.1
      rw [z, kids_len, m1] at this
      omega
    rw [if_pos z, if_pos (by rw [h4, z]), m3, show (1 : Int32) = nI 1 from rfl, pk_sub hm]
  · rw [if_neg z, if_neg (fun y => z (by rw [h4] at y; exact (nI_eq (by omega) (by omega)).mp y)), m3, Int32.sub_zero]
theorem mv_in {pl : Int32} {N : Nat} (hN : N < 2 ^ 31) (h : q_in pl 0 (nI N) = true) : ∃ p : Nat, p ≤ N ∧ pl = nI p := q_in_N hN h
set_option maxHeartbeats 4000000 in
set_option maxRecDepth 100000 in
theorem c_X7_move (D : mD) (A : Nat → Prop) (l : Launch) (hst : l.stackTraces = false) {Z : Nat → Nat} {F : Mm} {cm : Nat} {g : Int32} {ar : rA} {M : Mm} (hI : cI D Z F cm g ar M) (hw : wf ar cm) (hb : BD ar cm) {v b pl : Int32} : mXi D A l yX7_move wsX7_move ({ frames := 9, cells := 46, slots := 2500, locals := 800 } : Room) [.ref (Z 0), .int v, .int b, .int pl] M (fun r M' => k_move cm ar v b pl = 0 ∧ r = nI (plc ar (jN v)) ∧ cI D Z F cm g (s_move ar v b pl) M') (fun E M' => cI D Z F cm g ar M' ∧ ((k_move cm ar v b pl = 1 ∧ E = xIO) ∨ (k_move cm ar v b pl = 2 ∧ E = xIS))) 46 2500 := by
  refine m_startX (cc := cX7_move) (maxL := 9) (ret := (some .int)) (by decide) rfl (Nat.le_of_ble_eq_true rfl) ?_
  intro p e s m args below meth c C hE
  have i_X7 : ∀ w ∈ wsX70, w ∈ wsX7_move := by decide +kernel
  have i_X3 : ∀ w ∈ wsX30, w ∈ wsX7_move := by decide +kernel
  have iL : ∀ w ∈ wsJx4a65c0, w ∈ wsX7_move := by decide +kernel
  refine m_sub (L' := [(0, .ref (Z 0)), (1, .int v), (2, .int b), (3, .int pl)]) [0, 1, 2, 3] rfl ?_
  have hcm := hw.1.2
  have hI9 := hI
  obtain ⟨fi, nl, rw, hfv, hR⟩ := hI9
  refine m_aload_n C dX7_move_0 rfl 0 rfl ?_
  refine m_iload_n C dX7_move_1 rfl 1 rfl ?_
  refine m_callVXq (As := [.int v]) (st := []) C hR.me rfl (c_X7_find D A l hst hR hcm) (cwV 1 C.1.2.2.2.2 gX7_move_X7_find rfl rfl rfl (by decide +kernel) ⟨Nat.le_of_ble_eq_true rfl, Nat.le_of_ble_eq_true rfl⟩) rfl rfl (Nat.le_of_ble_eq_true rfl) dX7_move_2 ⟨Nat.le_of_ble_eq_true rfl, Nat.le_of_ble_eq_true rfl⟩ hE (fun E M9 z9 => ⟨by rw [z9.2.1]; exact hI, Or.inl (⟨by unfold k_move; rw [z9.2.2, Bool.false_and]; rfl, z9.1⟩)⟩) (Nat.le_of_ble_eq_true rfl) (Nat.le_of_ble_eq_true rfl) (fun r9 M9 hq9 => ?_)
  obtain ⟨e9, j, rfl, hj, rfl⟩ := hq9
  subst e9
  rename Mm => M
  have qj := q_node_t hcm hj
  have cj : jN (nI j) = j := nI_clamp (by have := hj.1; omega)
  refine m_astore (L' := [(4, .ref (Z (100 + j))), (0, .ref (Z 0)), (1, .int (nI j)), (2, .int b), (3, .int pl)]) C dX7_move_5 (by decide) rfl ?_
  refine m_aload_n C dX7_move_7 rfl 1 rfl ?_
  refine m_iload_n C dX7_move_8 rfl 3 rfl ?_
  refine m_callVXq (As := [.int b]) (st := []) C hR.me rfl (c_X7_find D A l hst hR hcm) (cwV 1 C.1.2.2.2.2 gX7_move_X7_find rfl rfl rfl (by decide +kernel) ⟨Nat.le_of_ble_eq_true rfl, Nat.le_of_ble_eq_true rfl⟩) rfl rfl (Nat.le_of_ble_eq_true rfl) dX7_move_9 ⟨Nat.le_of_ble_eq_true rfl, Nat.le_of_ble_eq_true rfl⟩ hE (fun E M9 z9 => ⟨by rw [z9.2.1]; exact hI, Or.inl (⟨by unfold k_move; rw [z9.2.2, Bool.and_false]; rfl, z9.1⟩)⟩) (Nat.le_of_ble_eq_true rfl) (Nat.le_of_ble_eq_true rfl) (fun r9 M9 hq9 => ?_)
  obtain ⟨e9, i, rfl, hi, rfl⟩ := hq9
  subst e9
  rename Mm => M
  have qi := q_node_t hcm hi
  have ci : jN (nI i) = i := nI_clamp (by have := hi.1; omega)
  refine m_astore (L' := [(5, .ref (Z (100 + i))), (4, .ref (Z (100 + j))), (0, .ref (Z 0)), (1, .int (nI j)), (2, .int (nI i)), (3, .int pl)]) C dX7_move_12 (by decide) rfl ?_
  refine m_aload C dX7_move_14 1 rfl ?_
  refine m_get (ref := "PaintLayers$Node") C (hR.nd hj) rfl i_X3 3 (by decide) (by decide +kernel) (fun x h => h) (v := va_rf (nPa Z ar j)) rfl dX7_move_16 ?_
  by_cases h0 : j = 0
  · rw [show nPa Z ar j = none from if_pos h0]
    refine m_astoreq (x := none) (L' := [(6, .null), (5, .ref (Z (100 + i))), (4, .ref (Z (100 + j))), (0, .ref (Z 0)), (1, .int (nI j)), (2, .int (nI i)), (3, .int pl)]) C dX7_move_19 (by decide) rfl ?_
    refine m_aloadq (x := none) C dX7_move_21 0 rfl ?_
    refine m_ifnonnull (x := none) (tgt := 36) C dX7_move_23 (by decide) (fun q h => absurd h (by simp)) (fun _ => ?_)
    exact m_throwS (E := xIS) (text := "the root stays") C hst hE (by decide) (by decide +kernel) (by decide +kernel) (by decide +kernel) (by decide) (by decide +kernel) (by decide +kernel) (by decide +kernel) dX7_move_26 dX7_move_29 dX7_move_30 dX7_move_32 dX7_move_35 (Nat.le_of_ble_eq_true rfl) (Nat.le_of_ble_eq_true rfl) (Nat.le_of_ble_eq_true rfl) (Nat.le_of_ble_eq_true rfl) (Nat.le_of_ble_eq_true rfl) (Nat.le_of_ble_eq_true rfl) (⟨hI, Or.inr (⟨by unfold k_move; rw [qj, qi, if_neg (by decide), if_pos (Or.inl (by rw [h0]; rfl))], rfl⟩)⟩)
  · have hpP : cP ar cm (par9 ar j) := (wf_chp hw hj.1 hj.2 h0).2
    have hj1 := hj.1
    have hi1 := hi.1
    have hz0 : ¬ nI j = 0 := nI_nz9 (by omega) h0
    rw [show nPa Z ar j = some (Z (100 + par9 ar j)) from if_neg h0]
    refine m_astore (L' := [(6, .ref (Z (100 + par9 ar j))), (5, .ref (Z (100 + i))), (4, .ref (Z (100 + j))), (0, .ref (Z 0)), (1, .int (nI j)), (2, .int (nI i)), (3, .int pl)]) C dX7_move_19 (by decide) rfl ?_
    refine m_aload C dX7_move_21 0 rfl ?_
    refine m_ifnonnull (x := some (Z (100 + par9 ar j))) (tgt := 36) C dX7_move_23 (by decide) (fun _ _ => ?_) (fun h => absurd h (by simp))
    refine m_aload C dX7_move_36 1 rfl ?_
    refine m_get (ref := "PaintLayers$Node") C (hR.nd hi) rfl i_X3 1 (by decide) (by decide +kernel) (fun x h => h) (v := va_rf (nSh Z ar i)) rfl dX7_move_38 ?_
    by_cases h3 : ar 3 i = 0
    · rw [show nSh Z ar i = none from if_pos h3]
      refine m_ifnonnull (x := none) (tgt := 54) C dX7_move_41 (by decide) (fun q h => absurd h (by simp)) (fun _ => ?_)
      refine m_aload C dX7_move_44 1 rfl ?_
      refine m_aload C dX7_move_46 2 rfl ?_
      refine m_callSFi (As := [.ref (Z (100 + i)), .ref (Z (100 + j))]) (st := []) (v := bI (decide (j ∈ chn ar i))) C (c_X7_isWithin_w D A l hR.1 hcm hw hi hj) (va_cwS 2 C.1.2.2.2.2 gX7_move_X7_isWithin rfl rfl rfl (by decide +kernel) ⟨Nat.le_of_ble_eq_true rfl, Nat.le_of_ble_eq_true rfl⟩) rfl rfl (Nat.le_of_ble_eq_true rfl) dX7_move_48 ⟨Nat.le_of_ble_eq_true rfl, Nat.le_of_ble_eq_true rfl⟩ ?_
      refine m_if_eq (tgt := 64) C dX7_move_51 (by decide) (fun hz_1 => ?_) (fun hz_1 => ?_)
      · have hz_1 := bI_z hz_1
        have hch : j ∉ chn ar i := of_decide_eq_false hz_1
        have hl := KO_len hw hj h0 hi
        have hki := kids_le hw hi
        rw [kids_len] at hki
        obtain ⟨bq, capq, fq, mcq, h_k, hBq, hcq, h60q, hfq⟩ := hR.kd hcm hi
        refine m_aload C dX7_move_64 1 rfl ?_
        refine m_aload C dX7_move_66 0 rfl ?_
        refine m_acmp_ne (x := some (Z (100 + i))) (y := some (Z (100 + par9 ar j))) (tgt := 84) C dX7_move_68 (by decide) (fun h_2 => ?_) (fun h_2 => ?_)
        · have hij : ¬ par9 ar j = i := fun z => h_2 (by rw [z])
          refine m_aload C dX7_move_84 1 rfl ?_
          refine m_get (ref := "PaintLayers$Node") C (hR.nd hi) rfl i_X3 2 (by decide) (by decide +kernel) (fun x h => h) (v := .ref (Z (200 + i))) rfl dX7_move_86 ?_
          refine m_callVFi (As := []) (st := []) (v := nI (mny ar i)) C h_k rfl (c_Jx4a65c_size_8abf5 D A l h_k) (cwV 0 C.1.2.2.2.2 gX7_move_Jx4a65c_size_8abf5 rfl rfl rfl (by decide +kernel) ⟨Nat.le_of_ble_eq_true rfl, Nat.le_of_ble_eq_true rfl⟩) rfl rfl (Nat.le_of_ble_eq_true rfl) dX7_move_89 ⟨Nat.le_of_ble_eq_true rfl, Nat.le_of_ble_eq_true rfl⟩ ?_
          obtain ⟨N9, hN9⟩ : ∃ z : Nat, z = (KO ar j i).length := ⟨_, rfl⟩
          have hN39 : N9 ≤ 39 := by rw [hN9, hl]; split <;> omega
          refine m_i (y := nI N9) (by rw [hN9, hl, if_neg hij]) ?_
          have hkk := mv_k (pl := pl) hw hj h0 hi hN9
          refine m_istore (L' := [(7, .int (nI N9)), (6, .ref (Z (100 + par9 ar j))), (5, .ref (Z (100 + i))), (4, .ref (Z (100 + j))), (0, .ref (Z 0)), (1, .int (nI j)), (2, .int (nI i)), (3, .int pl)]) C dX7_move_92 (by decide) rfl ?_
          refine m_iload_n C dX7_move_94 rfl 7 rfl ?_
          refine m_if_lt (tgt := 104) C dX7_move_95 (by decide) (fun h_3 => ?_) (fun h_3 => ?_)
          · exact m_throwS (E := xIS) (text := "no such place") C hst hE (by decide) (by decide +kernel) (by decide +kernel) (by decide +kernel) (by decide) (by decide +kernel) (by decide +kernel) (by decide +kernel) dX7_move_104 dX7_move_107 dX7_move_108 dX7_move_110 dX7_move_113 (Nat.le_of_ble_eq_true rfl) (Nat.le_of_ble_eq_true rfl) (Nat.le_of_ble_eq_true rfl) (Nat.le_of_ble_eq_true rfl) (Nat.le_of_ble_eq_true rfl) (Nat.le_of_ble_eq_true rfl) (⟨hI, Or.inr (⟨by unfold k_move; rw [qj, qi, ci, cj, if_neg (by decide), if_pos (Or.inr (Or.inr (Or.inr (by rw [hkk]; simp [q_in, h_3, Int32.not_le.mpr h_3]))))], rfl⟩)⟩)
          · refine m_iload_n C dX7_move_98 rfl 7 rfl ?_
            refine m_iload C dX7_move_99 0 rfl ?_
            refine m_icmp_le (tgt := 114) C dX7_move_101 (by decide) (fun h_4 => ?_) (fun h_4 => ?_)
            · have hin : q_in pl 0 (nI N9) = true := by simp [q_in, Int32.not_lt.mp h_3, h_4]
              have hk0 : k_move cm ar (nI j) (nI i) pl = 0 := by
                unfold k_move
                rw [qj, qi, ci, cj, if_neg (by decide)]
                refine if_neg ?_
                rintro (z | z | z | z)
                · exact hz0 z
                · exact z h3
                · exact hch z
                · rw [hkk, hin] at z; cases z
              obtain ⟨p9, hp9, rfl⟩ := mv_in (by omega) hin
              have hplN : p9 ≤ (KO ar j i).length := by rw [← hN9]; exact hp9
              obtain ⟨hP2, hw2, hk2⟩ := wf_move hw hj h0 hi h3 hch hplN
              refine m_aload C dX7_move_114 1 rfl ?_
              refine m_aload C dX7_move_116 3 rfl ?_
              refine m_callSi (As := [.ref (Z (100 + par9 ar j)), .ref (Z (100 + j))]) (st := []) C (c_X7_takeOut D A l hR.1 hcm hw hj h0 hpP (if_neg (by have := hpP.1; omega))) (va_cwS 2 C.1.2.2.2.2 gX7_move_X7_takeOut rfl rfl rfl (by decide +kernel) ⟨Nat.le_of_ble_eq_true rfl, Nat.le_of_ble_eq_true rfl⟩) rfl rfl (Nat.le_of_ble_eq_true rfl) dX7_move_118 ⟨Nat.le_of_ble_eq_true rfl, Nat.le_of_ble_eq_true rfl⟩ (fun r2 M2 hq2 => ?_)
              obtain ⟨hr2, hR2⟩ := hq2
              have hlsq : (upA (lsF ar (pre9 ar 0)) (par9 ar j) (outL (kids ar (par9 ar j)) (plc ar j))) i = KO ar j i := by
                unfold KO
                by_cases z : i = par9 ar j
                · rw [if_pos z, z, upA_s]
                · rw [if_neg z, upA_n z]; exact if_neg (by omega)
              obtain ⟨b9, cap9, f9, mc9, h_a, hB, hnc, h60, hel, hins⟩ := hR2.insg (i := i) (Or.inr hi)
              rw [hlsq] at h_a hnc hel hins
              have hl39 : (KO ar j i).length ≤ 39 := by rw [← hN9]; exact hN39
              refine m_istore (L' := [(8, .int r2), (7, .int (nI N9)), (6, .ref (Z (100 + par9 ar j))), (5, .ref (Z (100 + i))), (4, .ref (Z (100 + j))), (0, .ref (Z 0)), (1, .int (nI j)), (2, .int (nI i)), (3, .int (nI p9))]) C dX7_move_121 (by decide) rfl ?_
              refine m_aload C dX7_move_123 3 rfl ?_
              refine m_get (ref := "PaintLayers$Node") C (hR2.nd hi) rfl i_X3 2 (by decide) (by decide +kernel) (fun x h => h) (v := .ref (Z (200 + i))) rfl dX7_move_125 ?_
              refine m_iload_n C dX7_move_128 rfl 8 rfl ?_
              refine m_aload C dX7_move_129 4 rfl ?_
              refine m_callVv (As := [.int (nI p9), .ref (Z (100 + j))]) (st := []) C h_a rfl (c_Jx4a65c_add_7a177 D A l h_a hB hnc hl39 hel (hR2.nd hj) hplN) (cwV 2 C.1.2.2.2.2 gX7_move_Jx4a65c_add_7a177 rfl rfl rfl (by decide +kernel) ⟨Nat.le_of_ble_eq_true rfl, Nat.le_of_ble_eq_true rfl⟩) rfl rfl (Nat.le_of_ble_eq_true rfl) dX7_move_131 ⟨Nat.le_of_ble_eq_true rfl, Nat.le_of_ble_eq_true rfl⟩ (fun M3 hq3 => ?_)
              have hR3 := hins j p9 M3 hplN hj hq3
              refine m_aload C dX7_move_134 4 rfl ?_
              refine m_aload C dX7_move_136 3 rfl ?_
              refine m_put (ref := "PaintLayers$Node") C (hR3.nd hj) rfl i_X3 tyX3 tyX3_ok nmX3 3 (by decide) (by decide +kernel) (fun x h => h) rfl rfl rfl (Nat.le_of_ble_eq_true rfl) (e' := .inr (6, (nF Z ar fi nl j).set 3 (.ref (Z (100 + i))))) rfl dX7_move_138 ?_
              have hR4 := hR3.node hj ((nF Z ar fi nl j).set 3 (.ref (Z (100 + i))))
              revert hR4
              generalize m_up M3 _ _ = M4
              intro hR4
              refine m_aload_n C dX7_move_141 rfl 5 rfl ?_
              have hR0 := cR.of_move hw hj h0 hi h3 hch hplN hR4 hR.2
              refine m_callVv (As := []) (st := []) C hR0.me rfl (c_X7_settle D A l hw2 hR0) (cwV 0 C.1.2.2.2.2 gX7_move_X7_settle rfl rfl rfl (by decide +kernel) ⟨Nat.le_of_ble_eq_true rfl, Nat.le_of_ble_eq_true rfl⟩) rfl rfl (Nat.le_of_ble_eq_true rfl) dX7_move_142 ⟨Nat.le_of_ble_eq_true rfl, Nat.le_of_ble_eq_true rfl⟩ (fun M9 hq9 => ?_)
              obtain ⟨fi9, hfv9, hR9⟩ := hq9
              refine m_iload C dX7_move_145 0 rfl ?_
              exact m_iretX C (Nat.le_of_ble_eq_true rfl) (Nat.le_of_ble_eq_true rfl) dX7_move_147 (⟨hk0, by rw [cj]; exact hr2, fi9, nl, rw, hfv9, hR9⟩)
            · exact m_throwS (E := xIS) (text := "no such place") C hst hE (by decide) (by decide +kernel) (by decide +kernel) (by decide +kernel) (by decide) (by decide +kernel) (by decide +kernel) (by decide +kernel) dX7_move_104 dX7_move_107 dX7_move_108 dX7_move_110 dX7_move_113 (Nat.le_of_ble_eq_true rfl) (Nat.le_of_ble_eq_true rfl) (Nat.le_of_ble_eq_true rfl) (Nat.le_of_ble_eq_true rfl) (Nat.le_of_ble_eq_true rfl) (Nat.le_of_ble_eq_true rfl) (⟨hI, Or.inr (⟨by unfold k_move; rw [qj, qi, ci, cj, if_neg (by decide), if_pos (Or.inr (Or.inr (Or.inr (by rw [hkk]; simp [q_in, h_4]))))], rfl⟩)⟩)
        · have hij : par9 ar j = i := hR.1.inj hpP hi (Option.some.inj h_2.symm)
          have hm1 : 1 ≤ mny ar i := by have := (kids_plc hw hj h0).2.1; rw [hij, kids_len] at this; omega
          refine m_aload C dX7_move_71 1 rfl ?_
          refine m_get (ref := "PaintLayers$Node") C (hR.nd hi) rfl i_X3 2 (by decide) (by decide +kernel) (fun x h => h) (v := .ref (Z (200 + i))) rfl dX7_move_73 ?_
          refine m_callVFi (As := []) (st := []) (v := nI (mny ar i)) C h_k rfl (c_Jx4a65c_size_8abf5 D A l h_k) (cwV 0 C.1.2.2.2.2 gX7_move_Jx4a65c_size_8abf5 rfl rfl rfl (by decide +kernel) ⟨Nat.le_of_ble_eq_true rfl, Nat.le_of_ble_eq_true rfl⟩) rfl rfl (Nat.le_of_ble_eq_true rfl) dX7_move_76 ⟨Nat.le_of_ble_eq_true rfl, Nat.le_of_ble_eq_true rfl⟩ ?_
          refine m_iconst (v := 1) C dX7_move_79 (by decide) ?_
          refine m_isub C dX7_move_80 ?_
          refine m_goto (tgt := 92) C dX7_move_81 (by decide) ?_
          obtain ⟨N9, hN9⟩ : ∃ z : Nat, z = (KO ar j i).length := ⟨_, rfl⟩
          have hN39 : N9 ≤ 39 := by rw [hN9, hl]; split <;> omega
          refine m_i (y := nI N9) (by rw [hN9, hl, if_pos hij]; exact pk_sub (b := 1) hm1) ?_
          have hkk := mv_k (pl := pl) hw hj h0 hi hN9
          refine m_istore (L' := [(7, .int (nI N9)), (6, .ref (Z (100 + par9 ar j))), (5, .ref (Z (100 + i))), (4, .ref (Z (100 + j))), (0, .ref (Z 0)), (1, .int (nI j)), (2, .int (nI i)), (3, .int pl)]) C dX7_move_92 (by decide) rfl ?_
          refine m_iload_n C dX7_move_94 rfl 7 rfl ?_
          refine m_if_lt (tgt := 104) C dX7_move_95 (by decide) (fun h_5 => ?_) (fun h_5 => ?_)
          · exact m_throwS (E := xIS) (text := "no such place") C hst hE (by decide) (by decide +kernel) (by decide +kernel) (by decide +kernel) (by decide) (by decide +kernel) (by decide +kernel) (by decide +kernel) dX7_move_104 dX7_move_107 dX7_move_108 dX7_move_110 dX7_move_113 (Nat.le_of_ble_eq_true rfl) (Nat.le_of_ble_eq_true rfl) (Nat.le_of_ble_eq_true rfl) (Nat.le_of_ble_eq_true rfl) (Nat.le_of_ble_eq_true rfl) (Nat.le_of_ble_eq_true rfl) (⟨hI, Or.inr (⟨by unfold k_move; rw [qj, qi, ci, cj, if_neg (by decide), if_pos (Or.inr (Or.inr (Or.inr (by rw [hkk]; simp [q_in, h_5, Int32.not_le.mpr h_5]))))], rfl⟩)⟩)
          · refine m_iload_n C dX7_move_98 rfl 7 rfl ?_
            refine m_iload C dX7_move_99 0 rfl ?_
            refine m_icmp_le (tgt := 114) C dX7_move_101 (by decide) (fun h_6 => ?_) (fun h_6 => ?_)
            · have hin : q_in pl 0 (nI N9) = true := by simp [q_in, Int32.not_lt.mp h_5, h_6]
              have hk0 : k_move cm ar (nI j) (nI i) pl = 0 := by
                unfold k_move
                rw [qj, qi, ci, cj, if_neg (by decide)]
                refine if_neg ?_
                rintro (z | z | z | z)
                · exact hz0 z
                · exact z h3
                · exact hch z
                · rw [hkk, hin] at z; cases z
              obtain ⟨p9, hp9, rfl⟩ := mv_in (by omega) hin
              have hplN : p9 ≤ (KO ar j i).length := by rw [← hN9]; exact hp9
              obtain ⟨hP2, hw2, hk2⟩ := wf_move hw hj h0 hi h3 hch hplN
              refine m_aload C dX7_move_114 1 rfl ?_
              refine m_aload C dX7_move_116 3 rfl ?_
              refine m_callSi (As := [.ref (Z (100 + par9 ar j)), .ref (Z (100 + j))]) (st := []) C (c_X7_takeOut D A l hR.1 hcm hw hj h0 hpP (if_neg (by have := hpP.1; omega))) (va_cwS 2 C.1.2.2.2.2 gX7_move_X7_takeOut rfl rfl rfl (by decide +kernel) ⟨Nat.le_of_ble_eq_true rfl, Nat.le_of_ble_eq_true rfl⟩) rfl rfl (Nat.le_of_ble_eq_true rfl) dX7_move_118 ⟨Nat.le_of_ble_eq_true rfl, Nat.le_of_ble_eq_true rfl⟩ (fun r2 M2 hq2 => ?_)
              obtain ⟨hr2, hR2⟩ := hq2
              have hlsq : (upA (lsF ar (pre9 ar 0)) (par9 ar j) (outL (kids ar (par9 ar j)) (plc ar j))) i = KO ar j i := by
                unfold KO
                by_cases z : i = par9 ar j
                · rw [if_pos z, z, upA_s]
                · rw [if_neg z, upA_n z]; exact if_neg (by omega)
              obtain ⟨b9, cap9, f9, mc9, h_a, hB, hnc, h60, hel, hins⟩ := hR2.insg (i := i) (Or.inr hi)
              rw [hlsq] at h_a hnc hel hins
              have hl39 : (KO ar j i).length ≤ 39 := by rw [← hN9]; exact hN39
              refine m_istore (L' := [(8, .int r2), (7, .int (nI N9)), (6, .ref (Z (100 + par9 ar j))), (5, .ref (Z (100 + i))), (4, .ref (Z (100 + j))), (0, .ref (Z 0)), (1, .int (nI j)), (2, .int (nI i)), (3, .int (nI p9))]) C dX7_move_121 (by decide) rfl ?_
              refine m_aload C dX7_move_123 3 rfl ?_
              refine m_get (ref := "PaintLayers$Node") C (hR2.nd hi) rfl i_X3 2 (by decide) (by decide +kernel) (fun x h => h) (v := .ref (Z (200 + i))) rfl dX7_move_125 ?_
              refine m_iload_n C dX7_move_128 rfl 8 rfl ?_
              refine m_aload C dX7_move_129 4 rfl ?_
              refine m_callVv (As := [.int (nI p9), .ref (Z (100 + j))]) (st := []) C h_a rfl (c_Jx4a65c_add_7a177 D A l h_a hB hnc hl39 hel (hR2.nd hj) hplN) (cwV 2 C.1.2.2.2.2 gX7_move_Jx4a65c_add_7a177 rfl rfl rfl (by decide +kernel) ⟨Nat.le_of_ble_eq_true rfl, Nat.le_of_ble_eq_true rfl⟩) rfl rfl (Nat.le_of_ble_eq_true rfl) dX7_move_131 ⟨Nat.le_of_ble_eq_true rfl, Nat.le_of_ble_eq_true rfl⟩ (fun M3 hq3 => ?_)
              have hR3 := hins j p9 M3 hplN hj hq3
              refine m_aload C dX7_move_134 4 rfl ?_
              refine m_aload C dX7_move_136 3 rfl ?_
              refine m_put (ref := "PaintLayers$Node") C (hR3.nd hj) rfl i_X3 tyX3 tyX3_ok nmX3 3 (by decide) (by decide +kernel) (fun x h => h) rfl rfl rfl (Nat.le_of_ble_eq_true rfl) (e' := .inr (6, (nF Z ar fi nl j).set 3 (.ref (Z (100 + i))))) rfl dX7_move_138 ?_
              have hR4 := hR3.node hj ((nF Z ar fi nl j).set 3 (.ref (Z (100 + i))))
              revert hR4
              generalize m_up M3 _ _ = M4
              intro hR4
              refine m_aload_n C dX7_move_141 rfl 5 rfl ?_
              have hR0 := cR.of_move hw hj h0 hi h3 hch hplN hR4 hR.2
              refine m_callVv (As := []) (st := []) C hR0.me rfl (c_X7_settle D A l hw2 hR0) (cwV 0 C.1.2.2.2.2 gX7_move_X7_settle rfl rfl rfl (by decide +kernel) ⟨Nat.le_of_ble_eq_true rfl, Nat.le_of_ble_eq_true rfl⟩) rfl rfl (Nat.le_of_ble_eq_true rfl) dX7_move_142 ⟨Nat.le_of_ble_eq_true rfl, Nat.le_of_ble_eq_true rfl⟩ (fun M9 hq9 => ?_)
              obtain ⟨fi9, hfv9, hR9⟩ := hq9
              refine m_iload C dX7_move_145 0 rfl ?_
              exact m_iretX C (Nat.le_of_ble_eq_true rfl) (Nat.le_of_ble_eq_true rfl) dX7_move_147 (⟨hk0, by rw [cj]; exact hr2, fi9, nl, rw, hfv9, hR9⟩)
            · exact m_throwS (E := xIS) (text := "no such place") C hst hE (by decide) (by decide +kernel) (by decide +kernel) (by decide +kernel) (by decide) (by decide +kernel) (by decide +kernel) (by decide +kernel) dX7_move_104 dX7_move_107 dX7_move_108 dX7_move_110 dX7_move_113 (Nat.le_of_ble_eq_true rfl) (Nat.le_of_ble_eq_true rfl) (Nat.le_of_ble_eq_true rfl) (Nat.le_of_ble_eq_true rfl) (Nat.le_of_ble_eq_true rfl) (Nat.le_of_ble_eq_true rfl) (⟨hI, Or.inr (⟨by unfold k_move; rw [qj, qi, ci, cj, if_neg (by decide), if_pos (Or.inr (Or.inr (Or.inr (by rw [hkk]; simp [q_in, h_6]))))], rfl⟩)⟩)
      · have hz_1 := bI_n hz_1
        exact m_throwS (E := xIS) (text := "no parent for this node") C hst hE (by decide) (by decide +kernel) (by decide +kernel) (by decide +kernel) (by decide) (by decide +kernel) (by decide +kernel) (by decide +kernel) dX7_move_54 dX7_move_57 dX7_move_58 dX7_move_60 dX7_move_63 (Nat.le_of_ble_eq_true rfl) (Nat.le_of_ble_eq_true rfl) (Nat.le_of_ble_eq_true rfl) (Nat.le_of_ble_eq_true rfl) (Nat.le_of_ble_eq_true rfl) (Nat.le_of_ble_eq_true rfl) (⟨hI, Or.inr (⟨by unfold k_move; rw [qj, qi, ci, cj, if_neg (by decide), if_pos (Or.inr (Or.inr (Or.inl (of_decide_eq_true hz_1))))], rfl⟩)⟩)
    · rw [show nSh Z ar i = some (Z (400 + i)) from if_neg h3]
      refine m_ifnonnull (x := some (Z (400 + i))) (tgt := 54) C dX7_move_41 (by decide) (fun _ _ => ?_) (fun h => absurd h (by simp))
      exact m_throwS (E := xIS) (text := "no parent for this node") C hst hE (by decide) (by decide +kernel) (by decide +kernel) (by decide +kernel) (by decide) (by decide +kernel) (by decide +kernel) (by decide +kernel) dX7_move_54 dX7_move_57 dX7_move_58 dX7_move_60 dX7_move_63 (Nat.le_of_ble_eq_true rfl) (Nat.le_of_ble_eq_true rfl) (Nat.le_of_ble_eq_true rfl) (Nat.le_of_ble_eq_true rfl) (Nat.le_of_ble_eq_true rfl) (Nat.le_of_ble_eq_true rfl) (⟨hI, Or.inr (⟨by unfold k_move; rw [qj, qi, ci, if_neg (by decide), if_pos (Or.inr (Or.inl h3))], rfl⟩)⟩)

