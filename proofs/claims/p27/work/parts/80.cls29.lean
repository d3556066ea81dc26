/-! ===== the class: its public methods ===== -/
theorem okR_in (x a b : Int32) : okR x a b = q_in x a b := by
  unfold okR q_in
  rw [decide_eq_decide.mpr Int32.not_lt, decide_eq_decide.mpr Int32.not_lt]
theorem okP_far (x y : Int32) : okP x y = !(q_far x || q_far y) := by
  unfold okP q_far
  rw [okR_in, okR_in]
  cases q_in x (-100) 100 <;> cases q_in y (-100) 100 <;> rfl
theorem okI_in {m : Nat} (h1 : 1 ≤ m) (h2 : m < 2 ^ 31) (i : Int32) : okI i (nI m) = q_in i 0 (nI (m - 1)) := by
  unfold okI q_in
  rw [decide_eq_decide.mpr (Int32.not_lt (a := i) (b := 0))]
  refine congrArg (and _) (decide_eq_decide.mpr ?_)
  rw [Int32.lt_iff_toInt_lt, Int32.le_iff_toInt_le, nI_toInt h2, nI_toInt (by omega)]
  omega
theorem okX_pix (x y : Int32) : okX x y = q_pix x y := by
  unfold okX q_pix
  rw [show okI x 64 = q_in x 0 63 from okI_in (m := 64) (by decide) (by decide) x, show okI y 48 = q_in y 0 47 from okI_in (m := 48) (by decide) (by decide) y]
theorem pix_n {x y : Int32} (h : okX x y = true) : ∃ i j : Nat, i < 64 ∧ j < 48 ∧ x = nI i ∧ y = nI j := by
  rw [okX_pix, q_pix, Bool.and_eq_true] at h
  obtain ⟨i, hi, rfl⟩ := q_in_N (a := 63) (by decide) h.1
  obtain ⟨j, hj, rfl⟩ := q_in_N (a := 47) (by decide) h.2
  exact ⟨i, j, by omega, by omega, rfl, rfl⟩
theorem far_b {x : Int32} (h : q_far x = false) : x.toInt.natAbs ≤ 100 := by
  unfold q_far at h
  rw [Bool.not_eq_false'] at h
  obtain ⟨h1, h2⟩ := q_in_t.mp h
  rw [Int32.le_iff_toInt_le] at h1 h2
  have e1 : (-100 : Int32).toInt = -100 := rfl
  have e2 : (100 : Int32).toInt = 100 := rfl
  omega
set_option maxHeartbeats 4000000 in
set_option maxRecDepth 100000 in
theorem c_X7_value (D : mD) (A : Nat → Prop) (l : Launch) (hst : l.stackTraces = false) {Z : Nat → Nat} {F : Mm} {cm : Nat} {g : Int32} {ar : rA} {M : Mm} (hI : cI D Z F cm g ar M) (hw : wf ar cm) (hb : BD ar cm) {x y : Int32} : mXi D A l yX7_value wsX7_value ({ frames := 10, cells := 1, slots := 6, locals := 600 } : Room) [.ref (Z 0), .int x, .int y] M (fun r M' => k_pix x y = 0 ∧ r = q_val ar g (pre9 ar 0) x y ∧ cI D Z F cm g ar M') (fun E M' => cI D Z F cm g ar M' ∧ ((k_pix x y = 1 ∧ E = xIO))) 1 6 := by
  refine m_startX (cc := cX7_value) (maxL := 3) (ret := (some .int)) (by decide) rfl (Nat.le_of_ble_eq_true rfl) ?_
  intro p e s m args below meth c C hE
  have i_X7 : ∀ w ∈ wsX70, w ∈ wsX7_value := by decide +kernel
  have i_X3 : ∀ w ∈ wsX30, w ∈ wsX7_value := by decide +kernel
  have iL : ∀ w ∈ wsJx4a65c0, w ∈ wsX7_value := by decide +kernel
  refine m_sub (L' := [(0, .ref (Z 0)), (1, .int x), (2, .int y)]) [0, 1, 2] rfl ?_
  have hcm := hw.1.2
  have hI9 := hI
  obtain ⟨fi, nl, rw, hfv, hR⟩ := hI9
  refine m_iload_n C dX7_value_0 rfl 1 rfl ?_
  refine m_iload_n C dX7_value_1 rfl 2 rfl ?_
  refine m_callSXv (As := [.int x, .int y]) (st := []) C (c_X7_checkPixel D A l hst) (va_cwS 2 C.1.2.2.2.2 gX7_value_X7_checkPixel rfl rfl rfl (by decide +kernel) ⟨Nat.le_of_ble_eq_true rfl, Nat.le_of_ble_eq_true rfl⟩) rfl rfl (Nat.le_of_ble_eq_true rfl) dX7_value_2 ⟨Nat.le_of_ble_eq_true rfl, Nat.le_of_ble_eq_true rfl⟩ hE (fun E M9 z9 => ⟨by rw [z9.2.1]; exact hI, ⟨by unfold k_pix; rw [← okX_pix, z9.2.2]; rfl, z9.1⟩⟩) (Nat.le_of_ble_eq_true rfl) (Nat.le_of_ble_eq_true rfl) (fun M9 hq9 => ?_)
  obtain ⟨e9, hok⟩ := hq9
  subst e9
  rename Mm => M
  have hk0 : k_pix x y = 0 := by unfold k_pix; rw [← okX_pix, hok]; rfl
  obtain ⟨x9, y9, hx9, hy9, rfl, rfl⟩ := pix_n hok
  refine m_aload_n C dX7_value_5 rfl 0 rfl ?_
  refine m_iload_n C dX7_value_6 rfl 2 rfl ?_
  refine m_callVv (As := [.int (nI y9)]) (st := []) C hR.me rfl (c_X7_mixRow D A l hR hw hb hfv hy9) (cwV 1 C.1.2.2.2.2 gX7_value_X7_mixRow rfl rfl rfl (by decide +kernel) ⟨Nat.le_of_ble_eq_true rfl, Nat.le_of_ble_eq_true rfl⟩) rfl rfl (Nat.le_of_ble_eq_true rfl) dX7_value_7 ⟨Nat.le_of_ble_eq_true rfl, Nat.le_of_ble_eq_true rfl⟩ (fun M1 hq1 => ?_)
  obtain ⟨m1, rw1, hR1, hv1⟩ := hq1
  refine m_aload_n C dX7_value_10 rfl 0 rfl ?_
  refine m_get (ref := "PaintLayers") C hR1.me rfl i_X7 4 (by decide) (by decide +kernel) (fun x h => h) (v := .ref (Z 3)) rfl dX7_value_11 ?_
  refine m_iload_n C dX7_value_14 rfl 1 rfl ?_
  refine m_iald C hR1.1.grw (vp_in_nI hx9 (by omega)) dX7_value_15 ?_
  rw [nI_clamp (show x9 < 2 ^ 31 by omega)]
  exact m_iretX C (Nat.le_of_ble_eq_true rfl) (Nat.le_of_ble_eq_true rfl) dX7_value_16 (⟨hk0, hv1 x9 hx9, fi, m1, rw1, hfv, hR1⟩)
theorem cnt_f (ar : rA) : ∀ k, ((List.range k).filter (fun n => decide (¬ ar 2 n = 0))).length = q_cnt ar k
  | 0 => rfl
  | k + 1 => by
    rw [List.range_succ, List.filter_append, List.length_append, cnt_f ar k, q_cnt]
    by_cases h : ar 2 k = 0
    · simp [h]
    · simp [h]
theorem len_cnt {ar : rA} {cm : Nat} (hw : wf ar cm) : (pre9 ar 0).length = q_cnt ar cm := by
  have hr := wf_root hw
  rw [← cnt_f]
  refine List.Perm.length_eq ((List.perm_ext_iff_of_nodup (wf_pre_nd hw 0 hr.1 hr.2) (List.Pairwise.filter _ List.nodup_range)).mpr (fun n => ?_))
  rw [List.mem_filter, List.mem_range, decide_eq_true_eq]
  exact ⟨fun h => ⟨(wf_pre_ch hw 0 hr.1 hr.2 n h).1, (wf_pre_ch hw 0 hr.1 hr.2 n h).2.1⟩, fun h => od_all hw h⟩
set_option maxHeartbeats 4000000 in
set_option maxRecDepth 100000 in
theorem c_X7_count (D : mD) (A : Nat → Prop) (l : Launch) {Z : Nat → Nat} {F : Mm} {cm : Nat} {g : Int32} {ar : rA} {M : Mm} (hI : cI D Z F cm g ar M) (hw : wf ar cm) (hb : BD ar cm) : mMi D A l yX7_count wsX7_count ({ frames := 1, cells := 0, slots := 0, locals := 60 } : Room) [.ref (Z 0)] M (fun r M' => r = nI (q_cnt ar cm) ∧ cI D Z F cm g ar M') 0 0 := by
  refine m_start (cc := cX7_count) (maxL := 1) (ret := (some .int)) (by decide) rfl (Nat.le_of_ble_eq_true rfl) ?_
  intro p e s m args below meth c C
  have i_X7 : ∀ w ∈ wsX70, w ∈ wsX7_count := by decide +kernel
  have iL : ∀ w ∈ wsJx4a65c0, w ∈ wsX7_count := by decide +kernel
  refine m_sub (L' := [(0, .ref (Z 0))]) [0] rfl ?_
  have hcm := hw.1.2
  have hI9 := hI
  obtain ⟨fi, nl, rw, hfv, hR⟩ := hI9
  obtain ⟨b9, cap9, f9, mc9, h_a, hB9, hnc, h60, hf9, hall⟩ := hR.od
  refine m_aload_n C dX7_count_0 rfl 0 rfl ?_
  refine m_get (ref := "PaintLayers") C hR.me rfl i_X7 2 (by decide) (by decide +kernel) (fun x h => h) (v := .ref (Z 240)) rfl dX7_count_1 ?_
  refine m_callVFi (As := []) (st := []) (v := nI ((pre9 ar 0).length)) C h_a rfl (c_Jx4a65c_size_8abf5 D A l h_a) (cwV 0 C.1.2.2.2.2 gX7_count_Jx4a65c_size_8abf5 rfl rfl rfl (by decide +kernel) ⟨Nat.le_of_ble_eq_true rfl, Nat.le_of_ble_eq_true rfl⟩) rfl rfl (Nat.le_of_ble_eq_true rfl) dX7_count_4 ⟨Nat.le_of_ble_eq_true rfl, Nat.le_of_ble_eq_true rfl⟩ ?_
  exact m_iret C (Nat.le_of_ble_eq_true rfl) (Nat.le_of_ble_eq_true rfl) dX7_count_7 (⟨congrArg nI (len_cnt hw), hI⟩)
set_option maxHeartbeats 4000000 in
set_option maxRecDepth 100000 in
theorem c_X7_node (D : mD) (A : Nat → Prop) (l : Launch) (hst : l.stackTraces = false) {Z : Nat → Nat} {F : Mm} {cm : Nat} {g : Int32} {ar : rA} {M : Mm} (hI : cI D Z F cm g ar M) (hw : wf ar cm) (hb : BD ar cm) {v w : Int32} : mXi D A l yX7_node wsX7_node ({ frames := 9, cells := 3, slots := 18, locals := 420 } : Room) [.ref (Z 0), .int v, .int w] M (fun r M' => k_node cm ar v w = 0 ∧ r = q_tldv ar v w ∧ cI D Z F cm g ar M') (fun E M' => cI D Z F cm g ar M' ∧ ((k_node cm ar v w = 1 ∧ E = xIO))) 3 18 := by
  refine m_startX (cc := cX7_node) (maxL := 4) (ret := (some .int)) (by decide) rfl (Nat.le_of_ble_eq_true rfl) ?_
  intro p e s m args below meth c C hE
  have i_X7 : ∀ w ∈ wsX70, w ∈ wsX7_node := by decide +kernel
  have i_X3 : ∀ w ∈ wsX30, w ∈ wsX7_node := by decide +kernel
  have iL : ∀ w ∈ wsJx4a65c0, w ∈ wsX7_node := by decide +kernel
  refine m_sub (L' := [(0, .ref (Z 0)), (1, .int v), (2, .int w)]) [0, 1, 2] rfl ?_
  have hcm := hw.1.2
  have hI9 := hI
  obtain ⟨fi, nl, rw, hfv, hR⟩ := hI9
  refine m_aload_n C dX7_node_0 rfl 0 rfl ?_
  refine m_iload_n C dX7_node_1 rfl 1 rfl ?_
  refine m_callVXq (As := [.int v]) (st := []) C hR.me rfl (c_X7_find D A l hst hR hcm) (cwV 1 C.1.2.2.2.2 gX7_node_X7_find rfl rfl rfl (by decide +kernel) ⟨Nat.le_of_ble_eq_true rfl, Nat.le_of_ble_eq_true rfl⟩) rfl rfl (Nat.le_of_ble_eq_true rfl) dX7_node_2 ⟨Nat.le_of_ble_eq_true rfl, Nat.le_of_ble_eq_true rfl⟩ hE (fun E M9 z9 => ⟨by rw [z9.2.1]; exact hI, ⟨by unfold k_node; rw [z9.2.2]; rfl, z9.1⟩⟩) (Nat.le_of_ble_eq_true rfl) (Nat.le_of_ble_eq_true rfl) (fun r9 M9 hq9 => ?_)
  obtain ⟨e9, j, rfl, hj, rfl⟩ := hq9
  subst e9
  rename Mm => M
  have qj := q_node_t hcm hj
  have cj : jN (nI j) = j := nI_clamp (by have := hj.1; omega)
  refine m_astore_n (L' := [(3, .ref (Z (100 + j))), (0, .ref (Z 0)), (1, .int (nI j)), (2, .int w)]) C dX7_node_5 rfl (by decide) rfl ?_
  refine m_iload_n C dX7_node_6 rfl 3 rfl ?_
  refine m_bipush (v := 13) C dX7_node_7 (by decide) ?_
  refine m_callSXv (As := [.int w, .int 13]) (st := []) C (c_X7_checkIndex D A l hst) (va_cwS 2 C.1.2.2.2.2 gX7_node_X7_checkIndex rfl rfl rfl (by decide +kernel) ⟨Nat.le_of_ble_eq_true rfl, Nat.le_of_ble_eq_true rfl⟩) rfl rfl (Nat.le_of_ble_eq_true rfl) dX7_node_9 ⟨Nat.le_of_ble_eq_true rfl, Nat.le_of_ble_eq_true rfl⟩ hE (fun E M9 z9 => ⟨by rw [z9.2.1]; exact hI, ⟨by unfold k_node; rw [← show okI w 13 = q_in w 0 12 from okI_in (m := 13) (by decide) (by decide) w, z9.2.2, Bool.and_false]; rfl, z9.1⟩⟩) (Nat.le_of_ble_eq_true rfl) (Nat.le_of_ble_eq_true rfl) (fun M9 hq9 => ?_)
  obtain ⟨e9, hok⟩ := hq9
  subst e9
  rename Mm => M
  rw [show okI w 13 = q_in w 0 12 from okI_in (m := 13) (by decide) (by decide) w] at hok
  have hk0 : k_node cm ar (nI j) w = 0 := by unfold k_node; rw [qj, hok]; rfl
  obtain ⟨w9, hw9, rfl⟩ := q_in_N (a := 12) (by decide) hok
  refine m_aload_n C dX7_node_12 rfl 0 rfl ?_
  refine m_iload_n C dX7_node_13 rfl 3 rfl ?_
  refine m_callSFi (As := [.ref (Z (100 + j)), .int (nI w9)]) (st := []) (v := q_tld ar (chn ar j) (plc ar j) j w9) C (c_X7_detail D A l hR hw hb hfv hj (show w9 < 13 by omega)) (va_cwS 2 C.1.2.2.2.2 gX7_node_X7_detail rfl rfl rfl (by decide +kernel) ⟨Nat.le_of_ble_eq_true rfl, Nat.le_of_ble_eq_true rfl⟩) rfl rfl (Nat.le_of_ble_eq_true rfl) dX7_node_14 ⟨Nat.le_of_ble_eq_true rfl, Nat.le_of_ble_eq_true rfl⟩ ?_
  exact m_iretX C (Nat.le_of_ble_eq_true rfl) (Nat.le_of_ble_eq_true rfl) dX7_node_17 (⟨hk0, by unfold q_tldv; rw [cj, show jN (nI w9) = w9 from nI_clamp (by omega)], hI⟩)
