/-! ===== what the class answers without a new cell: calls that throw nothing ===== -/
set_option maxHeartbeats 4000000 in
set_option maxRecDepth 100000 in
theorem c_X7_checkIndex0 (D : mD) (A : Nat → Prop) (l : Launch) {i n : Nat} {M : Mm} (hi : i < n) (hn : n < 2 ^ 31) : mMv D A l yX7_checkIndex wsX7_checkIndex ({ frames := 0, cells := 0, slots := 0, locals := 0 } : Room) [.int (nI i), .int (nI n)] M (fun M' => M' = M) 0 0 := by
  refine m_start (cc := cX7_checkIndex) (maxL := 2) (ret := none) (by decide) rfl (Nat.le_of_ble_eq_true rfl) ?_
  intro p e s m args below meth c C
  refine m_sub (L' := [(0, .int (nI i)), (1, .int (nI n))]) [0, 1] rfl ?_
  refine m_iload_n C dX7_checkIndex_0 rfl 0 rfl ?_
  refine m_if_lt (tgt := 9) C dX7_checkIndex_1 (by decide) (fun h_1 => ?_) (fun h_1 => ?_)
  · exact absurd h_1 (nI_pos (by omega))
  · refine m_iload_n C dX7_checkIndex_4 rfl 0 rfl ?_
    refine m_iload_n C dX7_checkIndex_5 rfl 1 rfl ?_
    refine m_icmp_lt (tgt := 19) C dX7_checkIndex_6 (by decide) (fun h_2 => ?_) (fun h_2 => ?_)
    · exact m_vret C (Nat.le_of_ble_eq_true rfl) (Nat.le_of_ble_eq_true rfl) dX7_checkIndex_19 rfl
    · exact absurd (nI_lt (a := i) (b := n) hi hn) h_2
set_option maxHeartbeats 4000000 in
set_option maxRecDepth 100000 in
theorem c_X7_checkPixel0 (D : mD) (A : Nat → Prop) (l : Launch) {x y : Nat} {M : Mm} (hx : x < 64) (hy : y < 48) : mMv D A l yX7_checkPixel wsX7_checkPixel ({ frames := 0, cells := 0, slots := 0, locals := 0 } : Room) [.int (nI x), .int (nI y)] M (fun M' => M' = M) 0 0 := by
  refine m_start (cc := cX7_checkPixel) (maxL := 2) (ret := none) (by decide) rfl (Nat.le_of_ble_eq_true rfl) ?_
  intro p e s m args below meth c C
  refine m_sub (L' := [(0, .int (nI x)), (1, .int (nI y))]) [0, 1] rfl ?_
  refine m_iload_n C dX7_checkPixel_0 rfl 0 rfl ?_
  refine m_if_lt (tgt := 20) C dX7_checkPixel_1 (by decide) (fun h_1 => ?_) (fun h_1 => ?_)
  · exact absurd h_1 (nI_pos (by omega))
  · refine m_iload_n C dX7_checkPixel_4 rfl 0 rfl ?_
    refine m_bipush (v := 64) C dX7_checkPixel_5 (by decide) ?_
    refine m_icmp_ge (tgt := 20) C dX7_checkPixel_7 (by decide) (fun h_2 => ?_) (fun h_2 => ?_)
    · exact absurd (nI_lt (a := x) (b := 64) hx (by omega)) (Int32.not_lt.mpr h_2)
    · refine m_iload_n C dX7_checkPixel_10 rfl 1 rfl ?_
      refine m_if_lt (tgt := 20) C dX7_checkPixel_11 (by decide) (fun h_3 => ?_) (fun h_3 => ?_)
      · exact absurd h_3 (nI_pos (by omega))
      · refine m_iload_n C dX7_checkPixel_14 rfl 1 rfl ?_
        refine m_bipush (v := 48) C dX7_checkPixel_15 (by decide) ?_
        refine m_icmp_lt (tgt := 30) C dX7_checkPixel_17 (by decide) (fun h_4 => ?_) (fun h_4 => ?_)
        · exact m_vret C (Nat.le_of_ble_eq_true rfl) (Nat.le_of_ble_eq_true rfl) dX7_checkPixel_30 rfl
        · exact absurd (nI_lt (a := y) (b := 48) hy (by omega)) h_4
set_option maxHeartbeats 4000000 in
set_option maxRecDepth 100000 in
theorem c_X7_find0 (D : mD) (A : Nat → Prop) (l : Launch) {Z : Nat → Nat} {F : Mm} {cm : Nat} {g : Int32} {ar : rA} {fi : Nat → Nat → Int32} {nl : Nat → Nat → Int64} {L : List Nat} {rw : Nat → Int32} {M : Mm} (hR : cS D Z F cm g ar fi nl L rw M) (hcm : cm ≤ 40) {j : Nat} (hjp : cP ar cm j) : mMq D A l yX7_find wsX7_find ({ frames := 1, cells := 0, slots := 0, locals := 60 } : Room) [.ref (Z 0), .int (nI j)] M (fun r M' => M' = M ∧ r = some (Z (100 + j))) 0 0 := by
  refine m_start (cc := cX7_find) (maxL := 3) (ret := (some (.object "PaintLayers$Node"))) (by decide) rfl (Nat.le_of_ble_eq_true rfl) ?_
  intro p e s m args below meth c C
  have i_X7 : ∀ w ∈ wsX70, w ∈ wsX7_find := by decide +kernel
  have hj : j < 40 := by have := hjp.1; omega
  refine m_sub (L' := [(0, .ref (Z 0)), (1, .int (nI j))]) [0, 1] rfl ?_
  refine m_iload_n C dX7_find_0 rfl 1 rfl ?_
  refine m_bipush (v := 40) C dX7_find_1 (by decide) ?_
  refine m_callSv (As := [.int (nI j), .int 40]) (st := []) C (c_X7_checkIndex0 D A l (n := 40) hj (by decide)) (va_cwS 2 C.1.2.2.2.2 gX7_find_X7_checkIndex rfl rfl rfl (by decide +kernel) ⟨Nat.le_of_ble_eq_true rfl, Nat.le_of_ble_eq_true rfl⟩) rfl rfl (Nat.le_of_ble_eq_true rfl) dX7_find_3 ⟨Nat.le_of_ble_eq_true rfl, Nat.le_of_ble_eq_true rfl⟩ (fun M1 hq9 => ?_)
  subst hq9
  refine m_aload_n C dX7_find_6 rfl 0 rfl ?_
  refine m_get (ref := "PaintLayers") C hR.me rfl i_X7 0 (by decide) (by decide +kernel) (fun x h => h) (v := .ref (Z 1)) rfl dX7_find_7 ?_
  refine m_iload_n C dX7_find_10 rfl 1 rfl ?_
  refine m_aald C hR.1.gna 2 rfl (vp_in_nI hj (by omega)) dX7_find_11 ?_
  rw [nI_clamp (show j < 2 ^ 31 by omega)]
  rw [show naF Z cm ar j = some (Z (100 + j)) from if_pos hjp]
  refine m_astore_n (L' := [(2, .ref (Z (100 + j))), (0, .ref (Z 0)), (1, .int (nI j))]) C dX7_find_12 rfl (by decide) rfl ?_
  refine m_aload_n C dX7_find_13 rfl 0 rfl ?_
  refine m_ifnonnull (x := some (Z (100 + j))) (tgt := 27) C dX7_find_14 (by decide) (fun _ _ => ?_) (fun h => absurd h (by simp))
  refine m_aload_n C dX7_find_27 rfl 0 rfl ?_
  exact m_aret C (Or.inl ⟨_, rfl⟩) (v := some (Z (100 + j))) (Nat.le_of_ble_eq_true rfl) (Nat.le_of_ble_eq_true rfl) dX7_find_28 ⟨rfl, rfl⟩
set_option maxHeartbeats 4000000 in
set_option maxRecDepth 100000 in
theorem c_X7_node0 (D : mD) (A : Nat → Prop) (l : Launch) {Z : Nat → Nat} {F : Mm} {cm : Nat} {g : Int32} {ar : rA} {M : Mm} (hI : cI D Z F cm g ar M) (hw : wf ar cm) (hb : BD ar cm) {j w9 : Nat} (hj : cP ar cm j) (hw9 : w9 < 13) : mMi D A l yX7_node wsX7_node ({ frames := 6, cells := 0, slots := 0, locals := 360 } : Room) [.ref (Z 0), .int (nI j), .int (nI w9)] M (fun r M' => M' = M ∧ r = q_tld ar (chn ar j) (plc ar j) j w9) 0 0 := by
  refine m_start (cc := cX7_node) (maxL := 4) (ret := (some .int)) (by decide) rfl (Nat.le_of_ble_eq_true rfl) ?_
  intro p e s m args below meth c C
  refine m_sub (L' := [(0, .ref (Z 0)), (1, .int (nI j)), (2, .int (nI w9))]) [0, 1, 2] rfl ?_
  have hcm := hw.1.2
  obtain ⟨fi, nl, rw, hfv, hR⟩ := hI
  refine m_aload_n C dX7_node_0 rfl 0 rfl ?_
  refine m_iload_n C dX7_node_1 rfl 1 rfl ?_
  refine m_callVFq (As := [.int (nI j)]) (st := []) C hR.me rfl (c_X7_find0 D A l hR hcm hj) (cwV 1 C.1.2.2.2.2 gX7_node_X7_find rfl rfl rfl (by decide +kernel) ⟨Nat.le_of_ble_eq_true rfl, Nat.le_of_ble_eq_true rfl⟩) rfl rfl (Nat.le_of_ble_eq_true rfl) dX7_node_2 ⟨Nat.le_of_ble_eq_true rfl, Nat.le_of_ble_eq_true rfl⟩ ?_
  refine m_astore_n (L' := [(3, .ref (Z (100 + j))), (0, .ref (Z 0)), (1, .int (nI j)), (2, .int (nI w9))]) C dX7_node_5 rfl (by decide) rfl ?_
  refine m_iload_n C dX7_node_6 rfl 3 rfl ?_
  refine m_bipush (v := 13) C dX7_node_7 (by decide) ?_
  refine m_callSv (As := [.int (nI w9), .int 13]) (st := []) C (c_X7_checkIndex0 D A l (n := 13) hw9 (by decide)) (va_cwS 2 C.1.2.2.2.2 gX7_node_X7_checkIndex rfl rfl rfl (by decide +kernel) ⟨Nat.le_of_ble_eq_true rfl, Nat.le_of_ble_eq_true rfl⟩) rfl rfl (Nat.le_of_ble_eq_true rfl) dX7_node_9 ⟨Nat.le_of_ble_eq_true rfl, Nat.le_of_ble_eq_true rfl⟩ (fun M1 hq9 => ?_)
  subst hq9
  refine m_aload_n C dX7_node_12 rfl 0 rfl ?_
  refine m_iload_n C dX7_node_13 rfl 3 rfl ?_
  refine m_callSFi (As := [.ref (Z (100 + j)), .int (nI w9)]) (st := []) (v := q_tld ar (chn ar j) (plc ar j) j w9) C (c_X7_detail D A l hR hw hb hfv hj hw9) (va_cwS 2 C.1.2.2.2.2 gX7_node_X7_detail rfl rfl rfl (by decide +kernel) ⟨Nat.le_of_ble_eq_true rfl, Nat.le_of_ble_eq_true rfl⟩) rfl rfl (Nat.le_of_ble_eq_true rfl) dX7_node_14 ⟨Nat.le_of_ble_eq_true rfl, Nat.le_of_ble_eq_true rfl⟩ ?_
  exact m_iret C (Nat.le_of_ble_eq_true rfl) (Nat.le_of_ble_eq_true rfl) dX7_node_17 ⟨rfl, rfl⟩
set_option maxHeartbeats 4000000 in
set_option maxRecDepth 100000 in
theorem c_X7_shows0 (D : mD) (A : Nat → Prop) (l : Launch) {Z : Nat → Nat} {F : Mm} {cm : Nat} {g : Int32} {ar : rA} {M : Mm} (hI : cI D Z F cm g ar M) (hw : wf ar cm) (hb : BD ar cm) {j x9 y9 : Nat} (hj : cP ar cm j) (hx9 : x9 < 64) (hy9 : y9 < 48) : mMi D A l yX7_shows wsX7_shows ({ frames := 8, cells := 0, slots := 0, locals := 500 } : Room) [.ref (Z 0), .int (nI j), .int (nI x9), .int (nI y9)] M (fun r M' => r = bI (q_any ar (pre9 ar j) (nI x9) (nI y9)) ∧ cI D Z F cm g ar M') 0 0 := by
  refine m_start (cc := cX7_shows) (maxL := 5) (ret := (some .boolean)) (by decide) rfl (Nat.le_of_ble_eq_true rfl) ?_
  intro p e s m args below meth c C
  have i_X3 : ∀ w ∈ wsX30, w ∈ wsX7_shows := by decide +kernel
  refine m_sub (L' := [(0, .ref (Z 0)), (1, .int (nI j)), (2, .int (nI x9)), (3, .int (nI y9))]) [0, 1, 2, 3] rfl ?_
  have hcm := hw.1.2
  obtain ⟨fi, nl, rw, hfv, hR⟩ := hI
  refine m_aload_n C dX7_shows_0 rfl 0 rfl ?_
  refine m_iload_n C dX7_shows_1 rfl 1 rfl ?_
  refine m_callVFq (As := [.int (nI j)]) (st := []) C hR.me rfl (c_X7_find0 D A l hR hcm hj) (cwV 1 C.1.2.2.2.2 gX7_shows_X7_find rfl rfl rfl (by decide +kernel) ⟨Nat.le_of_ble_eq_true rfl, Nat.le_of_ble_eq_true rfl⟩) rfl rfl (Nat.le_of_ble_eq_true rfl) dX7_shows_2 ⟨Nat.le_of_ble_eq_true rfl, Nat.le_of_ble_eq_true rfl⟩ ?_
  refine m_astore (L' := [(4, .ref (Z (100 + j))), (0, .ref (Z 0)), (1, .int (nI j)), (2, .int (nI x9)), (3, .int (nI y9))]) C dX7_shows_5 (by decide) rfl ?_
  refine m_iload_n C dX7_shows_7 rfl 3 rfl ?_
  refine m_iload_n C dX7_shows_8 rfl 4 rfl ?_
  refine m_callSv (As := [.int (nI x9), .int (nI y9)]) (st := []) C (c_X7_checkPixel0 D A l hx9 hy9) (va_cwS 2 C.1.2.2.2.2 gX7_shows_X7_checkPixel rfl rfl rfl (by decide +kernel) ⟨Nat.le_of_ble_eq_true rfl, Nat.le_of_ble_eq_true rfl⟩) rfl rfl (Nat.le_of_ble_eq_true rfl) dX7_shows_9 ⟨Nat.le_of_ble_eq_true rfl, Nat.le_of_ble_eq_true rfl⟩ (fun M1 hq9 => ?_)
  subst hq9
  refine m_aload_n C dX7_shows_12 rfl 1 rfl ?_
  refine m_iload_n C dX7_shows_13 rfl 4 rfl ?_
  refine m_callVv (As := [.int (nI y9)]) (st := []) C hR.me rfl (c_X7_scanRow D A l hR hw hb hfv hy9) (cwV 1 C.1.2.2.2.2 gX7_shows_X7_scanRow rfl rfl rfl (by decide +kernel) ⟨Nat.le_of_ble_eq_true rfl, Nat.le_of_ble_eq_true rfl⟩) rfl rfl (Nat.le_of_ble_eq_true rfl) dX7_shows_14 ⟨Nat.le_of_ble_eq_true rfl, Nat.le_of_ble_eq_true rfl⟩ (fun M1 hq1 => ?_)
  obtain ⟨m1, hR1, hs1⟩ := hq1
  rename cS D Z F cm g ar fi m1 (pre9 ar 0) rw M1 => hR
  refine m_aload C dX7_shows_17 0 rfl ?_
  refine m_get (ref := "PaintLayers$Node") C (hR.nd hj) rfl i_X3 18 (by decide) (by decide +kernel) (fun x h => h) (v := .long (m1 2 j)) rfl dX7_shows_19 ?_
  refine m_iload_n C dX7_shows_22 rfl 3 rfl ?_
  refine m_callSFi (As := [.long (m1 2 j), .int (nI x9)]) (st := []) (v := bI (bL (m1 2 j) x9)) C (c_X7_hasBit D A l (x := x9) (by omega)) (va_cwS 2 C.1.2.2.2.2 gX7_shows_X7_hasBit rfl rfl rfl (by decide +kernel) ⟨Nat.le_of_ble_eq_true rfl, Nat.le_of_ble_eq_true rfl⟩) rfl rfl (Nat.le_of_ble_eq_true rfl) dX7_shows_23 ⟨Nat.le_of_ble_eq_true rfl, Nat.le_of_ble_eq_true rfl⟩ ?_
  exact m_zret C (Nat.le_of_ble_eq_true rfl) (Nat.le_of_ble_eq_true rfl) dX7_shows_26 (by cases bL (m1 2 j) x9 <;> first | exact Or.inl rfl | exact Or.inr rfl) ⟨by rw [hs1 j hj x9 hx9], fi, m1, rw, hfv, hR⟩
