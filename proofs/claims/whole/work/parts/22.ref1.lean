/-! ===== the reference: its small methods ===== -/
set_option maxHeartbeats 4000000 in
set_option maxRecDepth 100000 in
theorem c_X8_isIn (D : mD) (A : Nat → Prop) (l : Launch) (M : Mm) (v lo hi : Int32) : mMi D A l yX8_isIn wsX8_isIn ({ frames := 0, cells := 0, slots := 0, locals := 0 } : Room) [.int v, .int lo, .int hi] M (fun r M' => M' = M ∧ r = bI (q_in v lo hi)) 0 0 := by
  refine m_start (cc := cX8_isIn) (maxL := 3) (ret := (some .boolean)) (by decide) rfl (Nat.le_of_ble_eq_true rfl) ?_
  intro p e s m args below meth c C
  refine m_sub (L' := [(0, .int v), (1, .int lo), (2, .int hi)]) [0, 1, 2] rfl ?_
  refine m_iload_n C dX8_isIn_0 rfl 0 rfl ?_
  refine m_iload_n C dX8_isIn_1 rfl 1 rfl ?_
  refine m_icmp_lt (tgt := 14) C dX8_isIn_2 (by decide) (fun h_1 => ?_) (fun h_1 => ?_)
  · refine m_iconst (v := 0) C dX8_isIn_14 (by decide) ?_
    exact m_zret C (Nat.le_of_ble_eq_true rfl) (Nat.le_of_ble_eq_true rfl) dX8_isIn_15 (Or.inl rfl) (⟨rfl, by simp [q_in, bI, Int32.not_lt, Int32.not_le, h_1, Int32.not_le.mpr h_1]⟩)
  · refine m_iload_n C dX8_isIn_5 rfl 0 rfl ?_
    refine m_iload_n C dX8_isIn_6 rfl 2 rfl ?_
    refine m_icmp_gt (tgt := 14) C dX8_isIn_7 (by decide) (fun h_2 => ?_) (fun h_2 => ?_)
    · refine m_iconst (v := 0) C dX8_isIn_14 (by decide) ?_
      exact m_zret C (Nat.le_of_ble_eq_true rfl) (Nat.le_of_ble_eq_true rfl) dX8_isIn_15 (Or.inl rfl) (⟨rfl, by simp [q_in, bI, Int32.not_lt, Int32.not_le, Int32.not_lt.mp h_1, h_2, Int32.not_le.mpr h_2]⟩)
    · refine m_iconst (v := 1) C dX8_isIn_10 (by decide) ?_
      refine m_goto (tgt := 15) C dX8_isIn_11 (by decide) ?_
      exact m_zret C (Nat.le_of_ble_eq_true rfl) (Nat.le_of_ble_eq_true rfl) dX8_isIn_15 (Or.inr rfl) (⟨rfl, by simp [q_in, bI, Int32.not_lt, Int32.not_le, Int32.not_lt.mp h_1, Int32.not_lt.mp h_2]⟩)
set_option maxHeartbeats 4000000 in
set_option maxRecDepth 100000 in
theorem c_X8_isFar (D : mD) (A : Nat → Prop) (l : Launch) (M : Mm) (v : Int32) : mMi D A l yX8_isFar wsX8_isFar ({ frames := 1, cells := 0, slots := 0, locals := 22 } : Room) [.int v] M (fun r M' => M' = M ∧ r = bI (q_far v)) 0 0 := by
  refine m_start (cc := cX8_isFar) (maxL := 1) (ret := (some .boolean)) (by decide) rfl (Nat.le_of_ble_eq_true rfl) ?_
  intro p e s m args below meth c C
  refine m_sub (L' := [(0, .int v)]) [0] rfl ?_
  refine m_iload_n C dX8_isFar_0 rfl 0 rfl ?_
  refine m_bipush (v := (-100)) C dX8_isFar_1 (by decide) ?_
  refine m_bipush (v := 100) C dX8_isFar_3 (by decide) ?_
  refine m_callSFi (As := [.int v, .int ((-100)), .int 100]) (st := []) C (c_X8_isIn D A l M v (-100) 100) (va_cwS 3 C.1.2.2.2.2 gX8_isFar_X8_isIn rfl rfl rfl (by decide +kernel) ⟨Nat.le_of_ble_eq_true rfl, Nat.le_of_ble_eq_true rfl⟩) rfl rfl (Nat.le_of_ble_eq_true rfl) dX8_isFar_5 ⟨Nat.le_of_ble_eq_true rfl, Nat.le_of_ble_eq_true rfl⟩ ?_
  refine m_if_ne (tgt := 15) C dX8_isFar_8 (by decide) (fun h_1 => ?_) (fun h_1 => ?_)
  · have h_1 := bI_n h_1
    refine m_iconst (v := 0) C dX8_isFar_15 (by decide) ?_
    exact m_zret C (Nat.le_of_ble_eq_true rfl) (Nat.le_of_ble_eq_true rfl) dX8_isFar_16 (Or.inl rfl) (⟨rfl, by simp [q_far, bI, Int32.not_lt, Int32.not_le, h_1]⟩)
  · have h_1 := bI_z h_1
    refine m_iconst (v := 1) C dX8_isFar_11 (by decide) ?_
    refine m_goto (tgt := 16) C dX8_isFar_12 (by decide) ?_
    exact m_zret C (Nat.le_of_ble_eq_true rfl) (Nat.le_of_ble_eq_true rfl) dX8_isFar_16 (Or.inr rfl) (⟨rfl, by simp [q_far, bI, Int32.not_lt, Int32.not_le, h_1]⟩)
set_option maxHeartbeats 4000000 in
set_option maxRecDepth 100000 in
theorem c_X8_isPixel (D : mD) (A : Nat → Prop) (l : Launch) (M : Mm) (x y : Int32) : mMi D A l yX8_isPixel wsX8_isPixel ({ frames := 1, cells := 0, slots := 0, locals := 22 } : Room) [.int x, .int y] M (fun r M' => M' = M ∧ r = bI (q_pix x y)) 0 0 := by
  refine m_start (cc := cX8_isPixel) (maxL := 2) (ret := (some .boolean)) (by decide) rfl (Nat.le_of_ble_eq_true rfl) ?_
  intro p e s m args below meth c C
  refine m_sub (L' := [(0, .int x), (1, .int y)]) [0, 1] rfl ?_
  refine m_iload_n C dX8_isPixel_0 rfl 0 rfl ?_
  refine m_iconst (v := 0) C dX8_isPixel_1 (by decide) ?_
  refine m_bipush (v := 63) C dX8_isPixel_2 (by decide) ?_
  refine m_callSFi (As := [.int x, .int 0, .int 63]) (st := []) C (c_X8_isIn D A l M x 0 63) (va_cwS 3 C.1.2.2.2.2 gX8_isPixel_X8_isIn rfl rfl rfl (by decide +kernel) ⟨Nat.le_of_ble_eq_true rfl, Nat.le_of_ble_eq_true rfl⟩) rfl rfl (Nat.le_of_ble_eq_true rfl) dX8_isPixel_4 ⟨Nat.le_of_ble_eq_true rfl, Nat.le_of_ble_eq_true rfl⟩ ?_
  refine m_if_eq (tgt := 24) C dX8_isPixel_7 (by decide) (fun h_1 => ?_) (fun h_1 => ?_)
  · have h_1 := bI_z h_1
    refine m_iconst (v := 0) C dX8_isPixel_24 (by decide) ?_
    exact m_zret C (Nat.le_of_ble_eq_true rfl) (Nat.le_of_ble_eq_true rfl) dX8_isPixel_25 (Or.inl rfl) (⟨rfl, by simp [q_pix, bI, Int32.not_lt, Int32.not_le, h_1]⟩)
  · have h_1 := bI_n h_1
    refine m_iload_n C dX8_isPixel_10 rfl 1 rfl ?_
    refine m_iconst (v := 0) C dX8_isPixel_11 (by decide) ?_
    refine m_bipush (v := 47) C dX8_isPixel_12 (by decide) ?_
    refine m_callSFi (As := [.int y, .int 0, .int 47]) (st := []) C (c_X8_isIn D A l M y 0 47) (va_cwS 3 C.1.2.2.2.2 gX8_isPixel_X8_isIn rfl rfl rfl (by decide +kernel) ⟨Nat.le_of_ble_eq_true rfl, Nat.le_of_ble_eq_true rfl⟩) rfl rfl (Nat.le_of_ble_eq_true rfl) dX8_isPixel_14 ⟨Nat.le_of_ble_eq_true rfl, Nat.le_of_ble_eq_true rfl⟩ ?_
    refine m_if_eq (tgt := 24) C dX8_isPixel_17 (by decide) (fun h_2 => ?_) (fun h_2 => ?_)
    · have h_2 := bI_z h_2
      refine m_iconst (v := 0) C dX8_isPixel_24 (by decide) ?_
      exact m_zret C (Nat.le_of_ble_eq_true rfl) (Nat.le_of_ble_eq_true rfl) dX8_isPixel_25 (Or.inl rfl) (⟨rfl, by simp [q_pix, bI, Int32.not_lt, Int32.not_le, h_1, h_2]⟩)
    · have h_2 := bI_n h_2
      refine m_iconst (v := 1) C dX8_isPixel_20 (by decide) ?_
      refine m_goto (tgt := 25) C dX8_isPixel_21 (by decide) ?_
      exact m_zret C (Nat.le_of_ble_eq_true rfl) (Nat.le_of_ble_eq_true rfl) dX8_isPixel_25 (Or.inr rfl) (⟨rfl, by simp [q_pix, bI, Int32.not_lt, Int32.not_le, h_1, h_2]⟩)
set_option maxHeartbeats 4000000 in
set_option maxRecDepth 100000 in
theorem c_X8_thrown (D : mD) (A : Nat → Prop) (l : Launch) {G : Nat → Nat} {o : Nat} {F : Mm} {t g u : Int32} {cm : Nat} {ar : rA} {od : Nat → Int32} {M : Mm} (hR : rW D G o F t (nI cm) g u (upA ar 17 od) M) : mMi D A l yX8_thrown wsX8_thrown ({ frames := 0, cells := 0, slots := 0, locals := 0 } : Room) [.ref o] M (fun r M' => M' = M ∧ r = t) 0 0 := by
  refine m_start (cc := cX8_thrown) (maxL := 1) (ret := (some .int)) (by decide) rfl (Nat.le_of_ble_eq_true rfl) ?_
  intro p e s m args below meth c C
  have i8 : ∀ w ∈ wsX80, w ∈ wsX8_thrown := by decide +kernel
  refine m_sub (L' := [(0, .ref o)]) [0] rfl ?_
  refine m_aload_n C dX8_thrown_0 rfl 0 rfl ?_
  refine r_get C hR i8 0 (by decide) (by decide +kernel) rfl rfl dX8_thrown_1 ?_
  exact m_iret C (Nat.le_of_ble_eq_true rfl) (Nat.le_of_ble_eq_true rfl) dX8_thrown_4 (⟨rfl, rfl⟩)
set_option maxHeartbeats 4000000 in
set_option maxRecDepth 100000 in
theorem c_X8_fail (D : mD) (A : Nat → Prop) (l : Launch) {G : Nat → Nat} {o : Nat} {F : Mm} {t g u : Int32} {cm : Nat} {ar : rA} {od : Nat → Int32} {M : Mm} (hR : rW D G o F t (nI cm) g u (upA ar 17 od) M) (v : Int32) : mMi D A l yX8_fail wsX8_fail ({ frames := 0, cells := 0, slots := 0, locals := 0 } : Room) [.ref o, .int v] M (fun r M' => r = 0 ∧ rW D G o F v (nI cm) g u (upA ar 17 od) M') 0 0 := by
  refine m_start (cc := cX8_fail) (maxL := 2) (ret := (some .int)) (by decide) rfl (Nat.le_of_ble_eq_true rfl) ?_
  intro p e s m args below meth c C
  have i8 : ∀ w ∈ wsX80, w ∈ wsX8_fail := by decide +kernel
  refine m_sub (L' := [(0, .ref o), (1, .int v)]) [0, 1] rfl ?_
  refine m_aload_n C dX8_fail_0 rfl 0 rfl ?_
  refine m_iload_n C dX8_fail_1 rfl 1 rfl ?_
  refine r_putT C hR i8 (by decide +kernel) dX8_fail_2 (fun M hR => ?_)
  refine m_iconst (v := 0) C dX8_fail_5 (by decide) ?_
  exact m_iret C (Nat.le_of_ble_eq_true rfl) (Nat.le_of_ble_eq_true rfl) dX8_fail_6 (⟨rfl, hR⟩)
set_option maxHeartbeats 4000000 in
set_option maxRecDepth 100000 in
theorem c_X8_isNode (D : mD) (A : Nat → Prop) (l : Launch) {G : Nat → Nat} {o : Nat} {F : Mm} {t g u : Int32} {cm : Nat} {ar : rA} {od : Nat → Int32} {M : Mm} (hR : rW D G o F t (nI cm) g u (upA ar 17 od) M) (hcm : 1 ≤ cm ∧ cm ≤ 40) (v : Int32) : mMi D A l yX8_isNode wsX8_isNode ({ frames := 1, cells := 0, slots := 0, locals := 22 } : Room) [.ref o, .int v] M (fun r M' => M' = M ∧ r = bI (q_node cm ar v)) 0 0 := by
  refine m_start (cc := cX8_isNode) (maxL := 2) (ret := (some .boolean)) (by decide) rfl (Nat.le_of_ble_eq_true rfl) ?_
  intro p e s m args below meth c C
  have i8 : ∀ w ∈ wsX80, w ∈ wsX8_isNode := by decide +kernel
  refine m_sub (L' := [(0, .ref o), (1, .int v)]) [0, 1] rfl ?_
  refine m_iload_n C dX8_isNode_0 rfl 1 rfl ?_
  refine m_iconst (v := 0) C dX8_isNode_1 (by decide) ?_
  refine m_aload_n C dX8_isNode_2 rfl 0 rfl ?_
  refine r_get C hR i8 1 (by decide) (by decide +kernel) rfl rfl dX8_isNode_3 ?_
  refine m_iconst (v := 1) C dX8_isNode_6 (by decide) ?_
  refine m_isub C dX8_isNode_7 ?_
  refine m_callSFi (As := [.int v, .int 0, .int ((nI cm) - 1)]) (st := []) C (c_X8_isIn D A l M v 0 ((nI cm) - 1)) (va_cwS 3 C.1.2.2.2.2 gX8_isNode_X8_isIn rfl rfl rfl (by decide +kernel) ⟨Nat.le_of_ble_eq_true rfl, Nat.le_of_ble_eq_true rfl⟩) rfl rfl (Nat.le_of_ble_eq_true rfl) dX8_isNode_8 ⟨Nat.le_of_ble_eq_true rfl, Nat.le_of_ble_eq_true rfl⟩ ?_
  refine m_if_eq (tgt := 27) C dX8_isNode_11 (by decide) (fun h1 => ?_) (fun h1 => ?_)
  · have h1 := bI_z h1
    refine m_iconst (v := 0) C dX8_isNode_27 (by decide) ?_
    exact m_zret C (Nat.le_of_ble_eq_true rfl) (Nat.le_of_ble_eq_true rfl) dX8_isNode_28 (Or.inl rfl) (⟨rfl, by simp [q_node, bI, Int32.not_lt, Int32.not_le, h1]⟩)
  · have h1 := bI_n h1
    obtain ⟨j, hj, rfl⟩ := q_node_N (ar := ar) hcm h1
    refine m_aload_n C dX8_isNode_14 rfl 0 rfl ?_
    refine r_get C hR i8 2 (by decide) (by decide +kernel) rfl rfl dX8_isNode_15 ?_
    refine m_iload_n C dX8_isNode_18 rfl 1 rfl ?_
    refine r_zald C hR 2 (by decide) rfl j (show j < 40 by omega) (rfl) dX8_isNode_19 ?_
    refine m_i (y := ar 2 j) (rfl) ?_
    refine m_if_eq (tgt := 27) C dX8_isNode_20 (by decide) (fun h_1 => ?_) (fun h_1 => ?_)
    · refine m_iconst (v := 0) C dX8_isNode_27 (by decide) ?_
      exact m_zret C (Nat.le_of_ble_eq_true rfl) (Nat.le_of_ble_eq_true rfl) dX8_isNode_28 (Or.inl rfl) (⟨rfl, by simp [q_node, bI, Int32.not_lt, Int32.not_le, h1, nI_clamp (show j < 2 ^ 31 by omega), h_1]⟩)
    · refine m_iconst (v := 1) C dX8_isNode_23 (by decide) ?_
      refine m_goto (tgt := 28) C dX8_isNode_24 (by decide) ?_
      exact m_zret C (Nat.le_of_ble_eq_true rfl) (Nat.le_of_ble_eq_true rfl) dX8_isNode_28 (Or.inr rfl) (⟨rfl, by simp [q_node, bI, Int32.not_lt, Int32.not_le, h1, nI_clamp (show j < 2 ^ 31 by omega), h_1]⟩)
set_option maxHeartbeats 4000000 in
set_option maxRecDepth 100000 in
theorem c_X8_isGroup (D : mD) (A : Nat → Prop) (l : Launch) {G : Nat → Nat} {o : Nat} {F : Mm} {t g u : Int32} {cm : Nat} {ar : rA} {od : Nat → Int32} {M : Mm} (hR : rW D G o F t (nI cm) g u (upA ar 17 od) M) {j : Nat} (hj : j < 40) : mMi D A l yX8_isGroup wsX8_isGroup ({ frames := 0, cells := 0, slots := 0, locals := 0 } : Room) [.ref o, .int (nI j)] M (fun r M' => M' = M ∧ r = bI (decide (ar 3 j = 0))) 0 0 := by
  refine m_start (cc := cX8_isGroup) (maxL := 2) (ret := (some .boolean)) (by decide) rfl (Nat.le_of_ble_eq_true rfl) ?_
  intro p e s m args below meth c C
  have i8 : ∀ w ∈ wsX80, w ∈ wsX8_isGroup := by decide +kernel
  refine m_sub (L' := [(0, .ref o), (1, .int (nI j))]) [0, 1] rfl ?_
  refine m_aload_n C dX8_isGroup_0 rfl 0 rfl ?_
  refine r_get C hR i8 3 (by decide) (by decide +kernel) rfl rfl dX8_isGroup_1 ?_
  refine m_iload_n C dX8_isGroup_4 rfl 1 rfl ?_
  refine r_iald C hR 3 (by decide) rfl j (show j < 40 by omega) (rfl) dX8_isGroup_5 ?_
  refine m_i (y := ar 3 j) (rfl) ?_
  refine m_if_ne (tgt := 13) C dX8_isGroup_6 (by decide) (fun h_1 => ?_) (fun h_1 => ?_)
  · refine m_iconst (v := 0) C dX8_isGroup_13 (by decide) ?_
    exact m_zret C (Nat.le_of_ble_eq_true rfl) (Nat.le_of_ble_eq_true rfl) dX8_isGroup_14 (Or.inl rfl) (⟨rfl, by simp [bI, Int32.not_lt, Int32.not_le, h_1]⟩)
  · refine m_iconst (v := 1) C dX8_isGroup_9 (by decide) ?_
    refine m_goto (tgt := 14) C dX8_isGroup_10 (by decide) ?_
    exact m_zret C (Nat.le_of_ble_eq_true rfl) (Nat.le_of_ble_eq_true rfl) dX8_isGroup_14 (Or.inr rfl) (⟨rfl, by simp [bI, Int32.not_lt, Int32.not_le, h_1]⟩)
set_option maxHeartbeats 4000000 in
set_option maxRecDepth 100000 in
theorem c_X8_insert (D : mD) (A : Nat → Prop) (l : Launch) {G : Nat → Nat} {o : Nat} {F : Mm} {t g u : Int32} {cm : Nat} {ar : rA} {od : Nat → Int32} {M : Mm} (hR : rW D G o F t (nI cm) g u (upA ar 17 od) M) {j q pl m9 : Nat} (hj : j < 40) (hq : q < 40) (hm : ar 5 q = nI m9) (hm9 : m9 ≤ 39) (hpl : pl ≤ m9) : mMv D A l yX8_insert wsX8_insert ({ frames := 1, cells := 0, slots := 0, locals := 60 } : Room) [.ref o, .int (nI j), .int (nI q), .int (nI pl)] M (fun M' => rW D G o F t (nI cm) g u (upA (q_ins ar j q pl m9) 17 od) M') 0 0 := by
  refine m_start (cc := cX8_insert) (maxL := 5) (ret := none) (by decide) rfl (Nat.le_of_ble_eq_true rfl) ?_
  intro p e s m args below meth c C
  have i8 : ∀ w ∈ wsX80, w ∈ wsX8_insert := by decide +kernel
  refine m_sub (L' := [(0, .ref o), (1, .int (nI j)), (2, .int (nI q)), (3, .int (nI pl))]) [0, 1, 2, 3] rfl ?_
  refine m_bipush (v := 40) C dX8_insert_0 (by decide) ?_
  refine m_iload_n C dX8_insert_2 rfl 2 rfl ?_
  refine m_imul C dX8_insert_3 ?_
  refine m_iload_n C dX8_insert_4 rfl 3 rfl ?_
  refine m_iadd C dX8_insert_5 ?_
  obtain ⟨x1, ex1⟩ : ∃ z : Int32, z = nI (40 * q + pl) := ⟨_, rfl⟩
  refine m_i (y := x1) (by rw [ex1, show (40 : Int32) = nI 40 from rfl, pk_mul, nI_add]) ?_
  refine m_istore (L' := [(4, .int x1), (0, .ref o), (1, .int (nI j)), (2, .int (nI q)), (3, .int (nI pl))]) C dX8_insert_6 (by decide) rfl ?_
  refine m_aload_n C dX8_insert_8 rfl 1 rfl ?_
  refine r_get C hR i8 6 (by decide) (by decide +kernel) rfl rfl dX8_insert_9 ?_
  refine m_iload C dX8_insert_12 0 rfl ?_
  refine m_aload_n C dX8_insert_14 rfl 1 rfl ?_
  refine r_get C hR i8 6 (by decide) (by decide +kernel) rfl rfl dX8_insert_15 ?_
  refine m_iload C dX8_insert_18 0 rfl ?_
  refine m_iconst (v := 1) C dX8_insert_20 (by decide) ?_
  refine m_iadd C dX8_insert_21 ?_
  refine m_aload_n C dX8_insert_22 rfl 1 rfl ?_
  refine r_get C hR i8 5 (by decide) (by decide +kernel) rfl rfl dX8_insert_23 ?_
  refine m_iload_n C dX8_insert_26 rfl 3 rfl ?_
  refine r_iald C hR 5 (by decide) rfl q (show q < 40 by omega) (rfl) dX8_insert_27 ?_
  refine m_i (y := ar 5 q) (rfl) ?_
  refine m_i (y := nI m9) (hm) ?_
  refine m_iload_n C dX8_insert_28 rfl 4 rfl ?_
  refine m_isub C dX8_insert_29 ?_
  refine r_copyS C hR (by decide +kernel) (by decide +kernel) (by decide +kernel) (by decide +kernel) 6 (by decide) rfl (40 * q + pl) (40 * q + pl + 1) (m9 - pl) (by rw [ex1]) (by rw [ex1, nI_1]) (by rw [pk_sub hpl]) (show _ ≤ 1600 by omega) (show _ ≤ 1600 by omega) (by decide) (by decide) dX8_insert_30 (fun M hR => ?_)
  have hR := r_c17 (f := 6) (v := va_cpy (ar 6) (ar 6) (40 * q + pl) (40 * q + pl + 1) (m9 - pl)) (by decide) hR
  refine m_aload_n C dX8_insert_33 rfl 1 rfl ?_
  refine r_get C hR i8 6 (by decide) (by decide +kernel) rfl rfl dX8_insert_34 ?_
  refine m_iload C dX8_insert_37 0 rfl ?_
  refine m_iload_n C dX8_insert_39 rfl 2 rfl ?_
  refine r_iast C hR 6 (by decide) rfl (40 * q + pl) (show (40 * q + pl) < 1600 by omega) (ex1) dX8_insert_40 (fun M hR => ?_)
  have hR := r_c17 (f := 6) (v := upd (va_cpy (ar 6) (ar 6) (40 * q + pl) (40 * q + pl + 1) (m9 - pl)) (40 * q + pl) (nI j)) (by decide) hR
  rw [upA_upA] at hR
  refine m_aload_n C dX8_insert_41 rfl 1 rfl ?_
  refine r_get C hR i8 5 (by decide) (by decide +kernel) rfl rfl dX8_insert_42 ?_
  refine m_iload_n C dX8_insert_45 rfl 3 rfl ?_
  refine m_dup2 C dX8_insert_46 rfl rfl ?_
  refine r_iald C hR 5 (by decide) rfl q (show q < 40 by omega) (rfl) dX8_insert_47 ?_
  refine m_i (y := ar 5 q) (rfl) ?_
  refine m_i (y := nI m9) (hm) ?_
  refine m_iconst (v := 1) C dX8_insert_48 (by decide) ?_
  refine m_iadd C dX8_insert_49 ?_
  refine m_i (y := nI (m9 + 1)) (by rw [nI_1]) ?_
  refine r_iast C hR 5 (by decide) rfl q (show q < 40 by omega) (rfl) dX8_insert_50 (fun M hR => ?_)
  have hR := r_c17 (f := 5) (v := upd (ar 5) q (nI (m9 + 1))) (by decide) hR
  refine m_aload_n C dX8_insert_51 rfl 1 rfl ?_
  refine r_get C hR i8 4 (by decide) (by decide +kernel) rfl rfl dX8_insert_52 ?_
  refine m_iload_n C dX8_insert_55 rfl 2 rfl ?_
  refine m_iload_n C dX8_insert_56 rfl 3 rfl ?_
  refine r_iast C hR 4 (by decide) rfl j (show j < 40 by omega) (rfl) dX8_insert_57 (fun M hR => ?_)
  have hR := r_c17 (f := 4) (v := upd (ar 4) j (nI q)) (by decide) hR
  exact m_vret C (Nat.le_of_ble_eq_true rfl) (Nat.le_of_ble_eq_true rfl) dX8_insert_58 (hR)
set_option maxHeartbeats 4000000 in
set_option maxRecDepth 100000 in
theorem lp_X8_placeOf {p : Program} {l : Launch} {e : Env} {s : State} {m : MethodId} {args : Array Value} {below : List Frame} {meth : Method} {c : Code} {Q : State → Prop} {D : mD} {A : Nat → Prop} {G : Nat → Nat} {o : Nat} {F : Mm} {t g u : Int32} {cm : Nat} {ar : rA} {od : Nat → Int32} {M : Mm} (hR : rW D G o F t (nI cm) g u (upA ar 17 od) M) {j q k9 : Nat} (hj : j < 40) (hq40 : q < 40) (hq : ar 4 j = nI q) (hk40 : k9 < 40) (hk9 : ar 6 (40 * q + k9) = nI j) (hlo : ∀ i, i < k9 → ¬ ar 6 (40 * q + i) = nI j) (C : mC p m meth c cX8_placeOf 3 s args wsX8_placeOf yX8_placeOf.cls D A yX8_placeOf (some .int)) (i8 : ∀ w ∈ wsX80, w ∈ wsX8_placeOf) (kx : mV p l e ({ frames := 0, cells := 0, slots := 0, locals := 0 } : Room) s m args below meth c 3 D A Q M 0 0 [(2, .int (nI k9)), (0, .ref o), (1, .int (nI j))] [] 34) : ∀ (N : Nat) (i : Nat), k9 - i = N → i ≤ k9 → mV p l e ({ frames := 0, cells := 0, slots := 0, locals := 0 } : Room) s m args below meth c 3 D A Q M 0 0 [(2, .int (nI i)), (0, .ref o), (1, .int (nI j))] [] 8 := by
  intro N
  induction N using Nat.strongRecOn with
  | _ N ih =>
    intro i hN hi
    refine m_aload_n C dX8_placeOf_8 rfl 1 rfl ?_
    refine r_get C hR i8 6 (by decide) (by decide +kernel) rfl rfl dX8_placeOf_9 ?_
    refine m_bipush (v := 40) C dX8_placeOf_12 (by decide) ?_
    refine m_aload_n C dX8_placeOf_14 rfl 1 rfl ?_
    refine r_get C hR i8 4 (by decide) (by decide +kernel) rfl rfl dX8_placeOf_15 ?_
    refine m_iload_n C dX8_placeOf_18 rfl 2 rfl ?_
    refine r_iald C hR 4 (by decide) rfl j (show j < 40 by omega) (rfl) dX8_placeOf_19 ?_
    refine m_i (y := ar 4 j) (rfl) ?_
    refine m_i (y := nI q) (hq) ?_
    refine m_imul C dX8_placeOf_20 ?_
    refine m_iload_n C dX8_placeOf_21 rfl 0 rfl ?_
    refine m_iadd C dX8_placeOf_22 ?_
    refine m_i (y := nI (40 * q + i)) (by rw [show (40 : Int32) = nI 40 from rfl, pk_mul, nI_add]) ?_
    refine r_iald C hR 6 (by decide) rfl (40 * q + i) (show (40 * q + i) < 1600 by omega) (rfl) dX8_placeOf_23 ?_
    refine m_i (y := ar 6 (40 * q + i)) (rfl) ?_
    refine m_iload_n C dX8_placeOf_24 rfl 2 rfl ?_
    refine m_icmp_eq (tgt := 34) C dX8_placeOf_25 (by decide) (fun h1 => ?_) (fun h1 => ?_)
    · have hik : i = k9 := by
        rcases Nat.lt_or_ge i k9 with z | z
        · exact absurd h1 (hlo i z)
        · omega
      subst hik
      exact kx
    · have hik : i < k9 := by
        rcases Nat.lt_or_ge i k9 with z | z
        · exact z
        · exfalso
          have : i = k9 := by omega
          subst this
          exact h1 hk9
      obtain ⟨x_1, ex_1⟩ : ∃ z : Int32, z = nI i + 1 := ⟨_, rfl⟩
      refine m_iinc (q := 0) (v := x_1) (L' := [(2, .int x_1), (0, .ref o), (1, .int (nI j))]) C dX8_placeOf_28 rfl (by rw [ex_1]; rfl) (by decide) rfl ?_
      refine m_goto (tgt := 8) C dX8_placeOf_31 (by decide) ?_
      rw [nI_1] at ex_1
      subst ex_1
      refine m_sub (L' := [(2, .int (nI (i + 1))), (0, .ref o), (1, .int (nI j))]) [0, 1, 2] rfl ?_
      exact ih (k9 - (i + 1)) (by omega) (i + 1) rfl (by omega)
set_option maxHeartbeats 4000000 in
set_option maxRecDepth 100000 in
theorem c_X8_placeOf (D : mD) (A : Nat → Prop) (l : Launch) {G : Nat → Nat} {o : Nat} {F : Mm} {t g u : Int32} {cm : Nat} {ar : rA} {od : Nat → Int32} {M : Mm} (hR : rW D G o F t (nI cm) g u (upA ar 17 od) M) {j q k9 : Nat} (hj : j < 40) (hp : ¬ j = 0 → q < 40 ∧ ar 4 j = nI q ∧ k9 < 40 ∧ ar 6 (40 * q + k9) = nI j ∧ ∀ i, i < k9 → ¬ ar 6 (40 * q + i) = nI j) : mMi D A l yX8_placeOf wsX8_placeOf ({ frames := 0, cells := 0, slots := 0, locals := 0 } : Room) [.ref o, .int (nI j)] M (fun r M' => M' = M ∧ r = nI (if j = 0 then 0 else k9)) 0 0 := by
  refine m_start (cc := cX8_placeOf) (maxL := 3) (ret := (some .int)) (by decide) rfl (Nat.le_of_ble_eq_true rfl) ?_
  intro p e s m args below meth c C
  have i8 : ∀ w ∈ wsX80, w ∈ wsX8_placeOf := by decide +kernel
  refine m_sub (L' := [(0, .ref o), (1, .int (nI j))]) [0, 1] rfl ?_
  refine m_iload_n C dX8_placeOf_0 rfl 1 rfl ?_
  refine m_if_ne (tgt := 6) C dX8_placeOf_1 (by decide) (fun h1 => ?_) (fun h1 => ?_)
  · refine m_iconst (v := 0) C dX8_placeOf_6 (by decide) ?_
    refine m_istore_n (L' := [(2, .int 0), (0, .ref o), (1, .int (nI j))]) C dX8_placeOf_7 rfl (by decide) rfl ?_
    refine m_sub (L' := [(2, .int (nI 0)), (0, .ref o), (1, .int (nI j))]) [0, 1, 2] rfl ?_
    have hj0 : ¬ j = 0 := fun z => h1 (by rw [z]; rfl)
    obtain ⟨hq40, hq, hk40, hk9, hlo⟩ := hp hj0
    refine lp_X8_placeOf hR hj hq40 hq hk40 hk9 hlo C i8 ?_ _ 0 rfl (Nat.zero_le _)
    refine m_iload_n C dX8_placeOf_34 rfl 0 rfl ?_
    exact m_iret C (Nat.le_of_ble_eq_true rfl) (Nat.le_of_ble_eq_true rfl) dX8_placeOf_35 (⟨rfl, by rw [if_neg hj0]⟩)
  · refine m_iconst (v := 0) C dX8_placeOf_4 (by decide) ?_
    exact m_iret C (Nat.le_of_ble_eq_true rfl) (Nat.le_of_ble_eq_true rfl) dX8_placeOf_5 (⟨rfl, by rw [if_pos ((nI_eq (by omega) (by decide)).mp (show nI j = nI 0 from h1))]; rfl⟩)
