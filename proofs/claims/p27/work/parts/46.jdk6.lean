/-! ===== the library: lists, taking out, clearing, making ===== -/
theorem jrem {f : Nat → Option Nat} {n j : Nat} (hj : j + 1 < n) : (∀ k, k < j → va_up (va_cpy f f (j + 1) j (n - 1 - j)) (n - 1) none k = f k) ∧ ∀ k, j ≤ k → k + 1 < n → va_up (va_cpy f f (j + 1) j (n - 1 - j)) (n - 1) none k = f (k + 1) := by
  refine ⟨fun k hk => ?_, fun k h1 h2 => ?_⟩
  · unfold va_up va_cpy
    rw [if_neg (by omega), if_neg (by omega)]
  · unfold va_up va_cpy
    rw [if_neg (by omega), if_pos ⟨by omega, by omega⟩, show j + 1 + (k - j) = k + 1 by omega]
theorem jrem0 {f : Nat → Option Nat} {n j : Nat} (hj : j + 1 = n) : (∀ k, k < j → va_up f (n - 1) none k = f k) ∧ ∀ k, j ≤ k → k + 1 < n → va_up f (n - 1) none k = f (k + 1) := by
  refine ⟨fun k hk => ?_, fun k h1 h2 => ?_⟩
  · unfold va_up
    rw [if_neg (by omega)]
  · omega
set_option maxHeartbeats 4000000 in
set_option maxRecDepth 100000 in
theorem c_Jx4a65c_fastRemove_b59b0 (D : mD) (A : Nat → Prop) (l : Launch) {a b cap n j : Nat} {mc : Int32} {f : Nat → Option Nat} {M0 : Mm} (h_a0 : M0 a = some (jLs mc b n)) (h_b0 : M0 b = some (jQ D cap f)) (hnc : n ≤ cap) (hc60 : cap ≤ 60) (hj : j < n) (hel : jN6 M0 f n) : mMv D A l yJx4a65c_fastRemove_b59b0 wsJx4a65c_fastRemove_b59b0 ({ frames := 1, cells := 0, slots := 0, locals := 120 } : Room) [.ref a, .ref b, .int (nI j)] M0 (fun M' => ∃ (g : Nat → Option Nat) (mc' : Int32), mX [b, a] M0 M' ∧ M' a = some (jLs mc' b (n - 1)) ∧ M' b = some (jQ D cap g) ∧ ((∀ k, k < j → g k = f k) ∧ ∀ k, j ≤ k → k + 1 < n → g k = f (k + 1))) 0 0 := by
  refine m_start (cc := cJx4a65c_fastRemove_b59b0) (maxL := 4) (ret := none) (by decide) rfl (Nat.le_of_ble_eq_true rfl) ?_
  intro p e s m args below meth c C
  refine m_sub (L' := [(0, .ref a), (1, .ref b), (2, .int (nI j))]) [0, 1, 2] rfl ?_
  obtain ⟨M, eM⟩ : ∃ z : Mm, z = M0 := ⟨_, rfl⟩
  refine m_mem (M' := M) (by rw [eM]; exact fun _ _ h => h) ?_
  have h_a : M a = some (.inr (2, [.int mc, .ref b, .int (nI n)])) := by rw [eM]; exact h_a0
  have h_b : M b = some (jQ D cap f) := by rw [eM]; exact h_b0
  have hX : mX [b, a] M0 M := by rw [eM]; exact mX.rf
  have iL : ∀ w ∈ wsJx4a65c0, w ∈ wsJx4a65c_fastRemove_b59b0 := by decide +kernel
  have hX8 : mX [a] M0 M := by rw [eM]; exact mX.rf
  clear eM
  refine m_aload_n C dJx4a65c_fastRemove_b59b0_0 rfl 0 rfl ?_
  refine m_dup C dJx4a65c_fastRemove_b59b0_1 rfl ?_
  refine m_get (ref := "java/util/ArrayList") C h_a rfl iL 0 (by decide) (by decide +kernel) (fun x h => u_same (C.1.2.2.2.2 _ (by decide +kernel)) x h) (v := .int mc) rfl dJx4a65c_fastRemove_b59b0_2 ?_
  refine m_iconst (v := 1) C dJx4a65c_fastRemove_b59b0_5 (by decide) ?_
  refine m_iadd C dJx4a65c_fastRemove_b59b0_6 ?_
  refine m_put (ref := "java/util/ArrayList") C h_a rfl iL tyJx4a65c tyJx4a65c_ok nmJx4a65c 0 (by decide) (by decide +kernel) (fun x h => u_same (C.1.2.2.2.2 _ (by decide +kernel)) x h) rfl rfl rfl (Nat.le_of_ble_eq_true rfl) (e' := .inr (2, [.int (mc + 1), .ref b, .int (nI n)])) rfl dJx4a65c_fastRemove_b59b0_7 ?_
  have g_b : (m_up M a (.inr (2, [.int (mc + 1), .ref b, .int (nI n)]))) b = some (jQ D cap f) := (m_up_n (m_ne h_b h_a (fun z => by cases z))).trans h_b
  have g_a : (m_up M a (.inr (2, [.int (mc + 1), .ref b, .int (nI n)]))) a = some (.inr (2, [.int (mc + 1), .ref b, .int (nI n)])) := m_up_s
  have gX := hX.put (a := a) (e := .inr (2, [.int (mc + 1), .ref b, .int (nI n)])) (by simp)
  have g8 := hX8.put (a := a) (e := .inr (2, [.int (mc + 1), .ref b, .int (nI n)])) (by simp)
  revert g_b g_a gX g8
  generalize m_up M a (.inr (2, [.int (mc + 1), .ref b, .int (nI n)])) = M
  intro h_b h_a hX hX8
  refine m_aload_n C dJx4a65c_fastRemove_b59b0_10 rfl 0 rfl ?_
  refine m_get (ref := "java/util/ArrayList") C h_a rfl iL 2 (by decide) (by decide +kernel) (fun x h => h) (v := .int (nI n)) rfl dJx4a65c_fastRemove_b59b0_11 ?_
  refine m_iconst (v := 1) C dJx4a65c_fastRemove_b59b0_14 (by decide) ?_
  refine m_isub C dJx4a65c_fastRemove_b59b0_15 ?_
  refine m_i (y := nI (n - 1)) (pk_sub (b := 1) (by omega)) ?_
  refine m_dup C dJx4a65c_fastRemove_b59b0_16 rfl ?_
  refine m_istore_n (L' := [(3, .int (nI (n - 1))), (0, .ref a), (1, .ref b), (2, .int (nI j))]) C dJx4a65c_fastRemove_b59b0_17 rfl (by decide) rfl ?_
  refine m_iload_n C dJx4a65c_fastRemove_b59b0_18 rfl 3 rfl ?_
  refine m_icmp_le (tgt := 34) C dJx4a65c_fastRemove_b59b0_19 (by decide) (fun h_1 => ?_) (fun h_1 => ?_)
  · have hj1 : j + 1 = n := by
      have := (nI_leI (a := n - 1) (b := j) (by omega) (by omega)).mp h_1
      omega
    refine m_aload_n C dJx4a65c_fastRemove_b59b0_34 rfl 2 rfl ?_
    refine m_aload_n C dJx4a65c_fastRemove_b59b0_35 rfl 1 rfl ?_
    refine m_iload_n C dJx4a65c_fastRemove_b59b0_36 rfl 0 rfl ?_
    refine m_dup_x1 C dJx4a65c_fastRemove_b59b0_37 rfl rfl ?_
    refine m_put (ref := "java/util/ArrayList") C h_a rfl iL tyJx4a65c tyJx4a65c_ok nmJx4a65c 2 (by decide) (by decide +kernel) (fun x h => h) rfl rfl rfl (Nat.le_of_ble_eq_true rfl) (e' := .inr (2, [.int (mc + 1), .ref b, .int (nI (n - 1))])) rfl dJx4a65c_fastRemove_b59b0_38 ?_
    have g_b : (m_up M a (.inr (2, [.int (mc + 1), .ref b, .int (nI (n - 1))]))) b = some (jQ D cap f) := (m_up_n (m_ne h_b h_a (fun z => by cases z))).trans h_b
    have g_a : (m_up M a (.inr (2, [.int (mc + 1), .ref b, .int (nI (n - 1))]))) a = some (.inr (2, [.int (mc + 1), .ref b, .int (nI (n - 1))])) := m_up_s
    have gX := hX.put (a := a) (e := .inr (2, [.int (mc + 1), .ref b, .int (nI (n - 1))])) (by simp)
    have g8 := hX8.put (a := a) (e := .inr (2, [.int (mc + 1), .ref b, .int (nI (n - 1))])) (by simp)
    revert g_b g_a gX g8
    generalize m_up M a (.inr (2, [.int (mc + 1), .ref b, .int (nI (n - 1))])) = M
    intro h_b h_a hX hX8
    refine m_null C dJx4a65c_fastRemove_b59b0_41 ?_
    refine m_aastN C h_b 3 rfl (vp_in_nI (show n - 1 < cap by omega) (by omega)) dJx4a65c_fastRemove_b59b0_42 ?_
    rw [nI_clamp (show n - 1 < 2 ^ 31 by omega)]
    have g_a : (m_up M b (jQ D cap (va_up f (n - 1) none))) a = some (.inr (2, [.int (mc + 1), .ref b, .int (nI (n - 1))])) := (m_up_n (m_ne h_a h_b (fun z => by cases z))).trans h_a
    have g_b : (m_up M b (jQ D cap (va_up f (n - 1) none))) b = some (jQ D cap (va_up f (n - 1) none)) := m_up_s
    have gX := hX.put (a := b) (e := jQ D cap (va_up f (n - 1) none)) (by simp)
    clear hX8
    revert g_a g_b gX
    generalize m_up M b (jQ D cap (va_up f (n - 1) none)) = M
    intro h_a h_b hX
    exact m_vret C (Nat.le_of_ble_eq_true rfl) (Nat.le_of_ble_eq_true rfl) dJx4a65c_fastRemove_b59b0_43 (⟨_, _, hX, h_a, h_b, jrem0 hj1⟩)
  · have hj1 : j + 1 < n := by
      rcases Nat.lt_or_ge (j + 1) n with z | z
      · exact z
      · exact absurd (nI_le (a := n - 1) (b := j) (by omega) (by omega)) h_1
    refine m_aload_n C dJx4a65c_fastRemove_b59b0_22 rfl 2 rfl ?_
    refine m_iload_n C dJx4a65c_fastRemove_b59b0_23 rfl 3 rfl ?_
    refine m_iconst (v := 1) C dJx4a65c_fastRemove_b59b0_24 (by decide) ?_
    refine m_iadd C dJx4a65c_fastRemove_b59b0_25 ?_
    refine m_i (y := nI (j + 1)) (nI_1 j) ?_
    refine m_aload_n C dJx4a65c_fastRemove_b59b0_26 rfl 2 rfl ?_
    refine m_iload_n C dJx4a65c_fastRemove_b59b0_27 rfl 3 rfl ?_
    refine m_iload_n C dJx4a65c_fastRemove_b59b0_28 rfl 0 rfl ?_
    refine m_iload_n C dJx4a65c_fastRemove_b59b0_29 rfl 3 rfl ?_
    refine m_isub C dJx4a65c_fastRemove_b59b0_30 ?_
    refine m_i (y := nI (n - 1 - j)) (pk_sub (by omega)) ?_
    refine m_copyq (index := 112) C (by decide +kernel) (by decide +kernel) (by decide +kernel) (by decide +kernel) (t0 := 3) (ci := 6) rfl rfl C.2.1.2.2.2.2.2.2.1.1 h_b h_b (sp := j + 1) (dp := j) (nn := n - 1 - j) rfl rfl rfl (by omega) (by omega) (by omega) (fun i9 y9 hi9 hy9 => ?_) (Nat.le_of_ble_eq_true rfl) (Nat.le_of_ble_eq_true rfl) dJx4a65c_fastRemove_b59b0_31 ?_
    · obtain ⟨fs9, z9⟩ := hel (j + 1 + i9) y9 (by omega) hy9
      exact ⟨fs9, by rw [hX8 y9 (by simp; exact m_ne z9 h_a0 (fun z => by cases z))]; exact z9⟩
    have g_a : (m_up M b (jQ D cap (va_cpy f f (j + 1) j (n - 1 - j)))) a = some (.inr (2, [.int (mc + 1), .ref b, .int (nI n)])) := (m_up_n (m_ne h_a h_b (fun z => by cases z))).trans h_a
    have g_b : (m_up M b (jQ D cap (va_cpy f f (j + 1) j (n - 1 - j)))) b = some (jQ D cap (va_cpy f f (j + 1) j (n - 1 - j))) := m_up_s
    have gX := hX.put (a := b) (e := jQ D cap (va_cpy f f (j + 1) j (n - 1 - j))) (by simp)
    clear hX8
    revert g_a g_b gX
    generalize m_up M b (jQ D cap (va_cpy f f (j + 1) j (n - 1 - j))) = M
    intro h_a h_b hX
    refine m_aload_n C dJx4a65c_fastRemove_b59b0_34 rfl 2 rfl ?_
    refine m_aload_n C dJx4a65c_fastRemove_b59b0_35 rfl 1 rfl ?_
    refine m_iload_n C dJx4a65c_fastRemove_b59b0_36 rfl 0 rfl ?_
    refine m_dup_x1 C dJx4a65c_fastRemove_b59b0_37 rfl rfl ?_
    refine m_put (ref := "java/util/ArrayList") C h_a rfl iL tyJx4a65c tyJx4a65c_ok nmJx4a65c 2 (by decide) (by decide +kernel) (fun x h => h) rfl rfl rfl (Nat.le_of_ble_eq_true rfl) (e' := .inr (2, [.int (mc + 1), .ref b, .int (nI (n - 1))])) rfl dJx4a65c_fastRemove_b59b0_38 ?_
    have g_b : (m_up M a (.inr (2, [.int (mc + 1), .ref b, .int (nI (n - 1))]))) b = some (jQ D cap (va_cpy f f (j + 1) j (n - 1 - j))) := (m_up_n (m_ne h_b h_a (fun z => by cases z))).trans h_b
    have g_a : (m_up M a (.inr (2, [.int (mc + 1), .ref b, .int (nI (n - 1))]))) a = some (.inr (2, [.int (mc + 1), .ref b, .int (nI (n - 1))])) := m_up_s
    have gX := hX.put (a := a) (e := .inr (2, [.int (mc + 1), .ref b, .int (nI (n - 1))])) (by simp)
    revert g_b g_a gX
    generalize m_up M a (.inr (2, [.int (mc + 1), .ref b, .int (nI (n - 1))])) = M
    intro h_b h_a hX
    refine m_null C dJx4a65c_fastRemove_b59b0_41 ?_
    refine m_aastN C h_b 3 rfl (vp_in_nI (show n - 1 < cap by omega) (by omega)) dJx4a65c_fastRemove_b59b0_42 ?_
    rw [nI_clamp (show n - 1 < 2 ^ 31 by omega)]
    have g_a : (m_up M b (jQ D cap (va_up (va_cpy f f (j + 1) j (n - 1 - j)) (n - 1) none))) a = some (.inr (2, [.int (mc + 1), .ref b, .int (nI (n - 1))])) := (m_up_n (m_ne h_a h_b (fun z => by cases z))).trans h_a
    have g_b : (m_up M b (jQ D cap (va_up (va_cpy f f (j + 1) j (n - 1 - j)) (n - 1) none))) b = some (jQ D cap (va_up (va_cpy f f (j + 1) j (n - 1 - j)) (n - 1) none)) := m_up_s
    have gX := hX.put (a := b) (e := jQ D cap (va_up (va_cpy f f (j + 1) j (n - 1 - j)) (n - 1) none)) (by simp)
    revert g_a g_b gX
    generalize m_up M b (jQ D cap (va_up (va_cpy f f (j + 1) j (n - 1 - j)) (n - 1) none)) = M
    intro h_a h_b hX
    exact m_vret C (Nat.le_of_ble_eq_true rfl) (Nat.le_of_ble_eq_true rfl) dJx4a65c_fastRemove_b59b0_43 (⟨_, _, hX, h_a, h_b, jrem hj1⟩)
set_option maxHeartbeats 4000000 in
set_option maxRecDepth 100000 in
theorem c_Jx4a65c_remove_915e3 (D : mD) (A : Nat → Prop) (l : Launch) {a b cap n j : Nat} {mc : Int32} {f : Nat → Option Nat} {M0 : Mm} (h_a0 : M0 a = some (jLs mc b n)) (h_b0 : M0 b = some (jQ D cap f)) (hnc : n ≤ cap) (hc60 : cap ≤ 60) (hj : j < n) (hel : jN6 M0 f n) : mMq D A l yJx4a65c_remove_915e3 wsJx4a65c_remove_915e3 ({ frames := 2, cells := 0, slots := 0, locals := 180 } : Room) [.ref a, .int (nI j)] M0 (fun r M' => r = f j ∧ ∃ (g : Nat → Option Nat) (mc' : Int32), mX [b, a] M0 M' ∧ M' a = some (jLs mc' b (n - 1)) ∧ M' b = some (jQ D cap g) ∧ ((∀ k, k < j → g k = f k) ∧ ∀ k, j ≤ k → k + 1 < n → g k = f (k + 1))) 0 0 := by
  refine m_start (cc := cJx4a65c_remove_915e3) (maxL := 4) (ret := (some (.object "java/lang/Object"))) (by decide) rfl (Nat.le_of_ble_eq_true rfl) ?_
  intro p e s m args below meth c C
  refine m_sub (L' := [(0, .ref a), (1, .int (nI j))]) [0, 1] rfl ?_
  have iL : ∀ w ∈ wsJx4a65c0, w ∈ wsJx4a65c_remove_915e3 := by decide +kernel
  have h_a := h_a0
  have h_b := h_b0
  have hN : n < 2 ^ 31 := by omega
  refine m_iload_n C dJx4a65c_remove_915e3_0 rfl 1 rfl ?_
  refine m_aload_n C dJx4a65c_remove_915e3_1 rfl 0 rfl ?_
  refine m_get (ref := "java/util/ArrayList") C h_a rfl iL 2 (by decide) (by decide +kernel) (fun x h => h) (v := .int (nI n)) rfl dJx4a65c_remove_915e3_2 ?_
  refine m_callSFi (As := [.int (nI j), .int (nI n)]) (st := []) (v := nI j) C (c_J15_checkIndex_7cf53 D A l hj hN) (va_cwS 2 C.1.2.2.2.2 gJx4a65c_remove_915e3_J15_checkIndex_7cf53 rfl rfl rfl (by decide +kernel) ⟨Nat.le_of_ble_eq_true rfl, Nat.le_of_ble_eq_true rfl⟩) rfl rfl (Nat.le_of_ble_eq_true rfl) dJx4a65c_remove_915e3_5 ⟨Nat.le_of_ble_eq_true rfl, Nat.le_of_ble_eq_true rfl⟩ ?_
  refine m_pop C dJx4a65c_remove_915e3_8 rfl ?_
  refine m_aload_n C dJx4a65c_remove_915e3_9 rfl 0 rfl ?_
  refine m_get (ref := "java/util/ArrayList") C h_a rfl iL 1 (by decide) (by decide +kernel) (fun x h => h) (v := .ref b) rfl dJx4a65c_remove_915e3_10 ?_
  refine m_astore_n (L' := [(2, .ref b), (0, .ref a), (1, .int (nI j))]) C dJx4a65c_remove_915e3_13 rfl (by decide) rfl ?_
  refine m_aload_n C dJx4a65c_remove_915e3_14 rfl 0 rfl ?_
  refine m_iload_n C dJx4a65c_remove_915e3_15 rfl 2 rfl ?_
  refine m_aald C h_b 3 rfl (vp_in_nI (by omega) (by omega)) dJx4a65c_remove_915e3_16 ?_
  rw [nI_clamp (by omega)]
  refine m_astore_nq (L' := [(3, va_rf (f j)), (2, .ref b), (0, .ref a), (1, .int (nI j))]) C dJx4a65c_remove_915e3_17 rfl (by decide) rfl ?_
  refine m_aload_n C dJx4a65c_remove_915e3_18 rfl 2 rfl ?_
  refine m_aload_n C dJx4a65c_remove_915e3_19 rfl 1 rfl ?_
  refine m_iload_n C dJx4a65c_remove_915e3_20 rfl 3 rfl ?_
  refine m_callVv (As := [.ref b, .int (nI j)]) (st := []) C h_a0 rfl (c_Jx4a65c_fastRemove_b59b0 D A l h_a0 h_b0 hnc hc60 hj hel) (cwV 2 C.1.2.2.2.2 gJx4a65c_remove_915e3_Jx4a65c_fastRemove_b59b0 rfl rfl rfl (by decide +kernel) ⟨Nat.le_of_ble_eq_true rfl, Nat.le_of_ble_eq_true rfl⟩) rfl rfl (Nat.le_of_ble_eq_true rfl) dJx4a65c_remove_915e3_21 ⟨Nat.le_of_ble_eq_true rfl, Nat.le_of_ble_eq_true rfl⟩ (fun M9 hq9 => ?_)
  refine m_aload_nq C dJx4a65c_remove_915e3_24 rfl 0 rfl ?_
  exact m_aret C (Or.inl ⟨_, rfl⟩) (v := f j) (Nat.le_of_ble_eq_true rfl) (Nat.le_of_ble_eq_true rfl) dJx4a65c_remove_915e3_25 (⟨rfl, hq9⟩)
set_option maxHeartbeats 4000000 in
set_option maxRecDepth 100000 in
theorem lp_Jx4a65c_clear {p : Program} {l : Launch} {e : Env} {s : State} {m : MethodId} {args : Array Value} {below : List Frame} {meth : Method} {c : Code} {Q : State → Prop} {D : mD} {A : Nat → Prop} {a b cap n : Nat} {mc9 : Int32} {M0 : Mm} (hnc : n ≤ cap) (hn : n ≤ 60) (C : mC p m meth c cJx4a65c_clear_da8c8 4 s args wsJx4a65c_clear_da8c8 yJx4a65c_clear_da8c8.cls D A yJx4a65c_clear_da8c8 none) (kx : ∀ M : Mm, (mX [b, a] M0 M ∧ M a = some (jLs mc9 b 0) ∧ ∃ f, jB D b cap f M) → mV p l e ({ frames := 0, cells := 0, slots := 0, locals := 0 } : Room) s m args below meth c 4 D A Q M 0 0 [(0, .ref a)] [] 42) : ∀ (N : Nat) (i9 : Nat) (M : Mm), n - i9 = N → (i9 ≤ n) → (mX [b, a] M0 M ∧ M a = some (jLs mc9 b 0) ∧ ∃ f, jB D b cap f M) → mV p l e ({ frames := 0, cells := 0, slots := 0, locals := 0 } : Room) s m args below meth c 4 D A Q M 0 0 [(3, .int (nI i9)), (2, .int (nI n)), (1, .ref b), (0, .ref a)] [] 27 := by
  intro N
  induction N using Nat.strongRecOn with
  | _ N ih =>
    intro i9 M hN hk hw9
    refine m_iload_n C dJx4a65c_clear_da8c8_27 rfl 0 rfl ?_
    refine m_iload_n C dJx4a65c_clear_da8c8_28 rfl 1 rfl ?_
    refine m_icmp_ge (tgt := 42) C dJx4a65c_clear_da8c8_29 (by decide) (fun h_1 => ?_) (fun h_1 => ?_)
    · refine m_sub (L' := [(0, .ref a)]) [3] rfl ?_
      exact kx M hw9
    · have hin : i9 < n := by
        rcases Nat.lt_or_ge i9 n with z | z
        · exact z
        · exact absurd (nI_le (a := n) (b := i9) z (by omega)) h_1
      obtain ⟨hX, h_a, f, hB⟩ := hw9
      have hc60 := hB.cap
      have h_b := hB.own (by omega)
      refine m_aload_n C dJx4a65c_clear_da8c8_32 rfl 2 rfl ?_
      refine m_iload_n C dJx4a65c_clear_da8c8_33 rfl 0 rfl ?_
      refine m_null C dJx4a65c_clear_da8c8_34 ?_
      refine m_aastN C h_b 3 rfl (vp_in_nI (show i9 < cap by omega) (by omega)) dJx4a65c_clear_da8c8_35 ?_
      rw [nI_clamp (show i9 < 2 ^ 31 by omega)]
      have g_a : (m_up M b (jQ D cap (va_up f i9 none))) a = some (jLs mc9 b 0) := (m_up_n (m_ne h_a h_b (fun z => by cases z))).trans h_a
      have g_b : (m_up M b (jQ D cap (va_up f i9 none))) b = some (jQ D cap (va_up f i9 none)) := m_up_s
      have gX := hX.put (a := b) (e := jQ D cap (va_up f i9 none)) (by simp)
      revert g_a g_b gX
      generalize m_up M b (jQ D cap (va_up f i9 none)) = M
      intro h_a h_b hX
      obtain ⟨x_2, ex_2⟩ : ∃ z : Int32, z = nI i9 + 1 := ⟨_, rfl⟩
      refine m_iinc (q := 0) (v := x_2) (L' := [(3, .int x_2), (2, .int (nI n)), (1, .ref b), (0, .ref a)]) C dJx4a65c_clear_da8c8_36 rfl (by rw [ex_2]; rfl) (by decide) rfl ?_
      refine m_goto (tgt := 27) C dJx4a65c_clear_da8c8_39 (by decide) ?_
      rw [nI_1] at ex_2
      subst ex_2
      refine m_sub (L' := [(3, .int (nI (i9 + 1))), (2, .int (nI n)), (1, .ref b), (0, .ref a)]) [0, 1, 2, 3] rfl ?_
      exact ih (n - (i9 + 1)) (by omega) (i9 + 1) M rfl (by omega) ⟨hX, h_a, _, Or.inr ⟨h_b, by omega, hc60⟩⟩
set_option maxHeartbeats 4000000 in
set_option maxRecDepth 100000 in
theorem c_Jx4a65c_clear_da8c8 (D : mD) (A : Nat → Prop) (l : Launch) {a b cap n : Nat} {mc : Int32} {f : Nat → Option Nat} {M0 : Mm} (h_a0 : M0 a = some (jLs mc b n)) (hB : jB D b cap f M0) (hnc : n ≤ cap) (hn : n ≤ 60) : mMv D A l yJx4a65c_clear_da8c8 wsJx4a65c_clear_da8c8 ({ frames := 0, cells := 0, slots := 0, locals := 0 } : Room) [.ref a] M0 (fun M' => ∃ mc9 : Int32, (cap = 0 → mX [a] M0 M') ∧ mX [b, a] M0 M' ∧ M' a = some (jLs mc9 b 0) ∧ ∃ f, jB D b cap f M') 0 0 := by
  refine m_start (cc := cJx4a65c_clear_da8c8) (maxL := 4) (ret := none) (by decide) rfl (Nat.le_of_ble_eq_true rfl) ?_
  intro p e s m args below meth c C
  refine m_sub (L' := [(0, .ref a)]) [0] rfl ?_
  obtain ⟨M, eM⟩ : ∃ z : Mm, z = M0 := ⟨_, rfl⟩
  refine m_mem (M' := M) (by rw [eM]; exact fun _ _ h => h) ?_
  have h_a : M a = some (.inr (2, [.int mc, .ref b, .int (nI n)])) := by rw [eM]; exact h_a0
  have hX : mX [a] M0 M := by rw [eM]; exact mX.rf
  clear eM
  have iL : ∀ w ∈ wsJx4a65c0, w ∈ wsJx4a65c_clear_da8c8 := by decide +kernel
  refine m_aload_n C dJx4a65c_clear_da8c8_0 rfl 0 rfl ?_
  refine m_dup C dJx4a65c_clear_da8c8_1 rfl ?_
  refine m_get (ref := "java/util/ArrayList") C h_a rfl iL 0 (by decide) (by decide +kernel) (fun x h => u_same (C.1.2.2.2.2 _ (by decide +kernel)) x h) (v := .int mc) rfl dJx4a65c_clear_da8c8_2 ?_
  refine m_iconst (v := 1) C dJx4a65c_clear_da8c8_5 (by decide) ?_
  refine m_iadd C dJx4a65c_clear_da8c8_6 ?_
  refine m_put (ref := "java/util/ArrayList") C h_a rfl iL tyJx4a65c tyJx4a65c_ok nmJx4a65c 0 (by decide) (by decide +kernel) (fun x h => u_same (C.1.2.2.2.2 _ (by decide +kernel)) x h) rfl rfl rfl (Nat.le_of_ble_eq_true rfl) (e' := .inr (2, [.int (mc + 1), .ref b, .int (nI n)])) rfl dJx4a65c_clear_da8c8_7 ?_
  have g_a : (m_up M a (.inr (2, [.int (mc + 1), .ref b, .int (nI n)]))) a = some (.inr (2, [.int (mc + 1), .ref b, .int (nI n)])) := m_up_s
  have gX := hX.put (a := a) (e := .inr (2, [.int (mc + 1), .ref b, .int (nI n)])) (by simp)
  revert g_a gX
  generalize m_up M a (.inr (2, [.int (mc + 1), .ref b, .int (nI n)])) = M
  intro h_a hX
  refine m_aload_n C dJx4a65c_clear_da8c8_10 rfl 0 rfl ?_
  refine m_get (ref := "java/util/ArrayList") C h_a rfl iL 1 (by decide) (by decide +kernel) (fun x h => h) (v := .ref b) rfl dJx4a65c_clear_da8c8_11 ?_
  refine m_astore_n (L' := [(1, .ref b), (0, .ref a)]) C dJx4a65c_clear_da8c8_14 rfl (by decide) rfl ?_
  refine m_aload_n C dJx4a65c_clear_da8c8_15 rfl 1 rfl ?_
  refine m_get (ref := "java/util/ArrayList") C h_a rfl iL 2 (by decide) (by decide +kernel) (fun x h => h) (v := .int (nI n)) rfl dJx4a65c_clear_da8c8_16 ?_
  refine m_istore_n (L' := [(2, .int (nI n)), (1, .ref b), (0, .ref a)]) C dJx4a65c_clear_da8c8_19 rfl (by decide) rfl ?_
  refine m_aload_n C dJx4a65c_clear_da8c8_20 rfl 2 rfl ?_
  refine m_iconst (v := 0) C dJx4a65c_clear_da8c8_21 (by decide) ?_
  refine m_dup_x1 C dJx4a65c_clear_da8c8_22 rfl rfl ?_
  refine m_put (ref := "java/util/ArrayList") C h_a rfl iL tyJx4a65c tyJx4a65c_ok nmJx4a65c 2 (by decide) (by decide +kernel) (fun x h => h) rfl rfl rfl (Nat.le_of_ble_eq_true rfl) (e' := .inr (2, [.int (mc + 1), .ref b, .int 0])) rfl dJx4a65c_clear_da8c8_23 ?_
  have g_a : (m_up M a (.inr (2, [.int (mc + 1), .ref b, .int 0]))) a = some (.inr (2, [.int (mc + 1), .ref b, .int 0])) := m_up_s
  have gX := hX.put (a := a) (e := .inr (2, [.int (mc + 1), .ref b, .int 0])) (by simp)
  revert g_a gX
  generalize m_up M a (.inr (2, [.int (mc + 1), .ref b, .int 0])) = M
  intro h_a hX
  refine m_istore_n (L' := [(3, .int 0), (2, .int (nI n)), (1, .ref b), (0, .ref a)]) C dJx4a65c_clear_da8c8_26 rfl (by decide) rfl ?_
  rcases Nat.eq_zero_or_pos cap with hc0 | hc0
  · have hn0 : n = 0 := by omega
    have hB1 : jB D b cap f M := by
      rcases hB with z | ⟨z, z2⟩
      · exact Or.inl z
      · omega
    refine m_iload_n C dJx4a65c_clear_da8c8_27 rfl 0 rfl ?_
    refine m_iload_n C dJx4a65c_clear_da8c8_28 rfl 1 rfl ?_
    refine m_icmp_ge (tgt := 42) C dJx4a65c_clear_da8c8_29 (by decide) (fun h_1 => ?_) (fun h_1 => ?_)
    · exact m_vret C (Nat.le_of_ble_eq_true rfl) (Nat.le_of_ble_eq_true rfl) dJx4a65c_clear_da8c8_42 (⟨_, fun _ => hX, hX.sub (by simp), h_a, f, hB1⟩)
    · exact absurd (show nI n ≤ 0 by rw [hn0]; decide) h_1
  · refine m_sub (L' := [(3, .int 0), (2, .int (nI n)), (1, .ref b), (0, .ref a)]) [0, 1, 2, 3] rfl ?_
    refine lp_Jx4a65c_clear (b := b) (cap := cap) (n := n) (mc9 := mc + 1) hnc hn C (fun M hw9 => ?_) _ 0 M rfl (Nat.zero_le _) ⟨hX.sub (by simp), h_a, f, ?_⟩
    · exact m_vret C (Nat.le_of_ble_eq_true rfl) (Nat.le_of_ble_eq_true rfl) dJx4a65c_clear_da8c8_42 (⟨_, fun z => absurd z (by omega), hw9⟩)
    · rcases hB with z | ⟨z, z2⟩
      · exact Or.inl z
      · exact Or.inr ⟨(hX b (by simp; exact m_ne z h_a0 (fun y => by cases y))).trans z, z2⟩
set_option maxHeartbeats 4000000 in
set_option maxRecDepth 100000 in
theorem c_Jxa1e45_init_da8c8 (D : mD) (A : Nat → Prop) (l : Launch) {a : Nat} {M : Mm} : mMv D A l yJxa1e45_init_da8c8 wsJxa1e45_init_da8c8 ({ frames := 1, cells := 0, slots := 0, locals := 60 } : Room) [.ref a] M (fun M' => M' = M) 0 0 := by
  refine m_start (cc := cJxa1e45_init_da8c8) (maxL := 1) (ret := none) (by decide) rfl (Nat.le_of_ble_eq_true rfl) ?_
  intro p e s m args below meth c C
  refine m_sub (L' := [(0, .ref a)]) [0] rfl ?_
  refine m_aload_n C dJxa1e45_init_da8c8_0 rfl 0 rfl ?_
  refine m_objInit C (by decide +kernel) (by decide +kernel) (by decide +kernel) (Nat.le_of_ble_eq_true rfl) (Nat.le_of_ble_eq_true rfl) dJxa1e45_init_da8c8_1 ?_
  exact m_vret C (Nat.le_of_ble_eq_true rfl) (Nat.le_of_ble_eq_true rfl) dJxa1e45_init_da8c8_4 (rfl)
set_option maxHeartbeats 4000000 in
set_option maxRecDepth 100000 in
theorem c_Jxc12de_init_da8c8 (D : mD) (A : Nat → Prop) (l : Launch) {a : Nat} {M : Mm} (h_a : M a = some (.inr (2, [.int 0, .null, .int 0]))) : mMv D A l yJxc12de_init_da8c8 wsJxc12de_init_da8c8 ({ frames := 2, cells := 0, slots := 0, locals := 120 } : Room) [.ref a] M (fun M' => M' = m_up M a (.inr (2, [.int 0, .null, .int 0]))) 0 0 := by
  refine m_start (cc := cJxc12de_init_da8c8) (maxL := 1) (ret := none) (by decide) rfl (Nat.le_of_ble_eq_true rfl) ?_
  intro p e s m args below meth c C
  refine m_sub (L' := [(0, .ref a)]) [0] rfl ?_
  have iL : ∀ w ∈ wsJx4a65c0, w ∈ wsJxc12de_init_da8c8 := by decide +kernel
  refine m_aload_n C dJxc12de_init_da8c8_0 rfl 0 rfl ?_
  refine m_callIv (ret1 := none) (As := []) (st := []) C (c_Jxa1e45_init_da8c8 D A l (a := a) (M := M)) ⟨callB_of 0 C.1.2.2.2.2 gJxc12de_init_da8c8_Jxa1e45_init_da8c8 rfl rfl rfl (C.1.2.2.2.2 _ (by decide +kernel)) (C.1.2.2.2.2 _ (by decide +kernel)) (by decide +kernel) ⟨Nat.le_of_ble_eq_true rfl, Nat.le_of_ble_eq_true rfl⟩, rfl, C.1.2.2.2.2 _ (by decide +kernel)⟩ rfl rfl (Nat.le_of_ble_eq_true rfl) dJxc12de_init_da8c8_1 ⟨Nat.le_of_ble_eq_true rfl, Nat.le_of_ble_eq_true rfl⟩ (fun M9 hq9 => ?_)
  subst hq9
  rename Mm => M
  refine m_aload_n C dJxc12de_init_da8c8_4 rfl 0 rfl ?_
  refine m_iconst (v := 0) C dJxc12de_init_da8c8_5 (by decide) ?_
  refine m_put (ref := "java/util/AbstractList") C h_a rfl iL tyJx4a65c tyJx4a65c_ok nmJx4a65c 0 (by decide) (by decide +kernel) (fun x h => h) rfl rfl rfl (Nat.le_of_ble_eq_true rfl) (e' := .inr (2, [.int 0, .null, .int 0])) rfl dJxc12de_init_da8c8_6 ?_
  exact m_vret C (Nat.le_of_ble_eq_true rfl) (Nat.le_of_ble_eq_true rfl) dJxc12de_init_da8c8_9 (rfl)
set_option maxHeartbeats 4000000 in
set_option maxRecDepth 100000 in
theorem c_Jx4a65c_init_da8c8 (D : mD) (A : Nat → Prop) (l : Launch) {a : Nat} {M : Mm} (h_a : M a = some (.inr (2, [.int 0, .null, .int 0]))) : mMv D A l yJx4a65c_init_da8c8 wsJx4a65c_init_da8c8 ({ frames := 3, cells := 0, slots := 0, locals := 180 } : Room) [.ref a] M (fun M' => M' = m_up M a (jLs 0 (D.2.2 0) 0)) 0 0 := by
  refine m_start (cc := cJx4a65c_init_da8c8) (maxL := 1) (ret := none) (by decide) rfl (Nat.le_of_ble_eq_true rfl) ?_
  intro p e s m args below meth c C
  refine m_sub (L' := [(0, .ref a)]) [0] rfl ?_
  have iL : ∀ w ∈ wsJx4a65c0, w ∈ wsJx4a65c_init_da8c8 := by decide +kernel
  refine m_aload_n C dJx4a65c_init_da8c8_0 rfl 0 rfl ?_
  refine m_callIv (ret1 := none) (As := []) (st := []) C (c_Jxc12de_init_da8c8 D A l h_a) ⟨callB_of 0 C.1.2.2.2.2 gJx4a65c_init_da8c8_Jxc12de_init_da8c8 rfl rfl rfl (C.1.2.2.2.2 _ (by decide +kernel)) (C.1.2.2.2.2 _ (by decide +kernel)) (by decide +kernel) ⟨Nat.le_of_ble_eq_true rfl, Nat.le_of_ble_eq_true rfl⟩, rfl, C.1.2.2.2.2 _ (by decide +kernel)⟩ rfl rfl (Nat.le_of_ble_eq_true rfl) dJx4a65c_init_da8c8_1 ⟨Nat.le_of_ble_eq_true rfl, Nat.le_of_ble_eq_true rfl⟩ (fun M9 hq9 => ?_)
  rw [m_up_eq h_a] at hq9
  subst hq9
  rename Mm => M
  refine m_aload_n C dJx4a65c_init_da8c8_4 rfl 0 rfl ?_
  refine m_gets0 C (by decide +kernel) dJx4a65c_init_da8c8_5 ?_
  refine m_put (ref := "java/util/ArrayList") C h_a rfl iL tyJx4a65c tyJx4a65c_ok nmJx4a65c 1 (by decide) (by decide +kernel) (fun x h => h) rfl rfl rfl (Nat.le_of_ble_eq_true rfl) (e' := jLs 0 (D.2.2 0) 0) rfl dJx4a65c_init_da8c8_8 ?_
  exact m_vret C (Nat.le_of_ble_eq_true rfl) (Nat.le_of_ble_eq_true rfl) dJx4a65c_init_da8c8_11 (rfl)

