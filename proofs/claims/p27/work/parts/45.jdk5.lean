/-! ===== the library: lists, their own methods ===== -/
set_option maxHeartbeats 4000000 in
set_option maxRecDepth 100000 in
theorem c_Jx4a65c_add_9ea2d (D : mD) (A : Nat → Prop) (l : Launch) {a b cap n v : Nat} {mc : Int32} {f : Nat → Option Nat} {fv : List Value} {M0 : Mm} (h_a0 : M0 a = some (jLs mc b n)) (hB : jB D b cap f M0) (hnc : n ≤ cap) (hn : n ≤ 39) (hel : jN6 M0 f n) (h_v : M0 v = some (.inr (6, fv))) : mMi D A l yJx4a65c_add_9ea2d wsJx4a65c_add_9ea2d ({ frames := 6, cells := 1, slots := 60, locals := 480 } : Room) [.ref a, .ref v] M0 (fun r M' => r = 1 ∧ jA D a b cap (n + 1) (fun g => (∀ k, k < n → g k = f k) ∧ g n = some v) M0 M') 1 60 := by
  refine m_start (cc := cJx4a65c_add_9ea2d) (maxL := 2) (ret := (some .boolean)) (by decide) rfl (Nat.le_of_ble_eq_true rfl) ?_
  intro p e s m args below meth c C
  refine m_sub (L' := [(0, .ref a), (1, .ref v)]) [0, 1] rfl ?_
  obtain ⟨M, eM⟩ : ∃ z : Mm, z = M0 := ⟨_, rfl⟩
  refine m_mem (M' := M) (by rw [eM]; exact fun _ _ h => h) ?_
  have h_a : M a = some (.inr (2, [.int mc, .ref b, .int (nI n)])) := by rw [eM]; exact h_a0
  have h_v : M v = some (.inr (6, fv)) := by rw [eM]; exact h_v
  have hX : mX [a] M0 M := by rw [eM]; exact mX.rf
  clear eM
  have iL : ∀ w ∈ wsJx4a65c0, w ∈ wsJx4a65c_add_9ea2d := by decide +kernel
  have h_a0 : M0 a = some (jLs mc b n) := h_a0
  refine m_aload_n C dJx4a65c_add_9ea2d_0 rfl 0 rfl ?_
  refine m_dup C dJx4a65c_add_9ea2d_1 rfl ?_
  refine m_get (ref := "java/util/ArrayList") C h_a rfl iL 0 (by decide) (by decide +kernel) (fun x h => u_same (C.1.2.2.2.2 _ (by decide +kernel)) x h) (v := .int mc) rfl dJx4a65c_add_9ea2d_2 ?_
  refine m_iconst (v := 1) C dJx4a65c_add_9ea2d_5 (by decide) ?_
  refine m_iadd C dJx4a65c_add_9ea2d_6 ?_
  refine m_put (ref := "java/util/ArrayList") C h_a rfl iL tyJx4a65c tyJx4a65c_ok nmJx4a65c 0 (by decide) (by decide +kernel) (fun x h => u_same (C.1.2.2.2.2 _ (by decide +kernel)) x h) rfl rfl rfl (Nat.le_of_ble_eq_true rfl) (e' := .inr (2, [.int (mc + 1), .ref b, .int (nI n)])) rfl dJx4a65c_add_9ea2d_7 ?_
  have g_v : (m_up M a (.inr (2, [.int (mc + 1), .ref b, .int (nI n)]))) v = some (.inr (6, fv)) := (m_up_n (m_ne h_v h_a (fun z => by cases z))).trans h_v
  have g_a : (m_up M a (.inr (2, [.int (mc + 1), .ref b, .int (nI n)]))) a = some (.inr (2, [.int (mc + 1), .ref b, .int (nI n)])) := m_up_s
  have gX := hX.put (a := a) (e := .inr (2, [.int (mc + 1), .ref b, .int (nI n)])) (by simp)
  revert g_v g_a gX
  generalize m_up M a (.inr (2, [.int (mc + 1), .ref b, .int (nI n)])) = M
  intro h_v h_a hX
  have hB : jB D b cap f M := by
    rcases hB with z | ⟨z, z2⟩
    · exact Or.inl z
    · exact Or.inr ⟨(hX b (by simp; exact m_ne z h_a0 (fun y => by cases y))).trans z, z2⟩
  have hel : jN6 M f n := fun k y hk hy => by
    obtain ⟨fs, z⟩ := hel k y hk hy
    exact ⟨fs, (hX y (by simp; exact m_ne z h_a0 (fun y => by cases y))).trans z⟩
  refine m_aload_n C dJx4a65c_add_9ea2d_10 rfl 0 rfl ?_
  refine m_aload_n C dJx4a65c_add_9ea2d_11 rfl 1 rfl ?_
  refine m_aload_n C dJx4a65c_add_9ea2d_12 rfl 0 rfl ?_
  refine m_get (ref := "java/util/ArrayList") C h_a rfl iL 1 (by decide) (by decide +kernel) (fun x h => h) (v := .ref b) rfl dJx4a65c_add_9ea2d_13 ?_
  refine m_aload_n C dJx4a65c_add_9ea2d_16 rfl 0 rfl ?_
  refine m_get (ref := "java/util/ArrayList") C h_a rfl iL 2 (by decide) (by decide +kernel) (fun x h => h) (v := .int (nI n)) rfl dJx4a65c_add_9ea2d_17 ?_
  refine m_callVv (As := [.ref v, .ref b, .int (nI n)]) (st := []) C h_a rfl (c_Jx4a65c_add_72be8 D A l h_a hB hnc hn hel h_v) (cwV 3 C.1.2.2.2.2 gJx4a65c_add_9ea2d_Jx4a65c_add_72be8 rfl rfl rfl (by decide +kernel) ⟨Nat.le_of_ble_eq_true rfl, Nat.le_of_ble_eq_true rfl⟩) rfl rfl (Nat.le_of_ble_eq_true rfl) dJx4a65c_add_9ea2d_20 ⟨Nat.le_of_ble_eq_true rfl, Nat.le_of_ble_eq_true rfl⟩ (fun M9 hq9 => ?_)
  obtain ⟨q, cap9, g9, mc9, hqb, hX9, h_a9, h_q9, k1, k2, k3, k4⟩ := hq9
  refine m_iconst (v := 1) C dJx4a65c_add_9ea2d_23 (by decide) ?_
  exact m_zret C (by decide) (by decide) dJx4a65c_add_9ea2d_24 (Or.inr rfl) (⟨rfl, q, cap9, g9, mc9, by
    rcases hqb with z | z
    · exact Or.inl z
    · refine Or.inr ?_
      rw [← hX q (by simp; intro y; rw [y, h_a] at z; cases z)]
      exact z, (hX.sub (S' := [q, a]) (by simp)).tr hX9, h_a9, h_q9, k1, k2, k3, k4⟩)
set_option maxHeartbeats 4000000 in
set_option maxRecDepth 100000 in
theorem c_Jx4a65c_rangeCheckForAdd_d00df (D : mD) (A : Nat → Prop) (l : Launch) {a b n : Nat} {mc : Int32} {M : Mm} (h_a : M a = some (jLs mc b n)) {j : Nat} (hj : j ≤ n) (hn : n ≤ 60) : mMv D A l yJx4a65c_rangeCheckForAdd_d00df wsJx4a65c_rangeCheckForAdd_d00df ({ frames := 0, cells := 0, slots := 0, locals := 0 } : Room) [.ref a, .int (nI j)] M (fun M' => M' = M) 0 0 := by
  refine m_start (cc := cJx4a65c_rangeCheckForAdd_d00df) (maxL := 2) (ret := none) (by decide) rfl (Nat.le_of_ble_eq_true rfl) ?_
  intro p e s m args below meth c C
  refine m_sub (L' := [(0, .ref a), (1, .int (nI j))]) [0, 1] rfl ?_
  have iL : ∀ w ∈ wsJx4a65c0, w ∈ wsJx4a65c_rangeCheckForAdd_d00df := by decide +kernel
  refine m_iload_n C dJx4a65c_rangeCheckForAdd_d00df_0 rfl 1 rfl ?_
  refine m_aload_n C dJx4a65c_rangeCheckForAdd_d00df_1 rfl 0 rfl ?_
  refine m_get (ref := "java/util/ArrayList") C h_a rfl iL 2 (by decide) (by decide +kernel) (fun x h => h) (v := .int (nI n)) rfl dJx4a65c_rangeCheckForAdd_d00df_2 ?_
  refine m_icmp_gt (tgt := 12) C dJx4a65c_rangeCheckForAdd_d00df_5 (by decide) (fun h_1 => ?_) (fun h_1 => ?_)
  · exact absurd h_1 (Int32.not_lt.mpr (nI_le hj (by omega)))
  · refine m_iload_n C dJx4a65c_rangeCheckForAdd_d00df_8 rfl 1 rfl ?_
    refine m_if_ge (tgt := 25) C dJx4a65c_rangeCheckForAdd_d00df_9 (by decide) (fun h_2 => ?_) (fun h_2 => ?_)
    · exact m_vret C (Nat.le_of_ble_eq_true rfl) (Nat.le_of_ble_eq_true rfl) dJx4a65c_rangeCheckForAdd_d00df_25 (rfl)
    · exact absurd (nI_pos' (by omega)) h_2
theorem jins {f g : Nat → Option Nat} {n j v : Nat} (h : ∀ k, k < n → g k = f k) (hj : j ≤ n) : (∀ k, k < j → va_up (va_cpy g g j (j + 1) (n - j)) j (some v) k = f k) ∧ va_up (va_cpy g g j (j + 1) (n - j)) j (some v) j = some v ∧ ∀ k, j ≤ k → k < n → va_up (va_cpy g g j (j + 1) (n - j)) j (some v) (k + 1) = f k := by
  refine ⟨fun k hk => ?_, if_pos rfl, fun k h1 h2 => ?_⟩
  · unfold va_up va_cpy
    rw [if_neg (by omega), if_neg (by omega)]
    exact h k (by omega)
  · unfold va_up va_cpy
    rw [if_neg (by omega), if_pos ⟨by omega, by omega⟩, show j + (k + 1 - (j + 1)) = k by omega]
    exact h k h2
set_option maxHeartbeats 4000000 in
set_option maxRecDepth 100000 in
theorem c_Jx4a65c_add_7a177 (D : mD) (A : Nat → Prop) (l : Launch) {a b cap n v j : Nat} {mc : Int32} {f : Nat → Option Nat} {fv : List Value} {M0 : Mm} (h_a0 : M0 a = some (jLs mc b n)) (hB : jB D b cap f M0) (hnc : n ≤ cap) (hn : n ≤ 39) (hel : jN6 M0 f n) (h_v : M0 v = some (.inr (6, fv))) (hj : j ≤ n) : mMv D A l yJx4a65c_add_7a177 wsJx4a65c_add_7a177 ({ frames := 6, cells := 1, slots := 60, locals := 540 } : Room) [.ref a, .int (nI j), .ref v] M0 (jA D a b cap (n + 1) (fun g => (∀ k, k < j → g k = f k) ∧ g j = some v ∧ ∀ k, j ≤ k → k < n → g (k + 1) = f k) M0) 1 60 := by
  refine m_start (cc := cJx4a65c_add_7a177) (maxL := 5) (ret := none) (by decide) rfl (Nat.le_of_ble_eq_true rfl) ?_
  intro p e s m args below meth c C
  refine m_sub (L' := [(0, .ref a), (1, .int (nI j)), (2, .ref v)]) [0, 1, 2] rfl ?_
  obtain ⟨M, eM⟩ : ∃ z : Mm, z = M0 := ⟨_, rfl⟩
  refine m_mem (M' := M) (by rw [eM]; exact fun _ _ h => h) ?_
  have h_a : M a = some (.inr (2, [.int mc, .ref b, .int (nI n)])) := by rw [eM]; exact h_a0
  have h_v : M v = some (.inr (6, fv)) := by rw [eM]; exact h_v
  have hX : mX [a] M0 M := by rw [eM]; exact mX.rf
  clear eM
  have iL : ∀ w ∈ wsJx4a65c0, w ∈ wsJx4a65c_add_7a177 := by decide +kernel
  refine m_aload_n C dJx4a65c_add_7a177_0 rfl 0 rfl ?_
  refine m_iload_n C dJx4a65c_add_7a177_1 rfl 1 rfl ?_
  refine m_callVv (As := [.int (nI j)]) (st := []) C h_a rfl (c_Jx4a65c_rangeCheckForAdd_d00df D A l h_a hj (by omega)) (cwV 1 C.1.2.2.2.2 gJx4a65c_add_7a177_Jx4a65c_rangeCheckForAdd_d00df rfl rfl rfl (by decide +kernel) ⟨Nat.le_of_ble_eq_true rfl, Nat.le_of_ble_eq_true rfl⟩) rfl rfl (Nat.le_of_ble_eq_true rfl) dJx4a65c_add_7a177_2 ⟨Nat.le_of_ble_eq_true rfl, Nat.le_of_ble_eq_true rfl⟩ (fun M9 hq9 => ?_)
  subst hq9
  rename Mm => M
  refine m_aload_n C dJx4a65c_add_7a177_5 rfl 0 rfl ?_
  refine m_dup C dJx4a65c_add_7a177_6 rfl ?_
  refine m_get (ref := "java/util/ArrayList") C h_a rfl iL 0 (by decide) (by decide +kernel) (fun x h => u_same (C.1.2.2.2.2 _ (by decide +kernel)) x h) (v := .int mc) rfl dJx4a65c_add_7a177_7 ?_
  refine m_iconst (v := 1) C dJx4a65c_add_7a177_10 (by decide) ?_
  refine m_iadd C dJx4a65c_add_7a177_11 ?_
  refine m_put (ref := "java/util/ArrayList") C h_a rfl iL tyJx4a65c tyJx4a65c_ok nmJx4a65c 0 (by decide) (by decide +kernel) (fun x h => u_same (C.1.2.2.2.2 _ (by decide +kernel)) x h) rfl rfl rfl (Nat.le_of_ble_eq_true rfl) (e' := .inr (2, [.int (mc + 1), .ref b, .int (nI n)])) rfl dJx4a65c_add_7a177_12 ?_
  have g_v : (m_up M a (.inr (2, [.int (mc + 1), .ref b, .int (nI n)]))) v = some (.inr (6, fv)) := (m_up_n (m_ne h_v h_a (fun z => by cases z))).trans h_v
  have g_a : (m_up M a (.inr (2, [.int (mc + 1), .ref b, .int (nI n)]))) a = some (.inr (2, [.int (mc + 1), .ref b, .int (nI n)])) := m_up_s
  have gX := hX.put (a := a) (e := .inr (2, [.int (mc + 1), .ref b, .int (nI n)])) (by simp)
  revert g_v g_a gX
  generalize m_up M a (.inr (2, [.int (mc + 1), .ref b, .int (nI n)])) = M
  intro h_v h_a hX
  have hB : jB D b cap f M := by
    rcases hB with z | ⟨z, z2⟩
    · exact Or.inl z
    · exact Or.inr ⟨(hX b (by simp; exact m_ne z h_a0 (fun y => by cases y))).trans z, z2⟩
  have hel : jN6 M f n := fun k y hk hy => by
    obtain ⟨fs, z⟩ := hel k y hk hy
    exact ⟨fs, (hX y (by simp; exact m_ne z h_a0 (fun y => by cases y))).trans z⟩
  refine m_aload_n C dJx4a65c_add_7a177_15 rfl 0 rfl ?_
  refine m_get (ref := "java/util/ArrayList") C h_a rfl iL 2 (by decide) (by decide +kernel) (fun x h => h) (v := .int (nI n)) rfl dJx4a65c_add_7a177_16 ?_
  refine m_dup C dJx4a65c_add_7a177_19 rfl ?_
  refine m_istore_n (L' := [(3, .int (nI n)), (0, .ref a), (1, .int (nI j)), (2, .ref v)]) C dJx4a65c_add_7a177_20 rfl (by decide) rfl ?_
  refine m_aload_n C dJx4a65c_add_7a177_21 rfl 1 rfl ?_
  refine m_get (ref := "java/util/ArrayList") C h_a rfl iL 1 (by decide) (by decide +kernel) (fun x h => h) (v := .ref b) rfl dJx4a65c_add_7a177_22 ?_
  refine m_dup C dJx4a65c_add_7a177_25 rfl ?_
  refine m_astore (L' := [(4, .ref b), (3, .int (nI n)), (0, .ref a), (1, .int (nI j)), (2, .ref v)]) C dJx4a65c_add_7a177_26 (by decide) rfl ?_
  refine m_alenB C hB dJx4a65c_add_7a177_28 ?_
  refine m_icmp_ne (tgt := 38) C dJx4a65c_add_7a177_29 (by decide) (fun h_1 => ?_) (fun h_1 => ?_)
  · have hc9 := hB.cap
    have hlt : n < cap := by
      rcases Nat.lt_or_ge n cap with z | z
      · exact z
      · exact absurd (congrArg nI (Nat.le_antisymm hnc z)) h_1
    have h_b := hB.own (by omega)
    have hX := hX.sub (S' := [b, a]) (by simp)
    refine m_aload C dJx4a65c_add_7a177_38 0 rfl ?_
    refine m_iload_n C dJx4a65c_add_7a177_40 rfl 3 rfl ?_
    refine m_aload C dJx4a65c_add_7a177_41 0 rfl ?_
    refine m_iload_n C dJx4a65c_add_7a177_43 rfl 3 rfl ?_
    refine m_iconst (v := 1) C dJx4a65c_add_7a177_44 (by decide) ?_
    refine m_iadd C dJx4a65c_add_7a177_45 ?_
    refine m_i (y := nI (j + 1)) (nI_1 j) ?_
    refine m_iload_n C dJx4a65c_add_7a177_46 rfl 1 rfl ?_
    refine m_iload_n C dJx4a65c_add_7a177_47 rfl 3 rfl ?_
    refine m_isub C dJx4a65c_add_7a177_48 ?_
    refine m_i (y := nI (n - j)) (pk_sub hj) ?_
    refine m_copyq (index := 112) C (by decide +kernel) (by decide +kernel) (by decide +kernel) (by decide +kernel) (t0 := 3) (ci := 6) rfl rfl C.2.1.2.2.2.2.2.2.1.1 h_b h_b (sp := j) (dp := j + 1) (nn := n - j) rfl rfl rfl (by omega) (by omega) (by omega) (fun i9 y9 hi9 hy9 => ?_) (Nat.le_of_ble_eq_true rfl) (Nat.le_of_ble_eq_true rfl) dJx4a65c_add_7a177_49 ?_
    · obtain ⟨fs9, z9⟩ := hel (j + i9) y9 (by omega) hy9
      exact ⟨fs9, z9⟩
    have g_a : (m_up M b (jQ D cap (va_cpy f f j (j + 1) (n - j)))) a = some (.inr (2, [.int (mc + 1), .ref b, .int (nI n)])) := (m_up_n (m_ne h_a h_b (fun z => by cases z))).trans h_a
    have g_v : (m_up M b (jQ D cap (va_cpy f f j (j + 1) (n - j)))) v = some (.inr (6, fv)) := (m_up_n (m_ne h_v h_b (fun z => by cases z))).trans h_v
    have g_b : (m_up M b (jQ D cap (va_cpy f f j (j + 1) (n - j)))) b = some (jQ D cap (va_cpy f f j (j + 1) (n - j))) := m_up_s
    have gX := hX.put (a := b) (e := jQ D cap (va_cpy f f j (j + 1) (n - j))) (by simp)
    revert g_a g_v g_b gX
    generalize m_up M b (jQ D cap (va_cpy f f j (j + 1) (n - j))) = M
    intro h_a h_v h_b hX
    refine m_aload C dJx4a65c_add_7a177_52 0 rfl ?_
    refine m_iload_n C dJx4a65c_add_7a177_54 rfl 3 rfl ?_
    refine m_aload_n C dJx4a65c_add_7a177_55 rfl 4 rfl ?_
    refine m_aast C h_b 3 rfl h_v rfl C.2.1.2.2.2.2.2.2.1.1 (vp_in_nI (show j < cap by omega) (by omega)) dJx4a65c_add_7a177_56 ?_
    rw [nI_clamp (show j < 2 ^ 31 by omega)]
    have g_a : (m_up M b (jQ D cap (va_up (va_cpy f f j (j + 1) (n - j)) j (some v)))) a = some (.inr (2, [.int (mc + 1), .ref b, .int (nI n)])) := (m_up_n (m_ne h_a h_b (fun z => by cases z))).trans h_a
    have g_v : (m_up M b (jQ D cap (va_up (va_cpy f f j (j + 1) (n - j)) j (some v)))) v = some (.inr (6, fv)) := (m_up_n (m_ne h_v h_b (fun z => by cases z))).trans h_v
    have g_b : (m_up M b (jQ D cap (va_up (va_cpy f f j (j + 1) (n - j)) j (some v)))) b = some (jQ D cap (va_up (va_cpy f f j (j + 1) (n - j)) j (some v))) := m_up_s
    have gX := hX.put (a := b) (e := jQ D cap (va_up (va_cpy f f j (j + 1) (n - j)) j (some v))) (by simp)
    revert g_a g_v g_b gX
    generalize m_up M b (jQ D cap (va_up (va_cpy f f j (j + 1) (n - j)) j (some v))) = M
    intro h_a h_v h_b hX
    refine m_aload_n C dJx4a65c_add_7a177_57 rfl 2 rfl ?_
    refine m_iload_n C dJx4a65c_add_7a177_58 rfl 1 rfl ?_
    refine m_iconst (v := 1) C dJx4a65c_add_7a177_59 (by decide) ?_
    refine m_iadd C dJx4a65c_add_7a177_60 ?_
    refine m_i (y := nI (n + 1)) (nI_1 n) ?_
    refine m_put (ref := "java/util/ArrayList") C h_a rfl iL tyJx4a65c tyJx4a65c_ok nmJx4a65c 2 (by decide) (by decide +kernel) (fun x h => h) rfl rfl rfl (Nat.le_of_ble_eq_true rfl) (e' := .inr (2, [.int (mc + 1), .ref b, .int (nI (n + 1))])) rfl dJx4a65c_add_7a177_61 ?_
    have g_v : (m_up M a (.inr (2, [.int (mc + 1), .ref b, .int (nI (n + 1))]))) v = some (.inr (6, fv)) := (m_up_n (m_ne h_v h_a (fun z => by cases z))).trans h_v
    have g_b : (m_up M a (.inr (2, [.int (mc + 1), .ref b, .int (nI (n + 1))]))) b = some (jQ D cap (va_up (va_cpy f f j (j + 1) (n - j)) j (some v))) := (m_up_n (m_ne h_b h_a (fun z => by cases z))).trans h_b
    have g_a : (m_up M a (.inr (2, [.int (mc + 1), .ref b, .int (nI (n + 1))]))) a = some (.inr (2, [.int (mc + 1), .ref b, .int (nI (n + 1))])) := m_up_s
    have gX := hX.put (a := a) (e := .inr (2, [.int (mc + 1), .ref b, .int (nI (n + 1))])) (by simp)
    revert g_v g_b g_a gX
    generalize m_up M a (.inr (2, [.int (mc + 1), .ref b, .int (nI (n + 1))])) = M
    intro h_v h_b h_a hX
    exact m_vret C (by decide) (by decide) dJx4a65c_add_7a177_64 (⟨b, cap, _, _, Or.inl ⟨rfl, by omega⟩, hX, h_a, h_b, by omega, hc9, by omega, jins (fun k hk => rfl) hj⟩)
  · have hnq : n = cap := by
      have := congrArg Int32.toNatClampNeg h_1
      have hc := hB.cap
      rw [nI_clamp (by omega), nI_clamp (by omega)] at this
      exact this
    subst hnq
    have hel0 := hel
    refine m_aload_n C dJx4a65c_add_7a177_32 rfl 2 rfl ?_
    have h_a8 := h_a
    have hX8 := hX
    have hqn8 : ∀ q9 : Nat, M q9 = none → M0 q9 = none := fun q9 z => by rw [← hX q9 (by simp; intro z9; rw [z9, h_a] at z; cases z)]; exact z
    refine m_callVq (As := []) (st := []) C h_a rfl (c_Jx4a65c_grow_d5877 D A l h_a hB hn hel) (cwV 0 C.1.2.2.2.2 gJx4a65c_add_7a177_Jx4a65c_grow_d5877 rfl rfl rfl (by decide +kernel) ⟨Nat.le_of_ble_eq_true rfl, Nat.le_of_ble_eq_true rfl⟩) rfl rfl (Nat.le_of_ble_eq_true rfl) dJx4a65c_add_7a177_33 ⟨Nat.le_of_ble_eq_true rfl, Nat.le_of_ble_eq_true rfl⟩ (fun r M9 hq9 => ?_)
    obtain ⟨q, rfl, hq, cap9, g9, e9, hc9, hc60, hg9⟩ := hq9
    have hq0 : M0 q = none := by rw [← hX q (by first | (simp; done) | (simp; intro z9; rw [z9, h_a] at hq; cases hq))]; exact hq
    have hqa : q ≠ a := fun z => by rw [z, h_a] at hq; cases hq
    have hqv : v ≠ q := m_neN h_v hq
    have h_q : M9 q = some (jQ D cap9 g9) := by rw [e9, m_up_n hqa]; exact m_up_s
    have h_v : M9 v = some (.inr (6, fv)) := by rw [e9, m_up_n (m_ne h_v h_a (fun z => by cases z)), m_up_n hqv]; exact h_v
    have h_a : M9 a = some (jLs (mc + 1) q n) := by rw [e9]; exact m_up_s
    have hX : mX [q, a] M0 M9 := by rw [e9]; exact ((hX.sub (S' := [a]) (by simp)).new (q := q)).put (a := a) (by simp)
    clear e9
    clear hq
    rename Mm => M
    have hq8 := hq0
    refine m_astore (L' := [(4, .ref q), (3, .int (nI n)), (0, .ref a), (1, .int (nI j)), (2, .ref v)]) C dJx4a65c_add_7a177_36 (by decide) rfl ?_
    refine m_aload C dJx4a65c_add_7a177_38 0 rfl ?_
    refine m_iload_n C dJx4a65c_add_7a177_40 rfl 3 rfl ?_
    refine m_aload C dJx4a65c_add_7a177_41 0 rfl ?_
    refine m_iload_n C dJx4a65c_add_7a177_43 rfl 3 rfl ?_
    refine m_iconst (v := 1) C dJx4a65c_add_7a177_44 (by decide) ?_
    refine m_iadd C dJx4a65c_add_7a177_45 ?_
    refine m_i (y := nI (j + 1)) (nI_1 j) ?_
    refine m_iload_n C dJx4a65c_add_7a177_46 rfl 1 rfl ?_
    refine m_iload_n C dJx4a65c_add_7a177_47 rfl 3 rfl ?_
    refine m_isub C dJx4a65c_add_7a177_48 ?_
    refine m_i (y := nI (n - j)) (pk_sub hj) ?_
    refine m_copyq (index := 112) C (by decide +kernel) (by decide +kernel) (by decide +kernel) (by decide +kernel) (t0 := 3) (ci := 6) rfl rfl C.2.1.2.2.2.2.2.2.1.1 h_q h_q (sp := j) (dp := j + 1) (nn := n - j) rfl rfl rfl (by omega) (by omega) (by omega) (fun i9 y9 hi9 hy9 => ?_) (Nat.le_of_ble_eq_true rfl) (Nat.le_of_ble_eq_true rfl) dJx4a65c_add_7a177_49 ?_
    · obtain ⟨fs9, z9⟩ := hel0 (j + i9) y9 (by omega) ((hg9 _ (by omega)).symm.trans hy9)
      have hy : y9 ≠ a := m_ne z9 h_a8 (fun z => by cases z)
      have hyq : y9 ≠ q := fun z => by rw [z, hX8 q (by simp; exact hqa), hq0] at z9; cases z9
      exact ⟨fs9, by rw [hX y9 (by simp; exact ⟨hyq, hy⟩)]; rw [hX8 y9 (by simp; exact hy)] at z9; exact z9⟩
    have g_a : (m_up M q (jQ D cap9 (va_cpy g9 g9 j (j + 1) (n - j)))) a = some (.inr (2, [.int (mc + 1), .ref q, .int (nI n)])) := (m_up_n (m_ne h_a h_q (fun z => by cases z))).trans h_a
    have g_v : (m_up M q (jQ D cap9 (va_cpy g9 g9 j (j + 1) (n - j)))) v = some (.inr (6, fv)) := (m_up_n (m_ne h_v h_q (fun z => by cases z))).trans h_v
    have g_q : (m_up M q (jQ D cap9 (va_cpy g9 g9 j (j + 1) (n - j)))) q = some (jQ D cap9 (va_cpy g9 g9 j (j + 1) (n - j))) := m_up_s
    have gX := hX.put (a := q) (e := jQ D cap9 (va_cpy g9 g9 j (j + 1) (n - j))) (by simp)
    revert g_a g_v g_q gX
    generalize m_up M q (jQ D cap9 (va_cpy g9 g9 j (j + 1) (n - j))) = M
    intro h_a h_v h_q hX
    refine m_aload C dJx4a65c_add_7a177_52 0 rfl ?_
    refine m_iload_n C dJx4a65c_add_7a177_54 rfl 3 rfl ?_
    refine m_aload_n C dJx4a65c_add_7a177_55 rfl 4 rfl ?_
    refine m_aast C h_q 3 rfl h_v rfl C.2.1.2.2.2.2.2.2.1.1 (vp_in_nI (show j < cap9 by omega) (by omega)) dJx4a65c_add_7a177_56 ?_
    rw [nI_clamp (show j < 2 ^ 31 by omega)]
    have g_a : (m_up M q (jQ D cap9 (va_up (va_cpy g9 g9 j (j + 1) (n - j)) j (some v)))) a = some (.inr (2, [.int (mc + 1), .ref q, .int (nI n)])) := (m_up_n (m_ne h_a h_q (fun z => by cases z))).trans h_a
    have g_v : (m_up M q (jQ D cap9 (va_up (va_cpy g9 g9 j (j + 1) (n - j)) j (some v)))) v = some (.inr (6, fv)) := (m_up_n (m_ne h_v h_q (fun z => by cases z))).trans h_v
    have g_q : (m_up M q (jQ D cap9 (va_up (va_cpy g9 g9 j (j + 1) (n - j)) j (some v)))) q = some (jQ D cap9 (va_up (va_cpy g9 g9 j (j + 1) (n - j)) j (some v))) := m_up_s
    have gX := hX.put (a := q) (e := jQ D cap9 (va_up (va_cpy g9 g9 j (j + 1) (n - j)) j (some v))) (by simp)
    revert g_a g_v g_q gX
    generalize m_up M q (jQ D cap9 (va_up (va_cpy g9 g9 j (j + 1) (n - j)) j (some v))) = M
    intro h_a h_v h_q hX
    refine m_aload_n C dJx4a65c_add_7a177_57 rfl 2 rfl ?_
    refine m_iload_n C dJx4a65c_add_7a177_58 rfl 1 rfl ?_
    refine m_iconst (v := 1) C dJx4a65c_add_7a177_59 (by decide) ?_
    refine m_iadd C dJx4a65c_add_7a177_60 ?_
    refine m_i (y := nI (n + 1)) (nI_1 n) ?_
    refine m_put (ref := "java/util/ArrayList") C h_a rfl iL tyJx4a65c tyJx4a65c_ok nmJx4a65c 2 (by decide) (by decide +kernel) (fun x h => h) rfl rfl rfl (Nat.le_of_ble_eq_true rfl) (e' := .inr (2, [.int (mc + 1), .ref q, .int (nI (n + 1))])) rfl dJx4a65c_add_7a177_61 ?_
    have g_v : (m_up M a (.inr (2, [.int (mc + 1), .ref q, .int (nI (n + 1))]))) v = some (.inr (6, fv)) := (m_up_n (m_ne h_v h_a (fun z => by cases z))).trans h_v
    have g_q : (m_up M a (.inr (2, [.int (mc + 1), .ref q, .int (nI (n + 1))]))) q = some (jQ D cap9 (va_up (va_cpy g9 g9 j (j + 1) (n - j)) j (some v))) := (m_up_n (m_ne h_q h_a (fun z => by cases z))).trans h_q
    have g_a : (m_up M a (.inr (2, [.int (mc + 1), .ref q, .int (nI (n + 1))]))) a = some (.inr (2, [.int (mc + 1), .ref q, .int (nI (n + 1))])) := m_up_s
    have gX := hX.put (a := a) (e := .inr (2, [.int (mc + 1), .ref q, .int (nI (n + 1))])) (by simp)
    revert g_v g_q g_a gX
    generalize m_up M a (.inr (2, [.int (mc + 1), .ref q, .int (nI (n + 1))])) = M
    intro h_v h_q h_a hX
    exact m_vret C (by decide) (by decide) dJx4a65c_add_7a177_64 (⟨q, cap9, _, _, Or.inr hq0, hX, h_a, h_q, by omega, hc60, by omega, jins hg9 hj⟩)

