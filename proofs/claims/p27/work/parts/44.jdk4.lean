/-! ===== the library: lists, adding ===== -/
/-- what grow does: a new array, with the old elements -/
def jG (D : mD) (a n : Nat) (mc : Int32) (f : Nat → Option Nat) (M M' : Mm) (q : Nat) : Prop := M q = none ∧ ∃ (cap : Nat) (g : Nat → Option Nat), M' = m_up (m_up M q (jQ D cap g)) a (jLs mc q n) ∧ n < cap ∧ cap ≤ 60 ∧ ∀ k, k < n → g k = f k
/-- what an adding does: g says where the elements go -/
def jA (D : mD) (a b cap n : Nat) (P : (Nat → Option Nat) → Prop) (M M' : Mm) : Prop := ∃ (q cap' : Nat) (g : Nat → Option Nat) (mc : Int32), (q = b ∧ 0 < cap ∨ M q = none) ∧ mX [q, a] M M' ∧ M' a = some (jLs mc q n) ∧ M' q = some (jQ D cap' g) ∧ n ≤ cap' ∧ cap' ≤ 60 ∧ 0 < cap' ∧ P g
set_option maxHeartbeats 4000000 in
set_option maxRecDepth 100000 in
theorem c_Jx4a65c_grow_92f84 (D : mD) (A : Nat → Prop) (l : Launch) {a b n : Nat} {mc : Int32} {f : Nat → Option Nat} {M : Mm} (h_a : M a = some (jLs mc b n)) (hB : jB D b n f M) (hn : n ≤ 39) (hel : jN6 M f n) : mMq D A l yJx4a65c_grow_92f84 wsJx4a65c_grow_92f84 ({ frames := 3, cells := 1, slots := 60, locals := 300 } : Room) [.ref a, .int (nI (n + 1))] M (fun r M' => ∃ q : Nat, r = some q ∧ jG D a n mc f M M' q) 1 60 := by
  refine m_start (cc := cJx4a65c_grow_92f84) (maxL := 4) (ret := (some (.array (.object "java/lang/Object")))) (by decide) rfl (Nat.le_of_ble_eq_true rfl) ?_
  intro p e s m args below meth c C
  refine m_sub (L' := [(0, .ref a), (1, .int (nI (n + 1)))]) [0, 1] rfl ?_
  have iL : ∀ w ∈ wsJx4a65c0, w ∈ wsJx4a65c_grow_92f84 := by decide +kernel
  refine m_aload_n C dJx4a65c_grow_92f84_0 rfl 0 rfl ?_
  refine m_get C h_a rfl iL 1 (by decide) (by decide +kernel) (fun x h => h) (v := .ref b) rfl dJx4a65c_grow_92f84_1 ?_
  refine m_alenB C hB dJx4a65c_grow_92f84_4 ?_
  refine m_istore_n (L' := [(2, .int (nI n)), (0, .ref a), (1, .int (nI (n + 1)))]) C dJx4a65c_grow_92f84_5 rfl (by decide) rfl ?_
  refine m_iload_n C dJx4a65c_grow_92f84_6 rfl 0 rfl ?_
  refine m_if_gt (tgt := 20) C dJx4a65c_grow_92f84_7 (by decide) (fun h_1 => ?_) (fun h_1 => ?_)
  · have hn0 : 0 < n := by
      rcases Nat.eq_zero_or_pos n with z | z
      · rw [z] at h_1; exact absurd h_1 (by decide)
      · exact z
    have h_b := hB.own hn0
    have hN1 : (n + if 1 < n / 2 then n / 2 else 1) ≤ 58 := by split <;> omega
    refine m_iload_n C dJx4a65c_grow_92f84_20 rfl 0 rfl ?_
    refine m_iload_n C dJx4a65c_grow_92f84_21 rfl 2 rfl ?_
    refine m_iload_n C dJx4a65c_grow_92f84_22 rfl 0 rfl ?_
    refine m_isub C dJx4a65c_grow_92f84_23 ?_
    refine m_i (y := nI 1) (by rw [nI_succ, Int32.add_comm]; exact Int32.add_sub_cancel _ _) ?_
    refine m_iload_n C dJx4a65c_grow_92f84_24 rfl 0 rfl ?_
    refine m_iconst (v := 1) C dJx4a65c_grow_92f84_25 (by decide) ?_
    refine m_ishr C dJx4a65c_grow_92f84_26 ?_
    refine m_i (y := nI (n / 2)) (nI_shr1 n (by omega)) ?_
    refine m_callSFi (As := [.int (nI n), .int (nI 1), .int (nI (n / 2))]) (st := []) C (c_J8_newLength_cabcc D A l (n := n) (a := 1) (b := n / 2) (by omega) (by omega) (by omega)) (va_cwS 3 C.1.2.2.2.2 gJx4a65c_grow_92f84_J8_newLength_cabcc rfl rfl rfl (by decide +kernel) ⟨Nat.le_of_ble_eq_true rfl, Nat.le_of_ble_eq_true rfl⟩) rfl rfl (Nat.le_of_ble_eq_true rfl) dJx4a65c_grow_92f84_27 ⟨Nat.le_of_ble_eq_true rfl, Nat.le_of_ble_eq_true rfl⟩ ?_
    have hN2 : n < (n + if 1 < n / 2 then n / 2 else 1) := by split <;> omega
    generalize (n + if 1 < n / 2 then n / 2 else 1) = N at hN1 hN2 ⊢
    refine m_istore_n (L' := [(3, .int (nI N)), (2, .int (nI n)), (0, .ref a), (1, .int (nI (n + 1)))]) C dJx4a65c_grow_92f84_30 rfl (by decide) rfl ?_
    refine m_aload_n C dJx4a65c_grow_92f84_31 rfl 2 rfl ?_
    refine m_aload_n C dJx4a65c_grow_92f84_32 rfl 2 rfl ?_
    refine m_get C h_a rfl iL 1 (by decide) (by decide +kernel) (fun x h => h) (v := .ref b) rfl dJx4a65c_grow_92f84_33 ?_
    refine m_iload_n C dJx4a65c_grow_92f84_36 rfl 0 rfl ?_
    refine m_callSq (As := [.ref b, .int (nI N)]) (st := [.ref a]) C (c_J7_copyOf_1904c D A l h_b hel (Nat.le_of_lt hN2) (by omega)) (va_cwS 2 C.1.2.2.2.2 gJx4a65c_grow_92f84_J7_copyOf_1904c rfl rfl rfl (by decide +kernel) ⟨Nat.le_of_ble_eq_true rfl, Nat.le_of_ble_eq_true rfl⟩) rfl rfl (Nat.le_of_ble_eq_true rfl) dJx4a65c_grow_92f84_37 ⟨Nat.le_of_ble_eq_true rfl, Nat.le_of_ble_eq_true rfl⟩ (fun r M9 hq9 => ?_)
    obtain ⟨q, rfl, hq, rfl⟩ := hq9
    have h_a : m_up M q (jQ D N (va_cpy f (fun _ => none) 0 0 n)) a = some (jLs mc b n) := (m_up_n (m_neN h_a hq)).trans h_a
    refine m_dup_x1 C dJx4a65c_grow_92f84_40 rfl rfl ?_
    refine m_put C h_a rfl iL tyJx4a65c tyJx4a65c_ok nmJx4a65c 1 (by decide) (by decide +kernel) (fun x h => h) rfl rfl rfl (Nat.le_of_ble_eq_true rfl) (e' := jLs mc q n) rfl dJx4a65c_grow_92f84_41 ?_
    exact m_aret C (Or.inr ⟨_, rfl⟩) (v := some q) (by decide) (by decide) dJx4a65c_grow_92f84_44 (⟨q, rfl, hq, _, _, rfl, hN2, by omega, fun k hk => by show (if 0 ≤ k ∧ k < 0 + n then f (0 + (k - 0)) else none) = f k; rw [if_pos ⟨by omega, by omega⟩, Nat.zero_add, Nat.sub_zero]⟩)
  · have hn0 : n = 0 := by
      rcases Nat.eq_zero_or_pos n with z | z
      · exact z
      · exact absurd (show 0 < nI n from nI_lt (a := 0) z (by omega)) h_1
    have hb0 : b = D.2.2 0 := by
      rcases hB with ⟨z, _⟩ | ⟨_, z, _⟩
      · exact z
      · omega
    refine m_aload_n C dJx4a65c_grow_92f84_10 rfl 1 rfl ?_
    refine m_get C h_a rfl iL 1 (by decide) (by decide +kernel) (fun x h => h) (v := .ref b) rfl dJx4a65c_grow_92f84_11 ?_
    refine m_gets0 C (by decide +kernel) dJx4a65c_grow_92f84_14 ?_
    refine m_acmp_eq (x := some b) (y := some (D.2.2 0)) (tgt := 45) C dJx4a65c_grow_92f84_17 (by decide) (fun h_2 => ?_) (fun h_2 => ?_)
    · refine m_aload_n C dJx4a65c_grow_92f84_45 rfl 1 rfl ?_
      refine m_bipush (v := 10) C dJx4a65c_grow_92f84_46 (by decide) ?_
      refine m_iload_n C dJx4a65c_grow_92f84_48 rfl 2 rfl ?_
      refine m_mmax (x := 10) (y := (nI (n + 1))) (index := 79) C (by decide +kernel) (by decide +kernel) (by decide +kernel) (by decide +kernel) (Nat.le_of_ble_eq_true rfl) (Nat.le_of_ble_eq_true rfl) (Nat.le_of_ble_eq_true rfl) (Nat.le_of_ble_eq_true rfl) dJx4a65c_grow_92f84_49 ?_
      subst hn0
      refine m_i (y := nI 10) (by decide) ?_
      refine m_newq (N := 10) C (by decide +kernel) C.2.1.2.2.2.2.2.1.2 3 rfl rfl (by omega) (Nat.le_of_ble_eq_true rfl) (Nat.le_trans (show 0 + 10 ≤ 60 by omega) (Nat.le_of_ble_eq_true rfl)) dJx4a65c_grow_92f84_52 (fun q_3 hq_q_3 => ?_)
      have h_a : m_up M q_3 (jQ D 10 (fun _ => none)) a = some (jLs mc b 0) := (m_up_n (m_neN h_a hq_q_3)).trans h_a
      refine m_dup_x1 C dJx4a65c_grow_92f84_55 rfl rfl ?_
      refine m_put C h_a rfl iL tyJx4a65c tyJx4a65c_ok nmJx4a65c 1 (by decide) (by decide +kernel) (fun x h => h) rfl rfl rfl (Nat.le_of_ble_eq_true rfl) (e' := jLs mc q_3 0) rfl dJx4a65c_grow_92f84_56 ?_
      exact m_aret C (Or.inr ⟨_, rfl⟩) (v := some q_3) (by decide) (by decide) dJx4a65c_grow_92f84_59 (⟨_, rfl, hq_q_3, _, _, rfl, by decide, by decide, fun k hk => absurd hk (Nat.not_lt_zero k)⟩)
    · exact absurd (congrArg some hb0) h_2
set_option maxHeartbeats 4000000 in
set_option maxRecDepth 100000 in
theorem c_Jx4a65c_grow_d5877 (D : mD) (A : Nat → Prop) (l : Launch) {a b n : Nat} {mc : Int32} {f : Nat → Option Nat} {M : Mm} (h_a : M a = some (jLs mc b n)) (hB : jB D b n f M) (hn : n ≤ 39) (hel : jN6 M f n) : mMq D A l yJx4a65c_grow_d5877 wsJx4a65c_grow_d5877 ({ frames := 4, cells := 1, slots := 60, locals := 360 } : Room) [.ref a] M (fun r M' => ∃ q : Nat, r = some q ∧ jG D a n mc f M M' q) 1 60 := by
  refine m_start (cc := cJx4a65c_grow_d5877) (maxL := 1) (ret := (some (.array (.object "java/lang/Object")))) (by decide) rfl (Nat.le_of_ble_eq_true rfl) ?_
  intro p e s m args below meth c C
  refine m_sub (L' := [(0, .ref a)]) [0] rfl ?_
  have iL : ∀ w ∈ wsJx4a65c0, w ∈ wsJx4a65c_grow_d5877 := by decide +kernel
  refine m_aload_n C dJx4a65c_grow_d5877_0 rfl 0 rfl ?_
  refine m_aload_n C dJx4a65c_grow_d5877_1 rfl 0 rfl ?_
  refine m_get C h_a rfl iL 2 (by decide) (by decide +kernel) (fun x h => h) (v := .int (nI n)) rfl dJx4a65c_grow_d5877_2 ?_
  refine m_iconst (v := 1) C dJx4a65c_grow_d5877_5 (by decide) ?_
  refine m_iadd C dJx4a65c_grow_d5877_6 ?_
  refine m_i (y := nI (n + 1)) (nI_1 n) ?_
  refine m_callVq (As := [.int (nI (n + 1))]) (st := []) C h_a rfl (c_Jx4a65c_grow_92f84 D A l h_a hB hn hel) (cwV 1 C.1.2.2.2.2 gJx4a65c_grow_d5877_Jx4a65c_grow_92f84 rfl rfl rfl (by decide +kernel) ⟨Nat.le_of_ble_eq_true rfl, Nat.le_of_ble_eq_true rfl⟩) rfl rfl (Nat.le_of_ble_eq_true rfl) dJx4a65c_grow_d5877_7 ⟨Nat.le_of_ble_eq_true rfl, Nat.le_of_ble_eq_true rfl⟩ (fun r M9 hq9 => ?_)
  obtain ⟨q, rfl, hq9⟩ := hq9
  exact m_aret C (Or.inr ⟨_, rfl⟩) (v := some q) (by decide) (by decide) dJx4a65c_grow_d5877_10 (⟨_, rfl, hq9⟩)
set_option maxHeartbeats 4000000 in
set_option maxRecDepth 100000 in
theorem c_Jx4a65c_add_72be8 (D : mD) (A : Nat → Prop) (l : Launch) {a b cap n v : Nat} {mc : Int32} {f : Nat → Option Nat} {fv : List Value} {M0 : Mm} (h_a : M0 a = some (jLs mc b n)) (hB : jB D b cap f M0) (hnc : n ≤ cap) (hn : n ≤ 39) (hel : jN6 M0 f n) (h_v : M0 v = some (.inr (6, fv))) : mMv D A l yJx4a65c_add_72be8 wsJx4a65c_add_72be8 ({ frames := 5, cells := 1, slots := 60, locals := 420 } : Room) [.ref a, .ref v, .ref b, .int (nI n)] M0 (jA D a b cap (n + 1) (fun g => (∀ k, k < n → g k = f k) ∧ g n = some v) M0) 1 60 := by
  refine m_start (cc := cJx4a65c_add_72be8) (maxL := 4) (ret := none) (by decide) rfl (Nat.le_of_ble_eq_true rfl) ?_
  intro p e s m args below meth c C
  refine m_sub (L' := [(0, .ref a), (1, .ref v), (2, .ref b), (3, .int (nI n))]) [0, 1, 2, 3] rfl ?_
  have iL : ∀ w ∈ wsJx4a65c0, w ∈ wsJx4a65c_add_72be8 := by decide +kernel
  obtain ⟨M, eM⟩ : ∃ z : Mm, z = M0 := ⟨_, rfl⟩
  refine m_mem (M' := M) (by rw [eM]; exact fun _ _ h => h) ?_
  have h_a : M a = some (.inr (2, [.int mc, .ref b, .int (nI n)])) := by rw [eM]; exact h_a
  have h_v : M v = some (.inr (6, fv)) := by rw [eM]; exact h_v
  have hB : jB D b cap f M := by rw [eM]; exact hB
  have hel : jN6 M f n := by rw [eM]; exact hel
  have hX : mX [] M0 M := by rw [eM]; exact mX.rf
  clear eM
  refine m_iload_n C dJx4a65c_add_72be8_0 rfl 3 rfl ?_
  refine m_aload_n C dJx4a65c_add_72be8_1 rfl 2 rfl ?_
  refine m_alenB C hB dJx4a65c_add_72be8_2 ?_
  refine m_icmp_ne (tgt := 11) C dJx4a65c_add_72be8_3 (by decide) (fun h_1 => ?_) (fun h_1 => ?_)
  · have hlt : n < cap := by
      rcases Nat.lt_or_ge n cap with z | z
      · exact z
      · exact absurd (congrArg nI (Nat.le_antisymm hnc z)) h_1
    have hc9 := hB.cap
    have h_b := hB.own (by omega)
    have hX := hX.sub (S' := [b, a]) (fun x h => by cases h)
    refine m_aload_n C dJx4a65c_add_72be8_11 rfl 2 rfl ?_
    refine m_iload_n C dJx4a65c_add_72be8_12 rfl 3 rfl ?_
    refine m_aload_n C dJx4a65c_add_72be8_13 rfl 1 rfl ?_
    refine m_aast C h_b 3 rfl h_v rfl C.2.1.2.2.2.2.2.2.1.1 (vp_in_nI (show n < cap by omega) (by omega)) dJx4a65c_add_72be8_14 ?_
    rw [nI_clamp (show n < 2 ^ 31 by omega)]
    have g_a : (m_up M b (jQ D cap (va_up f n (some v)))) a = some (.inr (2, [.int mc, .ref b, .int (nI n)])) := (m_up_n (m_ne h_a h_b (fun z => by cases z))).trans h_a
    have g_v : (m_up M b (jQ D cap (va_up f n (some v)))) v = some (.inr (6, fv)) := (m_up_n (m_ne h_v h_b (fun z => by cases z))).trans h_v
    have g_b : (m_up M b (jQ D cap (va_up f n (some v)))) b = some (jQ D cap (va_up f n (some v))) := m_up_s
    have gX := hX.put (a := b) (e := jQ D cap (va_up f n (some v))) (by simp)
    revert g_a g_v g_b gX
    generalize m_up M b (jQ D cap (va_up f n (some v))) = M
    intro h_a h_v h_b hX
    refine m_aload_n C dJx4a65c_add_72be8_15 rfl 0 rfl ?_
    refine m_iload_n C dJx4a65c_add_72be8_16 rfl 3 rfl ?_
    refine m_iconst (v := 1) C dJx4a65c_add_72be8_17 (by decide) ?_
    refine m_iadd C dJx4a65c_add_72be8_18 ?_
    refine m_i (y := nI (n + 1)) (nI_1 n) ?_
    refine m_put C h_a rfl iL tyJx4a65c tyJx4a65c_ok nmJx4a65c 2 (by decide) (by decide +kernel) (fun x h => h) rfl rfl rfl (Nat.le_of_ble_eq_true rfl) (e' := .inr (2, [.int mc, .ref b, .int (nI (n + 1))])) rfl dJx4a65c_add_72be8_19 ?_
    have g_v : (m_up M a (.inr (2, [.int mc, .ref b, .int (nI (n + 1))]))) v = some (.inr (6, fv)) := (m_up_n (m_ne h_v h_a (fun z => by cases z))).trans h_v
    have g_b : (m_up M a (.inr (2, [.int mc, .ref b, .int (nI (n + 1))]))) b = some (jQ D cap (va_up f n (some v))) := (m_up_n (m_ne h_b h_a (fun z => by cases z))).trans h_b
    have g_a : (m_up M a (.inr (2, [.int mc, .ref b, .int (nI (n + 1))]))) a = some (.inr (2, [.int mc, .ref b, .int (nI (n + 1))])) := m_up_s
    have gX := hX.put (a := a) (e := .inr (2, [.int mc, .ref b, .int (nI (n + 1))])) (by simp)
    revert g_v g_b g_a gX
    generalize m_up M a (.inr (2, [.int mc, .ref b, .int (nI (n + 1))])) = M
    intro h_v h_b h_a hX
    exact m_vret C (by decide) (by decide) dJx4a65c_add_72be8_22 (⟨b, cap, _, mc, Or.inl ⟨rfl, by omega⟩, hX, h_a, h_b, by omega, hB.cap, by omega, (fun k hk => if_neg (by omega)), if_pos rfl⟩)
  · have hnq : n = cap := by
      have := congrArg Int32.toNatClampNeg h_1
      have hc := hB.cap
      rw [nI_clamp (by omega), nI_clamp (by omega)] at this
      exact this
    subst hnq
    refine m_aload_n C dJx4a65c_add_72be8_6 rfl 0 rfl ?_
    refine m_callVq (As := []) (st := []) C h_a rfl (c_Jx4a65c_grow_d5877 D A l h_a hB hn hel) (cwV 0 C.1.2.2.2.2 gJx4a65c_add_72be8_Jx4a65c_grow_d5877 rfl rfl rfl (by decide +kernel) ⟨Nat.le_of_ble_eq_true rfl, Nat.le_of_ble_eq_true rfl⟩) rfl rfl (Nat.le_of_ble_eq_true rfl) dJx4a65c_add_72be8_7 ⟨Nat.le_of_ble_eq_true rfl, Nat.le_of_ble_eq_true rfl⟩ (fun r M9 hq9 => ?_)
    obtain ⟨q, rfl, hq, cap9, g9, e9, hc9, hc60, hg9⟩ := hq9
    have hq0 : M0 q = none := by rw [← hX q (by first | (simp; done) | (simp; intro z9; rw [z9, h_a] at hq; cases hq))]; exact hq
    have hqa : q ≠ a := fun z => by rw [z, h_a] at hq; cases hq
    have hqv : v ≠ q := m_neN h_v hq
    have h_q : M9 q = some (jQ D cap9 g9) := by rw [e9, m_up_n hqa]; exact m_up_s
    have h_v : M9 v = some (.inr (6, fv)) := by rw [e9, m_up_n (m_ne h_v h_a (fun z => by cases z)), m_up_n hqv]; exact h_v
    have h_a : M9 a = some (jLs mc q n) := by rw [e9]; exact m_up_s
    have hX : mX [q, a] M0 M9 := by rw [e9]; exact ((hX.sub (S' := [a]) (by simp)).new (q := q)).put (a := a) (by simp)
    clear e9
    clear hq
    rename Mm => M
    refine m_astore_n (L' := [(2, .ref q), (0, .ref a), (1, .ref v), (3, .int (nI n))]) C dJx4a65c_add_72be8_10 rfl (by decide) rfl ?_
    refine m_aload_n C dJx4a65c_add_72be8_11 rfl 0 rfl ?_
    refine m_iload_n C dJx4a65c_add_72be8_12 rfl 3 rfl ?_
    refine m_aload_n C dJx4a65c_add_72be8_13 rfl 2 rfl ?_
    refine m_aast C h_q 3 rfl h_v rfl C.2.1.2.2.2.2.2.2.1.1 (vp_in_nI (show n < cap9 by omega) (by omega)) dJx4a65c_add_72be8_14 ?_
    rw [nI_clamp (show n < 2 ^ 31 by omega)]
    have g_a : (m_up M q (jQ D cap9 (va_up g9 n (some v)))) a = some (.inr (2, [.int mc, .ref q, .int (nI n)])) := (m_up_n (m_ne h_a h_q (fun z => by cases z))).trans h_a
    have g_v : (m_up M q (jQ D cap9 (va_up g9 n (some v)))) v = some (.inr (6, fv)) := (m_up_n (m_ne h_v h_q (fun z => by cases z))).trans h_v
    have g_q : (m_up M q (jQ D cap9 (va_up g9 n (some v)))) q = some (jQ D cap9 (va_up g9 n (some v))) := m_up_s
    have gX := hX.put (a := q) (e := jQ D cap9 (va_up g9 n (some v))) (by simp)
    revert g_a g_v g_q gX
    generalize m_up M q (jQ D cap9 (va_up g9 n (some v))) = M
    intro h_a h_v h_q hX
    refine m_aload_n C dJx4a65c_add_72be8_15 rfl 1 rfl ?_
    refine m_iload_n C dJx4a65c_add_72be8_16 rfl 3 rfl ?_
    refine m_iconst (v := 1) C dJx4a65c_add_72be8_17 (by decide) ?_
    refine m_iadd C dJx4a65c_add_72be8_18 ?_
    refine m_i (y := nI (n + 1)) (nI_1 n) ?_
    refine m_put C h_a rfl iL tyJx4a65c tyJx4a65c_ok nmJx4a65c 2 (by decide) (by decide +kernel) (fun x h => h) rfl rfl rfl (Nat.le_of_ble_eq_true rfl) (e' := .inr (2, [.int mc, .ref q, .int (nI (n + 1))])) rfl dJx4a65c_add_72be8_19 ?_
    have g_v : (m_up M a (.inr (2, [.int mc, .ref q, .int (nI (n + 1))]))) v = some (.inr (6, fv)) := (m_up_n (m_ne h_v h_a (fun z => by cases z))).trans h_v
    have g_q : (m_up M a (.inr (2, [.int mc, .ref q, .int (nI (n + 1))]))) q = some (jQ D cap9 (va_up g9 n (some v))) := (m_up_n (m_ne h_q h_a (fun z => by cases z))).trans h_q
    have g_a : (m_up M a (.inr (2, [.int mc, .ref q, .int (nI (n + 1))]))) a = some (.inr (2, [.int mc, .ref q, .int (nI (n + 1))])) := m_up_s
    have gX := hX.put (a := a) (e := .inr (2, [.int mc, .ref q, .int (nI (n + 1))])) (by simp)
    revert g_v g_q g_a gX
    generalize m_up M a (.inr (2, [.int mc, .ref q, .int (nI (n + 1))])) = M
    intro h_v h_q h_a hX
    exact m_vret C (by decide) (by decide) dJx4a65c_add_72be8_22 (⟨q, cap9, _, mc, Or.inr hq0, hX, h_a, h_q, by omega, hc60, by omega, (fun k hk => (if_neg (by omega)).trans (hg9 k hk)), if_pos rfl⟩)

