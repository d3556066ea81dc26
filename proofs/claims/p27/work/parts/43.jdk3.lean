/-! ===== the library: lists that grow ===== -/
/-- a list's array: the shared empty one, or one of its own -/
def jB (D : mD) (b cap : Nat) (f : Nat → Option Nat) (M : Mm) : Prop := (b = D.2.2 0 ∧ cap = 0) ∨ (M b = some (jQ D cap f) ∧ 0 < cap ∧ cap ≤ 60)
theorem jB.cap {D : mD} {b cap : Nat} {f : Nat → Option Nat} {M : Mm} (h : jB D b cap f M) : cap ≤ 60 := by
  rcases h with ⟨_, h⟩ | ⟨_, _, h⟩
  · rw [h]; decide
  · exact h
theorem jB.own {D : mD} {b cap : Nat} {f : Nat → Option Nat} {M : Mm} (h : jB D b cap f M) (h0 : 0 < cap) : M b = some (jQ D cap f) := by
  rcases h with ⟨_, h⟩ | ⟨h, _, _⟩
  · omega
  · exact h
def jN6 (M : Mm) (f : Nat → Option Nat) (n : Nat) : Prop := ∀ k y : Nat, k < n → f k = some y → ∃ fs : List Value, M y = some (.inr (6, fs))
theorem nI_max {a b : Nat} (ha : a < 2 ^ 31) (hb : b < 2 ^ 31) : (if nI a < nI b then nI b else nI a) = nI (if a < b then b else a) := by
  by_cases z : a < b
  · rw [if_pos z, if_pos (nI_lt z hb)]
  · rw [if_neg z, if_neg (nI_nlt (by omega) ha)]
theorem nI_shr1 : ∀ n, n < 64 → nI n >>> (1 &&& 31) = nI (n / 2) := by decide +kernel
section JB
variable {p : Program} {l : Launch} {e : Env} {R : Room} {s : State} {m : MethodId} {args : Array Value} {below : List Frame} {meth : Method} {c : Code} {nL : Nat} {D : mD} {A : Nat → Prop} {Q : State → Prop} {M : Mm} {k n : Nat} {L : List (Nat × Value)} {st : List Value} {pc : Nat} {cc : ByteArray} {Ts : List Cond} {own : String} {y0 : MethodName} {ret0 : Option FieldType}
theorem m_alenB (C : mC p m meth c cc nL s args Ts own D A y0 ret0) {b cap : Nat} {f : Nat → Option Nat} (hB : jB D b cap f M) (d : decode cc pc = .ok (.arraylength, 1)) (kk : mV p l e R s m args below meth c nL D A Q M k n L (.int (nI cap) :: st) (pc + 1)) : mV p l e R s m args below meth c nL D A Q M k n L (.ref b :: st) pc := by
  rcases hB with ⟨h1, h2⟩ | ⟨h1, h2, h3⟩
  · subst h1; subst h2
    exact m_tlen0 C d kk
  · exact m_alen C h1 3 rfl (v := nI cap) rfl d kk
end JB
set_option maxHeartbeats 4000000 in
set_option maxRecDepth 100000 in
theorem c_J8_newLength_cabcc (D : mD) (A : Nat → Prop) (l : Launch) {n a b : Nat} {M : Mm} (ha : 0 < a ∧ a ≤ 60) (hb : b ≤ 60) (hN : (n + if a < b then b else a) ≤ 100) : mMi D A l yJ8_newLength_cabcc wsJ8_newLength_cabcc ({ frames := 1, cells := 0, slots := 0, locals := 60 } : Room) [.int (nI n), .int (nI a), .int (nI b)] M (fun r M' => M' = M ∧ r = nI (n + if a < b then b else a)) 0 0 := by
  refine m_start (cc := cJ8_newLength_cabcc) (maxL := 4) (ret := (some .int)) (by decide) rfl (Nat.le_of_ble_eq_true rfl) ?_
  intro p e s m args below meth c C
  refine m_sub (L' := [(0, .int (nI n)), (1, .int (nI a)), (2, .int (nI b))]) [0, 1, 2] rfl ?_
  refine m_iload_n C dJ8_newLength_cabcc_0 rfl 0 rfl ?_
  refine m_iload_n C dJ8_newLength_cabcc_1 rfl 1 rfl ?_
  refine m_iload_n C dJ8_newLength_cabcc_2 rfl 2 rfl ?_
  refine m_mmax (x := (nI a)) (y := (nI b)) (index := 194) C (by decide +kernel) (by decide +kernel) (by decide +kernel) (by decide +kernel) (Nat.le_of_ble_eq_true rfl) (Nat.le_of_ble_eq_true rfl) (Nat.le_of_ble_eq_true rfl) (Nat.le_of_ble_eq_true rfl) dJ8_newLength_cabcc_3 ?_
  refine m_i (y := nI (if a < b then b else a)) (nI_max (by omega) (by omega)) ?_
  have hM9 : (if a < b then b else a) ≤ 60 := by split <;> omega
  refine m_iadd C dJ8_newLength_cabcc_6 ?_
  refine m_i (y := nI (n + if a < b then b else a)) (nI_add _ _) ?_
  have hP9 : 0 < n + (if a < b then b else a) := by split <;> omega
  generalize (n + if a < b then b else a) = N at hP9 hN ⊢
  refine m_istore_n (L' := [(3, .int (nI N)), (0, .int (nI n)), (1, .int (nI a)), (2, .int (nI b))]) C dJ8_newLength_cabcc_7 rfl (by decide) rfl ?_
  refine m_iconst (v := 0) C dJ8_newLength_cabcc_8 (by decide) ?_
  refine m_iload_n C dJ8_newLength_cabcc_9 rfl 0 rfl ?_
  refine m_icmp_ge (tgt := 21) C dJ8_newLength_cabcc_10 (by decide) (fun h_1 => ?_) (fun h_1 => ?_)
  · exact absurd h_1 (nI_nle hP9 (by omega))
  · refine m_iload_n C dJ8_newLength_cabcc_13 rfl 0 rfl ?_
    refine m_ldc (index := 200) (v := 2147483639) C (C.1.2.2.2.2 _ (by decide +kernel)) dJ8_newLength_cabcc_14 ?_
    refine m_icmp_gt (tgt := 21) C dJ8_newLength_cabcc_16 (by decide) (fun h_2 => ?_) (fun h_2 => ?_)
    · exact absurd h_2 (Int32.not_lt.mpr (Int32.le_iff_toInt_le.mpr (by rw [nI_toInt (by omega)]; show (N : Int) ≤ 2147483639; omega)))
    · refine m_iload_n C dJ8_newLength_cabcc_19 rfl 0 rfl ?_
      exact m_iret C (Nat.le_of_ble_eq_true rfl) (Nat.le_of_ble_eq_true rfl) dJ8_newLength_cabcc_20 (⟨rfl, rfl⟩)
set_option maxHeartbeats 4000000 in
set_option maxRecDepth 100000 in
theorem c_J7_copyOf_6403c (D : mD) (A : Nat → Prop) (l : Launch) {b cap N : Nat} {f : Nat → Option Nat} {M0 : Mm} (h_b : M0 b = some (jQ D cap f)) (hel : jN6 M0 f cap) (hcN : cap ≤ N) (hN : N ≤ 60) : mMq D A l yJ7_copyOf_6403c wsJ7_copyOf_6403c ({ frames := 1, cells := 1, slots := 60, locals := 160 } : Room) [.ref b, .int (nI N), .ref ((D.2.2 1))] M0 (fun r M' => ∃ q : Nat, r = some q ∧ M0 q = none ∧ M' = m_up M0 q (jQ D N (va_cpy f (fun _ => none) 0 0 cap))) 1 60 := by
  refine m_start (cc := cJ7_copyOf_6403c) (maxL := 4) (ret := (some (.array (.object "java/lang/Object")))) (by decide) rfl (Nat.le_of_ble_eq_true rfl) ?_
  intro p e s m args below meth c C
  refine m_sub (L' := [(0, .ref b), (1, .int (nI N)), (2, .ref ((D.2.2 1)))]) [0, 1, 2] rfl ?_
  obtain ⟨M, eM⟩ : ∃ z : Mm, z = M0 := ⟨_, rfl⟩
  refine m_mem (M' := M) (by rw [eM]; exact fun _ _ h => h) ?_
  have h_b : M b = some (jQ D cap f) := by rw [eM]; exact h_b
  have hX : mX [] M0 M := by rw [eM]; exact mX.rf
  clear eM
  refine m_aload_n C dJ7_copyOf_6403c_0 rfl 2 rfl ?_
  refine m_ldcM C (by decide +kernel) dJ7_copyOf_6403c_1 ?_
  refine m_acmp_ne (x := some (D.2.2 1)) (y := some (D.2.2 1)) (tgt := 13) C dJ7_copyOf_6403c_3 (by decide) (fun h_1 => ?_) (fun h_1 => ?_)
  · exact absurd rfl h_1
  · refine m_iload_n C dJ7_copyOf_6403c_6 rfl 1 rfl ?_
    refine m_newq (N := N) C (by decide +kernel) C.2.1.2.2.2.2.2.1.2 3 rfl rfl (by omega) (Nat.le_of_ble_eq_true rfl) (Nat.le_trans (show 0 + N ≤ 60 by omega) (Nat.le_of_ble_eq_true rfl)) dJ7_copyOf_6403c_7 (fun q_2 hq_q_2 => ?_)
    have hq0 : M0 q_2 = none := (hX q_2 (by simp)).symm.trans hq_q_2
    have g_b : (m_up M q_2 (jQ D N (fun _ => none))) b = some (jQ D cap f) := (m_up_n (m_neN h_b hq_q_2)).trans h_b
    have g_q_2 : (m_up M q_2 (jQ D N (fun _ => none))) q_2 = some (jQ D N (fun _ => none)) := m_up_s
    have gX := hX.new (q := q_2) (e := jQ D N (fun _ => none))
    revert g_b g_q_2 gX
    generalize m_up M q_2 (jQ D N (fun _ => none)) = M
    intro h_b h_q_2 hX
    refine m_goto (tgt := 24) C dJ7_copyOf_6403c_10 (by decide) ?_
    refine m_astore_n (L' := [(3, .ref q_2), (0, .ref b), (1, .int (nI N)), (2, .ref ((D.2.2 1)))]) C dJ7_copyOf_6403c_24 rfl (by decide) rfl ?_
    refine m_aload_n C dJ7_copyOf_6403c_25 rfl 1 rfl ?_
    refine m_iconst (v := 0) C dJ7_copyOf_6403c_26 (by decide) ?_
    refine m_aload_n C dJ7_copyOf_6403c_27 rfl 0 rfl ?_
    refine m_iconst (v := 0) C dJ7_copyOf_6403c_28 (by decide) ?_
    refine m_aload_n C dJ7_copyOf_6403c_29 rfl 1 rfl ?_
    refine m_alen C h_b 3 rfl (v := nI cap) rfl dJ7_copyOf_6403c_30 ?_
    refine m_iload_n C dJ7_copyOf_6403c_31 rfl 2 rfl ?_
    refine m_mmin (x := (nI cap)) (y := (nI N)) (index := 304) C (by decide +kernel) (by decide +kernel) (by decide +kernel) (by decide +kernel) (Nat.le_of_ble_eq_true rfl) (Nat.le_of_ble_eq_true rfl) (Nat.le_of_ble_eq_true rfl) (Nat.le_trans (show 0 + N ≤ 60 by omega) (Nat.le_of_ble_eq_true rfl)) dJ7_copyOf_6403c_32 ?_
    refine m_i (y := nI cap) (if_neg (nI_nlt hcN (by omega))) ?_
    refine m_copyq (index := 150) C (by decide +kernel) (by decide +kernel) (by decide +kernel) (by decide +kernel) (t0 := 3) (ci := 6) rfl rfl C.2.1.2.2.2.2.2.2.1.1 h_b h_q_2 (sp := 0) (dp := 0) (nn := cap) rfl rfl rfl (by omega) (by omega) (by omega) (fun i y hi hy => ?_) (Nat.le_of_ble_eq_true rfl) (Nat.le_of_ble_eq_true rfl) dJ7_copyOf_6403c_35 ?_
    · rw [Nat.zero_add] at hy
      obtain ⟨fs, h9⟩ := hel i y hi hy
      exact ⟨fs, by rw [hX y (by simp; exact m_neN h9 hq0)]; exact h9⟩
    have h9 : m_up M q_2 (jQ D N (va_cpy f (fun _ => none) 0 0 cap)) = m_up M0 q_2 (jQ D N (va_cpy f (fun _ => none) 0 0 cap)) := by
      funext c
      by_cases z : c = q_2
      · rw [z, m_up_s, m_up_s]
      · rw [m_up_n z, m_up_n z]; exact hX c (by simp; exact z)
    rw [h9]
    refine m_aload_n C dJ7_copyOf_6403c_38 rfl 0 rfl ?_
    exact m_aret C (Or.inr ⟨_, rfl⟩) (v := some q_2) (Nat.le_refl _) (by omega) dJ7_copyOf_6403c_39 (⟨_, rfl, hq0, rfl⟩)
set_option maxHeartbeats 4000000 in
set_option maxRecDepth 100000 in
theorem c_J7_copyOf_1904c (D : mD) (A : Nat → Prop) (l : Launch) {b cap N : Nat} {f : Nat → Option Nat} {M : Mm} (h_b : M b = some (jQ D cap f)) (hel : jN6 M f cap) (hcN : cap ≤ N) (hN : N ≤ 60) : mMq D A l yJ7_copyOf_1904c wsJ7_copyOf_1904c ({ frames := 2, cells := 1, slots := 60, locals := 220 } : Room) [.ref b, .int (nI N)] M (fun r M' => ∃ q : Nat, r = some q ∧ M q = none ∧ M' = m_up M q (jQ D N (va_cpy f (fun _ => none) 0 0 cap))) 1 60 := by
  refine m_start (cc := cJ7_copyOf_1904c) (maxL := 2) (ret := (some (.array (.object "java/lang/Object")))) (by decide) rfl (Nat.le_of_ble_eq_true rfl) ?_
  intro p e s m args below meth c C
  refine m_sub (L' := [(0, .ref b), (1, .int (nI N))]) [0, 1] rfl ?_
  refine m_aload_n C dJ7_copyOf_1904c_0 rfl 0 rfl ?_
  refine m_iload_n C dJ7_copyOf_1904c_1 rfl 1 rfl ?_
  refine m_aload_n C dJ7_copyOf_1904c_2 rfl 0 rfl ?_
  refine m_getC C h_b (by decide +kernel) (by decide +kernel) (by decide +kernel) (by decide +kernel) (Nat.le_of_ble_eq_true rfl) (Nat.le_of_ble_eq_true rfl) dJ7_copyOf_1904c_3 ?_
  refine m_callSq (As := [.ref b, .int (nI N), .ref ((D.2.2 1))]) (st := []) C (c_J7_copyOf_6403c D A l h_b hel hcN hN) (va_cwS 3 C.1.2.2.2.2 gJ7_copyOf_1904c_J7_copyOf_6403c rfl rfl rfl (by decide +kernel) ⟨Nat.le_of_ble_eq_true rfl, Nat.le_of_ble_eq_true rfl⟩) rfl rfl (Nat.le_of_ble_eq_true rfl) dJ7_copyOf_1904c_6 ⟨Nat.le_of_ble_eq_true rfl, Nat.le_of_ble_eq_true rfl⟩ (fun r M hq9 => ?_)
  obtain ⟨q, rfl, hq, rfl⟩ := hq9
  exact m_aret C (Or.inr ⟨_, rfl⟩) (v := some q) (by decide) (by decide) dJ7_copyOf_1904c_9 (⟨_, rfl, hq, rfl⟩)

