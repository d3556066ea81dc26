/-! ===== the library: lists, their methods ===== -/
/-- nothing has changed but at these addresses -/
def mX (S : List Nat) (M0 M : Mm) : Prop := ∀ a : Nat, a ∉ S → M a = M0 a
theorem mX.rf {S : List Nat} {M : Mm} : mX S M M := fun _ _ => rfl
theorem mX.put {S : List Nat} {M0 M : Mm} {a : Nat} {e : va_E} (h : mX S M0 M) (ha : a ∈ S) : mX S M0 (m_up M a e) := fun b hb => by
  rw [m_up_n (a := a) (b := b) (fun z => hb (by rw [z]; exact ha))]
  exact h b hb
theorem mX.new {S : List Nat} {M0 M : Mm} {q : Nat} {e : va_E} (h : mX S M0 M) : mX (q :: S) M0 (m_up M q e) := fun b hb => by
  rw [m_up_n (a := q) (b := b) (fun z => hb (by rw [z]; exact List.mem_cons_self ..))]
  exact h b (fun z => hb (List.mem_cons_of_mem _ z))
theorem mX.sub {S S' : List Nat} {M0 M : Mm} (h : mX S M0 M) (hs : ∀ a ∈ S, a ∈ S') : mX S' M0 M := fun b hb => h b (fun z => hb (hs b z))
theorem mX.tr {S : List Nat} {M0 M1 M2 : Mm} (h : mX S M0 M1) (h2 : mX S M1 M2) : mX S M0 M2 := fun b hb => (h2 b hb).trans (h b hb)
theorem m_ne {M : Mm} {a b : Nat} {x y : va_E} (ha : M a = some x) (hb : M b = some y) (h : x ≠ y) : a ≠ b := by
  intro z
  rw [z, hb] at ha
  exact h (Option.some.inj ha).symm
theorem m_neN {M : Mm} {a q : Nat} {x : va_E} (ha : M a = some x) (hq : M q = none) : a ≠ q := by
  intro z
  rw [z, hq] at ha
  cases ha
abbrev jQ (D : mD) (n : Nat) (f : Nat → Option Nat) : va_E := .inl (D.2.1 3, n, .inr (.inr (.inr (.inr f))))
abbrev jLs (mc : Int32) (b n : Nat) : va_E := .inr (2, [.int mc, .ref b, .int (nI n)])
set_option maxHeartbeats 4000000 in
set_option maxRecDepth 100000 in
theorem c_J3_checkIndex_8e157 (D : mD) (A : Nat → Prop) (l : Launch) {j N : Nat} {M : Mm} (hj : j < N) (hN : N < 2 ^ 31) : mMi D A l yJ3_checkIndex_8e157 wsJ3_checkIndex_8e157 ({ frames := 0, cells := 0, slots := 0, locals := 0 } : Room) [.int (nI j), .int (nI N), .null] M (fun r M' => M' = M ∧ r = nI j) 0 0 := by
  refine m_start (cc := cJ3_checkIndex_8e157) (maxL := 3) (ret := (some .int)) (by decide) rfl (Nat.le_of_ble_eq_true rfl) ?_
  intro p e s m args below meth c C
  refine m_sub (L' := [(0, .int (nI j)), (1, .int (nI N)), (2, .null)]) [0, 1, 2] rfl ?_
  refine m_iload_n C dJ3_checkIndex_8e157_0 rfl 0 rfl ?_
  refine m_if_lt (tgt := 9) C dJ3_checkIndex_8e157_1 (by decide) (fun h_1 => ?_) (fun h_1 => ?_)
  · exact absurd h_1 (nI_pos (by omega))
  · refine m_iload_n C dJ3_checkIndex_8e157_4 rfl 0 rfl ?_
    refine m_iload_n C dJ3_checkIndex_8e157_5 rfl 1 rfl ?_
    refine m_icmp_lt (tgt := 16) C dJ3_checkIndex_8e157_6 (by decide) (fun h_2 => ?_) (fun h_2 => ?_)
    · refine m_iload_n C dJ3_checkIndex_8e157_16 rfl 0 rfl ?_
      exact m_iret C (Nat.le_of_ble_eq_true rfl) (Nat.le_of_ble_eq_true rfl) dJ3_checkIndex_8e157_17 (⟨rfl, rfl⟩)
    · exact absurd (nI_lt (a := j) (b := N) hj hN) h_2
set_option maxHeartbeats 4000000 in
set_option maxRecDepth 100000 in
theorem c_J15_checkIndex_7cf53 (D : mD) (A : Nat → Prop) (l : Launch) {j N : Nat} {M : Mm} (hj : j < N) (hN : N < 2 ^ 31) : mMi D A l yJ15_checkIndex_7cf53 wsJ15_checkIndex_7cf53 ({ frames := 1, cells := 0, slots := 0, locals := 60 } : Room) [.int (nI j), .int (nI N)] M (fun r M' => M' = M ∧ r = nI j) 0 0 := by
  refine m_start (cc := cJ15_checkIndex_7cf53) (maxL := 2) (ret := (some .int)) (by decide) rfl (Nat.le_of_ble_eq_true rfl) ?_
  intro p e s m args below meth c C
  refine m_sub (L' := [(0, .int (nI j)), (1, .int (nI N))]) [0, 1] rfl ?_
  refine m_iload_n C dJ15_checkIndex_7cf53_0 rfl 0 rfl ?_
  refine m_iload_n C dJ15_checkIndex_7cf53_1 rfl 1 rfl ?_
  refine m_null C dJ15_checkIndex_7cf53_2 ?_
  refine m_callSFi (As := [.int (nI j), .int (nI N), .null]) (st := []) (v := nI j) C (c_J3_checkIndex_8e157 D A l hj hN) (va_cwS 3 C.1.2.2.2.2 gJ15_checkIndex_7cf53_J3_checkIndex_8e157 rfl rfl rfl (by decide +kernel) ⟨Nat.le_of_ble_eq_true rfl, Nat.le_of_ble_eq_true rfl⟩) rfl rfl (Nat.le_of_ble_eq_true rfl) dJ15_checkIndex_7cf53_3 ⟨Nat.le_of_ble_eq_true rfl, Nat.le_of_ble_eq_true rfl⟩ ?_
  exact m_iret C (Nat.le_of_ble_eq_true rfl) (Nat.le_of_ble_eq_true rfl) dJ15_checkIndex_7cf53_6 (⟨rfl, rfl⟩)
set_option maxHeartbeats 4000000 in
set_option maxRecDepth 100000 in
theorem c_Jx4a65c_size_8abf5 (D : mD) (A : Nat → Prop) (l : Launch) {a b n : Nat} {mc : Int32} {M : Mm} (h_a : M a = some (jLs mc b n)) : mMi D A l yJx4a65c_size_8abf5 wsJx4a65c_size_8abf5 ({ frames := 0, cells := 0, slots := 0, locals := 0 } : Room) [.ref a] M (fun r M' => M' = M ∧ r = nI n) 0 0 := by
  refine m_start (cc := cJx4a65c_size_8abf5) (maxL := 1) (ret := (some .int)) (by decide) rfl (Nat.le_of_ble_eq_true rfl) ?_
  intro p e s m args below meth c C
  refine m_sub (L' := [(0, .ref a)]) [0] rfl ?_
  have iL : ∀ w ∈ wsJx4a65c0, w ∈ wsJx4a65c_size_8abf5 := by decide +kernel
  refine m_aload_n C dJx4a65c_size_8abf5_0 rfl 0 rfl ?_
  refine m_get C h_a rfl iL 2 (by decide) (by decide +kernel) (fun x h => h) (v := .int (nI n)) rfl dJx4a65c_size_8abf5_1 ?_
  exact m_iret C (Nat.le_of_ble_eq_true rfl) (Nat.le_of_ble_eq_true rfl) dJx4a65c_size_8abf5_4 (⟨rfl, rfl⟩)
set_option maxHeartbeats 4000000 in
set_option maxRecDepth 100000 in
theorem c_Jx4a65c_isEmpty_aae02 (D : mD) (A : Nat → Prop) (l : Launch) {a b n : Nat} {mc : Int32} {M : Mm} (h_a : M a = some (jLs mc b n)) (hn : n < 2 ^ 31) : mMi D A l yJx4a65c_isEmpty_aae02 wsJx4a65c_isEmpty_aae02 ({ frames := 0, cells := 0, slots := 0, locals := 0 } : Room) [.ref a] M (fun r M' => M' = M ∧ r = bI (decide (n = 0))) 0 0 := by
  refine m_start (cc := cJx4a65c_isEmpty_aae02) (maxL := 1) (ret := (some .boolean)) (by decide) rfl (Nat.le_of_ble_eq_true rfl) ?_
  intro p e s m args below meth c C
  refine m_sub (L' := [(0, .ref a)]) [0] rfl ?_
  have iL : ∀ w ∈ wsJx4a65c0, w ∈ wsJx4a65c_isEmpty_aae02 := by decide +kernel
  refine m_aload_n C dJx4a65c_isEmpty_aae02_0 rfl 0 rfl ?_
  refine m_get C h_a rfl iL 2 (by decide) (by decide +kernel) (fun x h => h) (v := .int (nI n)) rfl dJx4a65c_isEmpty_aae02_1 ?_
  refine m_if_ne (tgt := 11) C dJx4a65c_isEmpty_aae02_4 (by decide) (fun h_1 => ?_) (fun h_1 => ?_)
  · refine m_iconst (v := 0) C dJx4a65c_isEmpty_aae02_11 (by decide) ?_
    exact m_zret C (Nat.le_of_ble_eq_true rfl) (Nat.le_of_ble_eq_true rfl) dJx4a65c_isEmpty_aae02_12 (Or.inl rfl) (⟨rfl, by rw [bI_f (decide_eq_false (fun z => h_1 (by rw [z]; rfl)))]⟩)
  · refine m_iconst (v := 1) C dJx4a65c_isEmpty_aae02_7 (by decide) ?_
    refine m_goto (tgt := 12) C dJx4a65c_isEmpty_aae02_8 (by decide) ?_
    exact m_zret C (Nat.le_of_ble_eq_true rfl) (Nat.le_of_ble_eq_true rfl) dJx4a65c_isEmpty_aae02_12 (Or.inr rfl) (⟨rfl, by rw [bI_t (decide_eq_true (by have := congrArg Int32.toNatClampNeg h_1; rw [nI_clamp hn] at this; exact this))]⟩)
set_option maxHeartbeats 4000000 in
set_option maxRecDepth 100000 in
theorem c_Jx4a65c_elementData_915e3 (D : mD) (A : Nat → Prop) (l : Launch) {a b n : Nat} {mc : Int32} {M : Mm} (h_a : M a = some (jLs mc b n)) {cap : Nat} {f : Nat → Option Nat} (h_b : M b = some (jQ D cap f)) {j : Nat} (hj : j < n) (hcap : n ≤ cap ∧ cap < 2 ^ 31) : mMq D A l yJx4a65c_elementData_915e3 wsJx4a65c_elementData_915e3 ({ frames := 0, cells := 0, slots := 0, locals := 0 } : Room) [.ref a, .int (nI j)] M (fun r M' => M' = M ∧ r = f j) 0 0 := by
  refine m_start (cc := cJx4a65c_elementData_915e3) (maxL := 2) (ret := (some (.object "java/lang/Object"))) (by decide) rfl (Nat.le_of_ble_eq_true rfl) ?_
  intro p e s m args below meth c C
  refine m_sub (L' := [(0, .ref a), (1, .int (nI j))]) [0, 1] rfl ?_
  have iL : ∀ w ∈ wsJx4a65c0, w ∈ wsJx4a65c_elementData_915e3 := by decide +kernel
  refine m_aload_n C dJx4a65c_elementData_915e3_0 rfl 0 rfl ?_
  refine m_get C h_a rfl iL 1 (by decide) (by decide +kernel) (fun x h => h) (v := .ref b) rfl dJx4a65c_elementData_915e3_1 ?_
  refine m_iload_n C dJx4a65c_elementData_915e3_4 rfl 1 rfl ?_
  refine m_aald C h_b 3 rfl (vp_in_nI (by omega) (by omega)) dJx4a65c_elementData_915e3_5 ?_
  rw [nI_clamp (by omega)]
  exact m_aret C (Or.inl ⟨_, rfl⟩) (v := f j) (Nat.le_of_ble_eq_true rfl) (Nat.le_of_ble_eq_true rfl) dJx4a65c_elementData_915e3_6 (⟨rfl, rfl⟩)
set_option maxHeartbeats 4000000 in
set_option maxRecDepth 100000 in
theorem c_Jx4a65c_get_915e3 (D : mD) (A : Nat → Prop) (l : Launch) {a b n : Nat} {mc : Int32} {M : Mm} (h_a : M a = some (jLs mc b n)) {cap : Nat} {f : Nat → Option Nat} (h_b : M b = some (jQ D cap f)) {j : Nat} (hj : j < n) (hcap : n ≤ cap ∧ cap < 2 ^ 31) : mMq D A l yJx4a65c_get_915e3 wsJx4a65c_get_915e3 ({ frames := 2, cells := 0, slots := 0, locals := 120 } : Room) [.ref a, .int (nI j)] M (fun r M' => M' = M ∧ r = f j) 0 0 := by
  have hN : n < 2 ^ 31 := by omega
  refine m_start (cc := cJx4a65c_get_915e3) (maxL := 2) (ret := (some (.object "java/lang/Object"))) (by decide) rfl (Nat.le_of_ble_eq_true rfl) ?_
  intro p e s m args below meth c C
  refine m_sub (L' := [(0, .ref a), (1, .int (nI j))]) [0, 1] rfl ?_
  have iL : ∀ w ∈ wsJx4a65c0, w ∈ wsJx4a65c_get_915e3 := by decide +kernel
  refine m_iload_n C dJx4a65c_get_915e3_0 rfl 1 rfl ?_
  refine m_aload_n C dJx4a65c_get_915e3_1 rfl 0 rfl ?_
  refine m_get C h_a rfl iL 2 (by decide) (by decide +kernel) (fun x h => h) (v := .int (nI n)) rfl dJx4a65c_get_915e3_2 ?_
  refine m_callSFi (As := [.int (nI j), .int (nI n)]) (st := []) (v := nI j) C (c_J15_checkIndex_7cf53 D A l hj hN) (va_cwS 2 C.1.2.2.2.2 gJx4a65c_get_915e3_J15_checkIndex_7cf53 rfl rfl rfl (by decide +kernel) ⟨Nat.le_of_ble_eq_true rfl, Nat.le_of_ble_eq_true rfl⟩) rfl rfl (Nat.le_of_ble_eq_true rfl) dJx4a65c_get_915e3_5 ⟨Nat.le_of_ble_eq_true rfl, Nat.le_of_ble_eq_true rfl⟩ ?_
  refine m_pop C dJx4a65c_get_915e3_8 rfl ?_
  refine m_aload_n C dJx4a65c_get_915e3_9 rfl 0 rfl ?_
  refine m_iload_n C dJx4a65c_get_915e3_10 rfl 1 rfl ?_
  refine m_callVFq (As := [.int (nI j)]) (st := []) C h_a rfl (c_Jx4a65c_elementData_915e3 D A l h_a h_b hj hcap) (cwV 1 C.1.2.2.2.2 gJx4a65c_get_915e3_Jx4a65c_elementData_915e3 rfl rfl rfl (by decide +kernel) ⟨Nat.le_of_ble_eq_true rfl, Nat.le_of_ble_eq_true rfl⟩) rfl rfl (Nat.le_of_ble_eq_true rfl) dJx4a65c_get_915e3_11 ⟨Nat.le_of_ble_eq_true rfl, Nat.le_of_ble_eq_true rfl⟩ ?_
  exact m_aret C (Or.inl ⟨_, rfl⟩) (v := f j) (Nat.le_of_ble_eq_true rfl) (Nat.le_of_ble_eq_true rfl) dJx4a65c_get_915e3_14 (⟨rfl, rfl⟩)

