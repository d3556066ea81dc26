/-! ===== the law's own record of a drawing: its world. o: the object, qn, qc: its arrays of rows; nr, cr: where the rows are; c: how many came; N: what a node's row holds; K: whose children ===== -/
def hW (D : mD) (o qn qc qp : Nat) (nr cr : Nat → Option Nat) (c : Nat) (g : Int32) (N : Nat → Nat → Int32) (K : Nat → List Nat) (M : Mm) : Prop :=
  M o = some (.inr (10, [.ref qn, .ref qc, .int (nI c), .int g, .ref qp])) ∧ M qn = some (jAA D 40 nr) ∧ M qc = some (jAA D 40 cr) ∧
  (∀ n a, n < 40 → nr n = some a → M a = some (jI D 18 (N n))) ∧
  (∀ n, n < 40 → ∃ a f, cr n = some a ∧ M a = some (jI D (K n).length f) ∧ ∀ k, k < (K n).length → f k = nI ((K n).getD k 0)) ∧
  qn ≠ qc ∧ (∀ n m a, n < 40 → m < 40 → nr n = some a → nr m = some a → n = m) ∧ ∀ n m a, n < 40 → m < 40 → nr n = some a → cr m = some a → False
/-- what a call of the record leaves as it was -/
def hK (o qn qc : Nat) (nr nr' cr cr' : Nat → Option Nat) (M M' : Mm) : Prop :=
  (∀ a x, M a = some x → (∃ y, M' a = some y) ∧ (M' a = some x ∨ a = o ∨ a = qn ∨ a = qc ∨ ∃ n, n < 40 ∧ nr n = some a)) ∧
  (∀ n a, nr' n = some a → nr n = some a ∨ M a = none) ∧ ∀ n a, cr' n = some a → cr n = some a ∨ M a = none
def mS (M M' : Mm) : Prop := ∀ (a : Nat) (x : va_E), M a = some x → M' a = some x
theorem mS.rf {M : Mm} : mS M M := fun _ _ h => h
theorem mS.new {M M1 : Mm} {q : Nat} {e : va_E} (h : mS M M1) (hq : M q = none) : mS M (m_up M1 q e) := fun a x ha => by
  rw [m_up_n (fun z => by rw [z, hq] at ha; cases ha)]
  exact h a x ha
theorem va_up_s {f : Nat → Option Nat} {k : Nat} {v : Option Nat} : va_up f k v k = v := if_pos rfl
theorem va_up_n {f : Nat → Option Nat} {k j : Nat} {v : Option Nat} (h : j ≠ k) : va_up f k v j = f j := if_neg h
theorem upd_s9 {f : Nat → Int32} {k : Nat} {v : Int32} : upd f k v k = v := if_pos rfl
theorem upd_n9 {f : Nat → Int32} {k j : Nat} {v : Int32} (h : j ≠ k) : upd f k v j = f j := if_neg h
section HW
variable {D : mD} {o qn qc qp : Nat} {nr nr' nr2 cr cr' cr2 : Nat → Option Nat} {c : Nat} {g : Int32} {N : Nat → Nat → Int32} {K : Nat → List Nat} {M M' M2 : Mm}
theorem hW.nrow (h : hW D o qn qc qp nr cr c g N K M) {n a : Nat} (hn : n < 40) (ha : nr n = some a) : M a = some (jI D 18 (N n)) := h.2.2.2.1 n a hn ha
theorem hW.crow (h : hW D o qn qc qp nr cr c g N K M) {n : Nat} (hn : n < 40) : ∃ a f, cr n = some a ∧ M a = some (jI D (K n).length f) ∧ ∀ k, k < (K n).length → f k = nI ((K n).getD k 0) := h.2.2.2.2.1 n hn
theorem hW.mono (h : hW D o qn qc qp nr cr c g N K M) (hm : mS M M') : hW D o qn qc qp nr cr c g N K M' := by
  obtain ⟨h1, h2, h3, h4, h5, h6⟩ := h
  refine ⟨hm _ _ h1, hm _ _ h2, hm _ _ h3, fun n a hn ha => hm _ _ (h4 n a hn ha), fun n hn => ?_, h6⟩
  obtain ⟨a, f, e1, e2, e3⟩ := h5 n hn
  exact ⟨a, f, e1, hm _ _ e2, e3⟩
theorem hW.sets (h : hW D o qn qc qp nr cr c g N K M) (c' : Nat) (g' : Int32) : hW D o qn qc qp nr cr c' g' N K (m_up M o (.inr (10, [.ref qn, .ref qc, .int (nI c'), .int g', .ref qp]))) := by
  obtain ⟨h1, h2, h3, h4, h5, h6⟩ := h
  have ne : ∀ {a : Nat} {x : vp_A × ClassId}, M a = some (.inl (x.2, x.1)) → m_up M o (.inr (10, [.ref qn, .ref qc, .int (nI c'), .int g', .ref qp])) a = M a := fun {a x} ha => m_up_n (fun z => by rw [z, h1] at ha; cases ha)
  refine ⟨m_up_s, (ne (x := (_, _)) h2).trans h2, (ne (x := (_, _)) h3).trans h3, fun n a hn ha => (ne (x := (_, _)) (h4 n a hn ha)).trans (h4 n a hn ha), fun n hn => ?_, h6⟩
  obtain ⟨a, f, e1, e2, e3⟩ := h5 n hn
  exact ⟨a, f, e1, (ne (x := (_, _)) e2).trans e2, e3⟩
theorem jAA_jI {D : mD} {n m : Nat} {f : Nat → Option Nat} {r : Nat → Int32} (h : some (jAA D n f) = some (jI D m r)) : False := by
  injection h with h1
  injection h1 with h2
  injection h2 with h3 h4
  injection h4 with h5 h6
  cases h6
/-- a row of children put in place -/
theorem hW.setc (h : hW D o qn qc qp nr cr c g N K M) {p q : Nat} {l : List Nat} {f : Nat → Int32} (hq : M q = some (jI D l.length f)) (hf : ∀ k, k < l.length → f k = nI (l.getD k 0)) (hne : ∀ n, n < 40 → nr n ≠ some q) : hW D o qn qc qp nr (va_up cr p (some q)) c g N (upA K p l) (m_up M qc (jAA D 40 (va_up cr p (some q)))) := by
  obtain ⟨h1, h2, h3, h4, h5, h6, h7, h8⟩ := h
  have ne : ∀ {a n : Nat} {r : Nat → Int32}, M a = some (jI D n r) → m_up M qc (jAA D 40 (va_up cr p (some q))) a = M a := fun {a n r} ha => m_up_n (fun z => jAA_jI (h3.symm.trans ((congrArg M z).symm.trans ha)))
  refine ⟨(m_up_n (fun z => by rw [z, h3] at h1; cases h1)).trans h1, (m_up_n h6).trans h2, m_up_s, fun n a hn ha => (ne (h4 n a hn ha)).trans (h4 n a hn ha), fun n hn => ?_, h6, h7, fun n m a hn hm ha hc => ?_⟩
  · by_cases z : n = p
    · subst z
      rw [va_up_s, upA_s]
      exact ⟨q, f, rfl, (ne hq).trans hq, hf⟩
    · obtain ⟨a, f, e1, e2, e3⟩ := h5 n hn
      rw [va_up_n z, upA_n z]
      exact ⟨a, f, e1, (ne e2).trans e2, e3⟩
  · by_cases z : m = p
    · subst z
      rw [va_up_s] at hc
      cases hc
      exact hne n hn ha
    · rw [va_up_n z] at hc
      exact h8 n m a hn hm ha hc
/-- a node's row changes -/
theorem hW.setn (h : hW D o qn qc qp nr cr c g N K M) {n a : Nat} (hn : n < 40) (ha : nr n = some a) (r : Nat → Int32) : hW D o qn qc qp nr cr c g (upA N n r) K (m_up M a (jI D 18 r)) := by
  obtain ⟨h1, h2, h3, h4, h5, h6, h7, h8⟩ := h
  have hM := h4 n a hn ha
  refine ⟨(m_up_n (fun z => by rw [z, hM] at h1; cases h1)).trans h1, (m_up_n (fun z => jAA_jI (h2.symm.trans ((congrArg M z).trans hM)))).trans h2, (m_up_n (fun z => jAA_jI (h3.symm.trans ((congrArg M z).trans hM)))).trans h3, fun m b hm hb => ?_, fun m hm => ?_, h6, h7, h8⟩
  · by_cases z : m = n
    · subst z
      rw [ha] at hb
      cases hb
      rw [upA_s]
      exact m_up_s
    · rw [upA_n z, m_up_n (fun y => z (h7 m n a hm hn (by rw [hb, y]) ha))]
      exact h4 m b hm hb
  · obtain ⟨b, f, e1, e2, e3⟩ := h5 m hm
    exact ⟨b, f, e1, (m_up_n (fun y => h8 n m a hn hm ha (by rw [e1, y]))).trans e2, e3⟩
/-- a node's row put in place -/
theorem hW.addn (h : hW D o qn qc qp nr cr c g N K M) {n q : Nat} {r : Nat → Int32} (hq : M q = some (jI D 18 r)) (hne : ∀ m, m < 40 → nr m ≠ some q ∧ cr m ≠ some q) : hW D o qn qc qp (va_up nr n (some q)) cr c g (upA N n r) K (m_up M qn (jAA D 40 (va_up nr n (some q)))) := by
  obtain ⟨h1, h2, h3, h4, h5, h6, h7, h8⟩ := h
  have ne : ∀ {a n9 : Nat} {r : Nat → Int32}, M a = some (jI D n9 r) → m_up M qn (jAA D 40 (va_up nr n (some q))) a = M a := fun {a n9 r} ha => m_up_n (fun z => jAA_jI (h2.symm.trans ((congrArg M z).symm.trans ha)))
  refine ⟨(m_up_n (fun z => by rw [z, h2] at h1; cases h1)).trans h1, m_up_s, (m_up_n (Ne.symm h6)).trans h3, fun m b hm hb => ?_, fun m hm => ?_, h6, fun m1 m2 b hm1 hm2 hb1 hb2 => ?_, fun m1 m2 b hm1 hm2 hb1 hb2 => ?_⟩
  · by_cases z : m = n
    · subst z
      rw [va_up_s] at hb
      cases hb
      rw [upA_s]
      exact (ne hq).trans hq
    · rw [va_up_n z] at hb
      rw [upA_n z]
      exact (ne (h4 m b hm hb)).trans (h4 m b hm hb)
  · obtain ⟨b, f, e1, e2, e3⟩ := h5 m hm
    exact ⟨b, f, e1, (ne e2).trans e2, e3⟩
  · by_cases z1 : m1 = n <;> by_cases z2 : m2 = n
    · rw [z1, z2]
    · rw [z1, va_up_s] at hb1
      rw [va_up_n z2, ← hb1] at hb2
      exact absurd hb2 (hne m2 hm2).1
    · rw [z2, va_up_s] at hb2
      rw [va_up_n z1, ← hb2] at hb1
      exact absurd hb1 (hne m1 hm1).1
    · rw [va_up_n z1] at hb1
      rw [va_up_n z2] at hb2
      exact h7 m1 m2 b hm1 hm2 hb1 hb2
  · by_cases z1 : m1 = n
    · rw [z1, va_up_s] at hb1
      rw [← hb1] at hb2
      exact (hne m2 hm2).2 hb2
    · rw [va_up_n z1] at hb1
      exact h8 m1 m2 b hm1 hm2 hb1 hb2
/-- a node's row let go -/
theorem hW.deln (h : hW D o qn qc qp nr cr c g N K M) (n : Nat) : hW D o qn qc qp (va_up nr n none) cr c g N K (m_up M qn (jAA D 40 (va_up nr n none))) := by
  obtain ⟨h1, h2, h3, h4, h5, h6, h7, h8⟩ := h
  have ne : ∀ {a n9 : Nat} {r : Nat → Int32}, M a = some (jI D n9 r) → m_up M qn (jAA D 40 (va_up nr n none)) a = M a := fun {a n9 r} ha => m_up_n (fun z => jAA_jI (h2.symm.trans ((congrArg M z).symm.trans ha)))
  have old : ∀ {m b : Nat}, va_up nr n none m = some b → nr m = some b := fun {m b} hb => by
    by_cases z : m = n
    · rw [z, va_up_s] at hb; cases hb
    · rw [va_up_n z] at hb; exact hb
  refine ⟨(m_up_n (fun z => by rw [z, h2] at h1; cases h1)).trans h1, m_up_s, (m_up_n (Ne.symm h6)).trans h3, fun m b hm hb => (ne (h4 m b hm (old hb))).trans (h4 m b hm (old hb)), fun m hm => ?_, h6, fun m1 m2 b hm1 hm2 hb1 hb2 => h7 m1 m2 b hm1 hm2 (old hb1) (old hb2), fun m1 m2 b hm1 hm2 hb1 hb2 => h8 m1 m2 b hm1 hm2 (old hb1) hb2⟩
  obtain ⟨b, f, e1, e2, e3⟩ := h5 m hm
  exact ⟨b, f, e1, (ne e2).trans e2, e3⟩
theorem hK.rf : hK o qn qc nr nr cr cr M M := ⟨fun a x h => ⟨⟨x, h⟩, Or.inl h⟩, fun _ _ h => Or.inl h, fun _ _ h => Or.inl h⟩
theorem hK.sub (h : mS M M') : hK o qn qc nr nr cr cr M M' := ⟨fun a x ha => ⟨⟨x, h a x ha⟩, Or.inl (h a x ha)⟩, fun _ _ h => Or.inl h, fun _ _ h => Or.inl h⟩
theorem hK.up (h : hK o qn qc nr nr' cr cr' M M') {a : Nat} {e : va_E} (ha : a = o ∨ a = qn ∨ a = qc ∨ ∃ n, n < 40 ∧ nr n = some a) : hK o qn qc nr nr' cr cr' M (m_up M' a e) := by
  refine ⟨fun b x hb => ?_, h.2⟩
  by_cases z : b = a
  · rw [z]
    exact ⟨⟨e, m_up_s⟩, Or.inr ha⟩
  · rw [m_up_n z]
    exact h.1 b x hb
theorem hK.crN (h : hK o qn qc nr nr' cr cr' M M') {p q : Nat} (hq : M q = none) : hK o qn qc nr nr' cr (va_up cr' p (some q)) M M' := by
  refine ⟨h.1, h.2.1, fun n a ha => ?_⟩
  by_cases z : n = p
  · rw [z, va_up_s] at ha
    cases ha
    exact Or.inr hq
  · rw [va_up_n z] at ha
    exact h.2.2 n a ha
theorem hK.nrN (h : hK o qn qc nr nr' cr cr' M M') {p q : Nat} (hq : M q = none) : hK o qn qc nr (va_up nr' p (some q)) cr cr' M M' := by
  refine ⟨h.1, fun n a ha => ?_, h.2.2⟩
  by_cases z : n = p
  · rw [z, va_up_s] at ha
    cases ha
    exact Or.inr hq
  · rw [va_up_n z] at ha
    exact h.2.1 n a ha
theorem hK.nrD (h : hK o qn qc nr nr' cr cr' M M') {p : Nat} : hK o qn qc nr (va_up nr' p none) cr cr' M M' := by
  refine ⟨h.1, fun n a ha => ?_, h.2.2⟩
  by_cases z : n = p
  · rw [z, va_up_s] at ha
    cases ha
  · rw [va_up_n z] at ha
    exact h.2.1 n a ha
theorem hK.tr (h : hK o qn qc nr nr' cr cr' M M') (h2 : hK o qn qc nr' nr2 cr' cr2 M' M2) : hK o qn qc nr nr2 cr cr2 M M2 := by
  have hn : ∀ a, M' a = none → M a = none := fun a ha => by
    cases z : M a with
    | none => rfl
    | some x =>
      obtain ⟨⟨y, hy⟩, -⟩ := h.1 a x z
      rw [ha] at hy; cases hy
  refine ⟨fun a x ha => ?_, fun n a ha => ?_, fun n a ha => ?_⟩
  · obtain ⟨⟨y, hy⟩, h3⟩ := h.1 a x ha
    obtain ⟨h4, h5⟩ := h2.1 a y hy
    refine ⟨h4, ?_⟩
    rcases h3 with h3 | h3
    · rw [h3] at hy
      cases hy
      rcases h5 with h5 | h5 | h5 | h5 | ⟨n, hn9, h5⟩
      · exact Or.inl h5
      · exact Or.inr (Or.inl h5)
      · exact Or.inr (Or.inr (Or.inl h5))
      · exact Or.inr (Or.inr (Or.inr (Or.inl h5)))
      · rcases h.2.1 n a h5 with z | z
        · exact Or.inr (Or.inr (Or.inr (Or.inr ⟨n, hn9, z⟩)))
        · rw [z] at ha; cases ha
    · exact Or.inr h3
  · rcases h2.2.1 n a ha with z | z
    · exact h.2.1 n a z
    · exact Or.inr (hn a z)
  · rcases h2.2.2 n a ha with z | z
    · exact h.2.2 n a z
    · exact Or.inr (hn a z)
end HW
