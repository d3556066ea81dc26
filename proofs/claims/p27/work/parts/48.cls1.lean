/-! ===== the class: its world. Z: addresses (0 itself, 1 nodes, 2 canvas, 3 row, 100+n a node, 200+i a list: 40 the order); P: the nodes that are there; fs: their fields; ls: the lists, as numbers of nodes ===== -/
abbrev jI (D : mD) (n : Nat) (f : Nat → Int32) : va_E := .inl (D.2.1 0, n, .inl f)
abbrev jNs (D : mD) (n : Nat) (f : Nat → Option Nat) : va_E := .inl (D.2.1 2, n, .inr (.inr (.inr (.inr f))))
def cQ (P : Nat → Prop) (i : Nat) : Prop := i = 40 ∨ P i
def cLi (D : mD) (Z : Nat → Nat) (i b cap : Nat) (f : Nat → Option Nat) (mc : Int32) (l : List Nat) (M : Mm) : Prop :=
  M (Z (200 + i)) = some (jLs mc b l.length) ∧ jB D b cap f M ∧ l.length ≤ cap ∧ ∀ k, k < l.length → f k = some (Z (100 + l.getD k 0))
def cW (D : mD) (Z : Nat → Nat) (P : Nat → Prop) (fs : Nat → List Value) (ls : Nat → List Nat) (na : Nat → Option Nat) (cv rw : Nat → Int32) (mf : List Value) (F M : Mm) : Prop :=
  ∃ (bf cp : Nat → Nat) (el : Nat → Nat → Option Nat) (mc : Nat → Int32),
  (M (Z 0) = some (.inr (9, mf)) ∧ M (Z 1) = some (jNs D 40 na) ∧ M (Z 2) = some (jI D 3072 cv) ∧ M (Z 3) = some (jI D 64 rw)) ∧
  (∀ n, P n → M (Z (100 + n)) = some (.inr (6, fs n))) ∧ (∀ i, cQ P i → cLi D Z i (bf i) (cp i) (el i) (mc i) (ls i) M ∧ ∀ n ∈ ls i, P n) ∧
  ((∀ n m, P n → P m → Z (100 + n) = Z (100 + m) → n = m) ∧ (∀ i j, cQ P i → cQ P j → Z (200 + i) = Z (200 + j) → i = j) ∧ (∀ i j, cQ P i → cQ P j → 0 < cp i → 0 < cp j → bf i = bf j → i = j) ∧ ∀ i, cQ P i → 0 < cp i → bf i ≠ Z 1) ∧
  ∀ (a : Nat) (x : va_E), F a = some x → M a = some x ∧ (a ≠ Z 0 ∧ a ≠ Z 1 ∧ a ≠ Z 2 ∧ a ≠ Z 3) ∧ (∀ n, P n → a ≠ Z (100 + n)) ∧ ∀ i, cQ P i → a ≠ Z (200 + i) ∧ (0 < cp i → a ≠ bf i)
/-- what kind of thing a memory cell is -/
def eK : va_E → Nat
  | .inl (_, _, .inl _) => 0
  | .inl (_, _, .inr (.inl _)) => 1
  | .inl (_, _, .inr (.inr _)) => 2
  | .inr (c, _) => 10 + c
section CW
variable {D : mD} {Z : Nat → Nat} {P : Nat → Prop} {fs : Nat → List Value} {ls : Nat → List Nat} {na : Nat → Option Nat} {cv rw : Nat → Int32} {mf : List Value} {F M : Mm}
theorem cW.me (h : cW D Z P fs ls na cv rw mf F M) : M (Z 0) = some (.inr (9, mf)) := by
  obtain ⟨bf, cp, el, mc, ⟨h1, -, -, -⟩, -⟩ := h
  exact h1
theorem cW.gna (h : cW D Z P fs ls na cv rw mf F M) : M (Z 1) = some (jNs D 40 na) := by
  obtain ⟨bf, cp, el, mc, ⟨-, h1, -, -⟩, -⟩ := h
  exact h1
theorem cW.gcv (h : cW D Z P fs ls na cv rw mf F M) : M (Z 2) = some (jI D 3072 cv) := by
  obtain ⟨bf, cp, el, mc, ⟨-, -, h1, -⟩, -⟩ := h
  exact h1
theorem cW.grw (h : cW D Z P fs ls na cv rw mf F M) : M (Z 3) = some (jI D 64 rw) := by
  obtain ⟨bf, cp, el, mc, ⟨-, -, -, h1⟩, -⟩ := h
  exact h1
theorem cW.nd (h : cW D Z P fs ls na cv rw mf F M) {n : Nat} (hn : P n) : M (Z (100 + n)) = some (.inr (6, fs n)) := by
  obtain ⟨bf, cp, el, mc, -, h1, -⟩ := h
  exact h1 n hn
theorem cW.inj (h : cW D Z P fs ls na cv rw mf F M) {n m : Nat} (hn : P n) (hm : P m) (e : Z (100 + n) = Z (100 + m)) : n = m := by
  obtain ⟨bf, cp, el, mc, -, -, -, ⟨h1, -⟩, -⟩ := h
  exact h1 n m hn hm e
theorem cW.fr (h : cW D Z P fs ls na cv rw mf F M) {a : Nat} {x : va_E} (ha : F a = some x) : M a = some x := by
  obtain ⟨bf, cp, el, mc, -, -, -, -, h1⟩ := h
  exact (h1 a x ha).1
theorem cLi.keep {i b cap : Nat} {f : Nat → Option Nat} {mc : Int32} {l : List Nat} {M' : Mm} (h : cLi D Z i b cap f mc l M) (h1 : M' (Z (200 + i)) = M (Z (200 + i))) (h2 : 0 < cap → M' b = M b) : cLi D Z i b cap f mc l M' := by
  obtain ⟨k1, k2, k3, k4⟩ := h
  refine ⟨h1.trans k1, ?_, k3, k4⟩
  rcases k2 with z | ⟨z, z2, z3⟩
  · exact Or.inl z
  · exact Or.inr ⟨(h2 z2).trans z, z2, z3⟩
theorem cW.mono (h : cW D Z P fs ls na cv rw mf F M) {M' : Mm} (hm : ∀ (a : Nat) (x : va_E), M a = some x → M' a = some x) : cW D Z P fs ls na cv rw mf F M' := by
  obtain ⟨bf, cp, el, mc, ⟨k1, k2, k3, k4⟩, k5, k6, k7, k8⟩ := h
  refine ⟨bf, cp, el, mc, ⟨hm _ _ k1, hm _ _ k2, hm _ _ k3, hm _ _ k4⟩, fun n hn => hm _ _ (k5 n hn), fun i hi => ⟨?_, (k6 i hi).2⟩, k7, fun b x hb => ⟨hm _ _ (k8 b x hb).1, (k8 b x hb).2⟩⟩
  obtain ⟨z1, z2, z3, z4⟩ := (k6 i hi).1
  refine ⟨hm _ _ z1, ?_, z3, z4⟩
  rcases z2 with z | ⟨z, y2, y3⟩
  · exact Or.inl z
  · exact Or.inr ⟨hm _ _ z, y2, y3⟩
/-- a node's fields change -/
theorem cW.node (h : cW D Z P fs ls na cv rw mf F M) {n : Nat} (hn : P n) (l : List Value) : cW D Z P (upA fs n l) ls na cv rw mf F (m_up M (Z (100 + n)) (.inr (6, l))) := by
  obtain ⟨bf, cp, el, mc, ⟨k1, k2, k3, k4⟩, k5, k6, ⟨k7, k9⟩, k8⟩ := h
  have ha := k5 n hn
  have hne : ∀ {b : Nat} {x : va_E}, M b = some x → (.inr (6, fs n) = x → False) → m_up M (Z (100 + n)) (.inr (6, l)) b = M b := fun {b x} hb hx => m_up_n (fun z => hx (by rw [z, ha] at hb; exact Option.some.inj hb))
  refine ⟨bf, cp, el, mc, ⟨(hne k1 (fun z => by cases z)).trans k1, (hne k2 (fun z => by cases z)).trans k2, (hne k3 (fun z => by cases z)).trans k3, (hne k4 (fun z => by cases z)).trans k4⟩, fun m hm => ?_, fun i hi => ⟨(k6 i hi).1.keep (hne (k6 i hi).1.1 (fun z => by cases z)) (fun hc => hne ((k6 i hi).1.2.1.own hc) (fun z => by cases z)), (k6 i hi).2⟩, ⟨k7, k9⟩, fun b x hb => ?_⟩
  · by_cases z : m = n
    · rw [z, m_up_s, upA_s]
    · rw [m_up_n (fun y => z (k7 m n hm hn y)), upA_n z]
      exact k5 m hm
  · obtain ⟨z1, z2, z3, z4⟩ := k8 b x hb
    refine ⟨?_, z2, z3, z4⟩
    rw [m_up_n (z3 n hn)]
    exact z1
theorem cW.sme (h : cW D Z P fs ls na cv rw mf F M) (mf' : List Value) : cW D Z P fs ls na cv rw mf' F (m_up M (Z 0) (.inr (9, mf'))) := by
  obtain ⟨bf, cp, el, mc, ⟨k1, k2, k3, k4⟩, k5, k6, k7, k8⟩ := h
  have hne : ∀ {b : Nat} {x : va_E}, M b = some x → (.inr (9, mf) = x → False) → m_up M (Z 0) (.inr (9, mf')) b = M b := fun {b x} hb hx => m_up_n (fun z => hx (by rw [z, k1] at hb; exact Option.some.inj hb))
  refine ⟨bf, cp, el, mc, ⟨m_up_s, (hne k2 (fun z => by cases z)).trans k2, (hne k3 (fun z => by cases z)).trans k3, (hne k4 (fun z => by cases z)).trans k4⟩, fun m hm => (hne (k5 m hm) (fun z => by cases z)).trans (k5 m hm), fun i hi => ⟨(k6 i hi).1.keep (hne (k6 i hi).1.1 (fun z => by cases z)) (fun hc => hne ((k6 i hi).1.2.1.own hc) (fun z => by cases z)), (k6 i hi).2⟩, k7, fun b x hb => ?_⟩
  obtain ⟨z1, z2, z3, z4⟩ := k8 b x hb
  refine ⟨?_, z2, z3, z4⟩
  rw [m_up_n z2.1]
  exact z1
theorem jI_ne {D : mD} {n : Nat} {f g : Nat → Int32} {m : Nat} (h : n ≠ m) : (jI D n f = jI D m g) → False := fun z => h (congrArg (fun e : va_E => match e with | .inl a => a.2.1 | .inr _ => 0) z)
theorem cW.scv (h : cW D Z P fs ls na cv rw mf F M) (cv' : Nat → Int32) : cW D Z P fs ls na cv' rw mf F (m_up M (Z 2) (jI D 3072 cv')) := by
  obtain ⟨bf, cp, el, mc, ⟨k1, k2, k3, k4⟩, k5, k6, k7, k8⟩ := h
  have hne : ∀ {b : Nat} {x : va_E}, M b = some x → (jI D 3072 cv = x → False) → m_up M (Z 2) (jI D 3072 cv') b = M b := fun {b x} hb hx => m_up_n (fun z => hx (by rw [z, k3] at hb; exact Option.some.inj hb))
  refine ⟨bf, cp, el, mc, ⟨(hne k1 (fun z => by cases z)).trans k1, (hne k2 (fun z => nomatch (show (0 : Nat) = 2 from congrArg eK z))).trans k2, m_up_s, (hne k4 (jI_ne (by decide))).trans k4⟩, fun m hm => (hne (k5 m hm) (fun z => by cases z)).trans (k5 m hm), fun i hi => ⟨(k6 i hi).1.keep (hne (k6 i hi).1.1 (fun z => by cases z)) (fun hc => hne ((k6 i hi).1.2.1.own hc) (fun z => nomatch (show (0 : Nat) = 2 from congrArg eK z))), (k6 i hi).2⟩, k7, fun b x hb => ?_⟩
  obtain ⟨z1, z2, z3, z4⟩ := k8 b x hb
  refine ⟨?_, z2, z3, z4⟩
  rw [m_up_n z2.2.2.1]
  exact z1
theorem cW.srw (h : cW D Z P fs ls na cv rw mf F M) (rw' : Nat → Int32) : cW D Z P fs ls na cv rw' mf F (m_up M (Z 3) (jI D 64 rw')) := by
  obtain ⟨bf, cp, el, mc, ⟨k1, k2, k3, k4⟩, k5, k6, k7, k8⟩ := h
  have hne : ∀ {b : Nat} {x : va_E}, M b = some x → (jI D 64 rw = x → False) → m_up M (Z 3) (jI D 64 rw') b = M b := fun {b x} hb hx => m_up_n (fun z => hx (by rw [z, k4] at hb; exact Option.some.inj hb))
  refine ⟨bf, cp, el, mc, ⟨(hne k1 (fun z => by cases z)).trans k1, (hne k2 (fun z => nomatch (show (0 : Nat) = 2 from congrArg eK z))).trans k2, (hne k3 (jI_ne (by decide))).trans k3, m_up_s⟩, fun m hm => (hne (k5 m hm) (fun z => by cases z)).trans (k5 m hm), fun i hi => ⟨(k6 i hi).1.keep (hne (k6 i hi).1.1 (fun z => by cases z)) (fun hc => hne ((k6 i hi).1.2.1.own hc) (fun z => nomatch (show (0 : Nat) = 2 from congrArg eK z))), (k6 i hi).2⟩, k7, fun b x hb => ?_⟩
  obtain ⟨z1, z2, z3, z4⟩ := k8 b x hb
  refine ⟨?_, z2, z3, z4⟩
  rw [m_up_n z2.2.2.2]
  exact z1
theorem cW.sna (h : cW D Z P fs ls na cv rw mf F M) (na' : Nat → Option Nat) : cW D Z P fs ls na' cv rw mf F (m_up M (Z 1) (jNs D 40 na')) := by
  obtain ⟨bf, cp, el, mc, ⟨k1, k2, k3, k4⟩, k5, k6, k7, k8⟩ := h
  have hne : ∀ {b : Nat} {x : va_E}, M b = some x → (jNs D 40 na = x → False) → m_up M (Z 1) (jNs D 40 na') b = M b := fun {b x} hb hx => m_up_n (fun z => hx (by rw [z, k2] at hb; exact Option.some.inj hb))
  refine ⟨bf, cp, el, mc, ⟨(hne k1 (fun z => by cases z)).trans k1, m_up_s, (hne k3 (fun z => nomatch (show (2 : Nat) = 0 from congrArg eK z))).trans k3, (hne k4 (fun z => nomatch (show (2 : Nat) = 0 from congrArg eK z))).trans k4⟩, fun m hm => (hne (k5 m hm) (fun z => by cases z)).trans (k5 m hm), fun i hi => ⟨(k6 i hi).1.keep (hne (k6 i hi).1.1 (fun z => by cases z)) (fun hc => m_up_n (k7.2.2.2 i hi hc)), (k6 i hi).2⟩, k7, fun b x hb => ?_⟩
  obtain ⟨z1, z2, z3, z4⟩ := k8 b x hb
  refine ⟨?_, z2, z3, z4⟩
  rw [m_up_n z2.2.1]
  exact z1
end CW
