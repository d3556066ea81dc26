/-! ===== the class and the law's record in one memory ===== -/
noncomputable def fH (F M M' : Mm) : Mm := fun a => @ite _ (F a ≠ none ∨ M a = none) (Classical.propDecidable _) (M' a) none
theorem fH_y {F M M' : Mm} {a : Nat} (h : F a ≠ none ∨ M a = none) : fH F M M' a = M' a := by
  unfold fH
  exact if_pos h
theorem fH_i {F M M' : Mm} {a : Nat} {x : va_E} (h : fH F M M' a = some x) : M' a = some x ∧ (F a ≠ none ∨ M a = none) := by
  unfold fH at h
  by_cases z : F a ≠ none ∨ M a = none
  · rw [if_pos z] at h
    exact ⟨h, z⟩
  · rw [if_neg z] at h
    cases h
theorem sFx.of {Z : Nat → Nat} {ar : rA} {n : Nat} {F F' : Mm} (h : sFx Z ar n F) (hF : ∀ (a c : Nat) (fs : List Value), c < 10 → F a = some (.inr (c, fs)) → F' a = some (.inr (c, fs))) : sFx Z ar n F' := by
  obtain ⟨h1, h2, h3, h4⟩ := h
  refine ⟨fun z => ⟨hF _ _ _ (by decide) (h1 z).1, hF _ _ _ (by decide) (h1 z).2⟩, fun z => ?_, fun z => ?_, fun z => hF _ _ _ (by decide) (h4 z)⟩
  · obtain ⟨a, lf, tp, rt, bt, b, q⟩ := h2 z
    exact ⟨hF _ _ _ (by decide) a, lf, tp, rt, bt, hF _ _ _ (by decide) b, q⟩
  · obtain ⟨a, b, d, e, lf, tp, rt, bt, f, q⟩ := h3 z
    exact ⟨hF _ _ _ (by decide) a, hF _ _ _ (by decide) b, hF _ _ _ (by decide) d, hF _ _ _ (by decide) e, lf, tp, rt, bt, hF _ _ _ (by decide) f, q⟩
section CH
variable {D : mD} {Z : Nat → Nat} {F M M' : Mm} {cm : Nat} {g : Int32} {ar : rA} {o qn qc qp : Nat} {nr nr' cr cr' : Nat → Option Nat} {c c' : Nat} {g1 g' : Int32} {B B' : Nat → Nat → Int32} {K K' : Nat → List Nat}
theorem hW.foot (hw : hW D o qn qc qp nr cr c g1 B K F) {a : Nat} (h : a = o ∨ a = qn ∨ a = qc ∨ ∃ n, n < 40 ∧ nr n = some a) : ∃ x, F a = some x ∧ ∀ c9 fs, c9 < 10 → x ≠ .inr (c9, fs) := by
  rcases h with h | h | h | ⟨n, hn, h⟩
  · rw [h]
    refine ⟨_, hw.1, fun c9 fs h9 e => ?_⟩
    injection e with e1
    injection e1 with e2 e3
    omega
  · rw [h]
    exact ⟨_, hw.2.1, fun c9 fs h9 e => by cases e⟩
  · rw [h]
    exact ⟨_, hw.2.2.1, fun c9 fs h9 e => by cases e⟩
  · exact ⟨_, hw.nrow hn h, fun c9 fs h9 e => by cases e⟩
theorem cI.hand (h : cI D Z F cm g ar M) (hw : hW D o qn qc qp nr cr c g1 B K F) (hk : hK o qn qc nr nr' cr cr' M M') (hw' : hW D o qn qc qp nr' cr' c' g' B' K' M') : ∃ F', cI D Z F' cm g ar M' ∧ hW D o qn qc qp nr' cr' c' g' B' K' F' := by
  refine ⟨fH F M M', ?_, ?_⟩
  · obtain ⟨fi, nl, rw, h1, ⟨bf, cp, el, mc, ⟨k1, k2, k3, k4⟩, k5, k6, k7, k8⟩, h3⟩ := h
    have keep : ∀ z y, M z = some y → (∀ x, F z = some x → False) → M' z = some y := fun z y hz hn => by
      rcases (hk.1 z y hz).2 with q | q
      · exact q
      · obtain ⟨x, hx, -⟩ := hw.foot q
        exact (hn x hx).elim
    have some_ne : ∀ {a z : Nat} {y : va_E}, M z = some y → (F a ≠ none ∨ M a = none) → (∀ x, F a = some x → a ≠ z) → a ≠ z := fun {a z y} hz hc hf e => by
      rcases hc with q | q
      · cases hF : F a with
        | none => exact q hF
        | some x => exact hf x hF e
      · rw [e, hz] at q
        cases q
    refine ⟨fi, nl, rw, h1, ⟨bf, cp, el, mc, ⟨keep _ _ k1 (fun x hx => (k8 _ x hx).2.1.1 rfl), keep _ _ k2 (fun x hx => (k8 _ x hx).2.1.2.1 rfl), keep _ _ k3 (fun x hx => (k8 _ x hx).2.1.2.2.1 rfl), keep _ _ k4 (fun x hx => (k8 _ x hx).2.1.2.2.2 rfl)⟩, fun n hn => keep _ _ (k5 n hn) (fun x hx => (k8 _ x hx).2.2.1 n hn rfl), fun i hi => ⟨?_, (k6 i hi).2⟩, k7, fun a x hx => ?_⟩, fun n hn => (h3 n hn).of fun a c9 fs hc ha => ?_⟩
    · obtain ⟨z1, z2, z3, z4⟩ := (k6 i hi).1
      refine ⟨keep _ _ z1 (fun x hx => ((k8 _ x hx).2.2.2 i hi).1 rfl), ?_, z3, z4⟩
      rcases z2 with z | ⟨z, y2, y3⟩
      · exact Or.inl z
      · exact Or.inr ⟨keep _ _ z (fun x hx => ((k8 _ x hx).2.2.2 i hi).2 y2 rfl), y2, y3⟩
    · obtain ⟨hM, hc⟩ := fH_i hx
      exact ⟨hM, ⟨some_ne k1 hc (fun x hx => (k8 _ x hx).2.1.1), some_ne k2 hc (fun x hx => (k8 _ x hx).2.1.2.1), some_ne k3 hc (fun x hx => (k8 _ x hx).2.1.2.2.1), some_ne k4 hc (fun x hx => (k8 _ x hx).2.1.2.2.2)⟩, fun n hn => some_ne (k5 n hn) hc (fun x hx => (k8 _ x hx).2.2.1 n hn), fun i hi => ⟨some_ne (k6 i hi).1.1 hc (fun x hx => ((k8 _ x hx).2.2.2 i hi).1), fun hcp => some_ne ((k6 i hi).1.2.1.own hcp) hc (fun x hx => ((k8 _ x hx).2.2.2 i hi).2 hcp)⟩⟩
    · have hne : F a ≠ none := fun z => by rw [z] at ha; cases ha
      rw [fH_y (Or.inl hne)]
      rcases (hk.1 a _ (k8 a _ ha).1).2 with q | q
      · exact q
      · obtain ⟨x, hx, hx2⟩ := hw.foot q
        rw [ha] at hx
        cases hx
        exact absurd rfl (hx2 c9 fs hc)
  · obtain ⟨w1, w2, w3, w4, w5, w6⟩ := hw'
    have yes : ∀ {a : Nat} {x : va_E}, F a = some x → fH F M M' a = M' a := fun {a x} hx => fH_y (Or.inl (fun z => by rw [z] at hx; cases hx))
    refine ⟨(yes hw.1).trans w1, (yes hw.2.1).trans w2, (yes hw.2.2.1).trans w3, fun n a hn ha => ?_, fun n hn => ?_, w6⟩
    · rcases hk.2.1 n a ha with q | q
      · exact (yes (hw.nrow hn q)).trans (w4 n a hn ha)
      · exact (fH_y (Or.inr q)).trans (w4 n a hn ha)
    · obtain ⟨a, f, e1, e2, e3⟩ := w5 n hn
      refine ⟨a, f, e1, ?_, e3⟩
      rcases hk.2.2 n a e1 with q | q
      · obtain ⟨b, f2, d1, d2, -⟩ := hw.crow hn
        rw [q] at d1
        cases d1
        exact (yes d2).trans e2
      · exact (fH_y (Or.inr q)).trans e2
end CH
/-- the record says what the class's arrays say -/
def hTT (ar : rA) (cm : Nat) (nr : Nat → Option Nat) (B : Nat → Nat → Int32) (K : Nat → List Nat) : Prop :=
  (∀ n, n < 40 → ((∃ a, nr n = some a) ↔ cP ar cm n)) ∧
  (∀ n, cP ar cm n → B n 0 = ar 3 n ∧ B n 1 = ar 4 n ∧ B n 2 = ar 8 n ∧ B n 4 = ar 10 n ∧ B n 5 = ar 11 n ∧ B n 7 = ar 13 n ∧ B n 10 = ar 14 (4 * n + 2)) ∧
  (∀ n, cP ar cm n → K n = kids ar n) ∧ ∀ n, cm ≤ n → K n = []
/-- what holds of the arrays whatever was done -/
def AB (ar : rA) (cm : Nat) : Prop := lP cm ar ∧ PB ar
def hSS (D : mD) (Z : Nat → Nat) (o cm : Nat) (g : Int32) (ar : rA) (M : Mm) : Prop := ∃ (F : Mm) (qn qc qp : Nat) (nr cr : Nat → Option Nat) (B : Nat → Nat → Int32) (K : Nat → List Nat), cI D Z F cm g ar M ∧ hW D o qn qc qp nr cr cm g B K F ∧ hTT ar cm nr B K
/-- all that holds between two acts -/
def hAA (D : mD) (z0 o : Nat) (M : Mm) : Prop := ∃ (Z : Nat → Nat) (cm : Nat) (g : Int32) (ar : rA), Z 0 = z0 ∧ hSS D Z o cm g ar M ∧ AB ar cm ∧ ∃ b, b ≤ 255 ∧ g = nI b
