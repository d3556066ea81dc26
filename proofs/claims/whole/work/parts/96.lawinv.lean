/-! ===== two worlds in one memory: the class's, the reference's, and the array of one answer ===== -/
def rR (G : Nat → Nat) (o2 q3 : Nat) (a : Nat) : Bool := a == q3 || a == o2 || (List.range 18).any fun f => r_isA f && a == G f
theorem r_isA_lt {f : Nat} (h : r_isA f = true) : f < 18 := by
  unfold r_isA at h
  rw [Bool.and_eq_true] at h
  exact Nat.le_of_ble_eq_true h.2
theorem rR_iff {G : Nat → Nat} {o2 q3 a : Nat} : rR G o2 q3 a = true ↔ a = q3 ∨ a = o2 ∨ ∃ f, r_isA f = true ∧ a = G f := by
  unfold rR
  rw [Bool.or_eq_true, Bool.or_eq_true, List.any_eq_true, beq_iff_eq, beq_iff_eq]
  constructor
  · rintro ((h | h) | ⟨f, -, h⟩)
    · exact Or.inl h
    · exact Or.inr (Or.inl h)
    · rw [Bool.and_eq_true, beq_iff_eq] at h
      exact Or.inr (Or.inr ⟨f, h⟩)
  · rintro (h | h | ⟨f, h1, h2⟩)
    · exact Or.inl (Or.inl h)
    · exact Or.inl (Or.inr h)
    · exact Or.inr ⟨f, List.mem_range.mpr (r_isA_lt h1), by rw [Bool.and_eq_true, beq_iff_eq]; exact ⟨h1, h2⟩⟩
def mOn (R : Nat → Bool) (N F : Mm) : Mm := fun a => if R a = true then N a else F a
theorem cW.re {D : mD} {Z : Nat → Nat} {P : Nat → Prop} {fs : Nat → List Value} {ls : Nat → List Nat} {na : Nat → Option Nat} {cv rw : Nat → Int32} {mf : List Value} {F M : Mm} (h : cW D Z P fs ls na cv rw mf F M) {R : Nat → Bool} {M' : Mm} (hR : ∀ a, R a = true → ∃ y, F a = some y) (hM : ∀ (a : Nat) (x : va_E), ¬ R a = true → M a = some x → M' a = some x) : cW D Z P fs ls na cv rw mf (mOn R M' F) M' := by
  obtain ⟨bf, cp, el, mc, ⟨k1, k2, k3, k4⟩, k5, k6, k7, k8⟩ := h
  have key : ∀ a, R a = true → (a ≠ Z 0 ∧ a ≠ Z 1 ∧ a ≠ Z 2 ∧ a ≠ Z 3) ∧ (∀ n, P n → a ≠ Z (100 + n)) ∧ ∀ i, cQ P i → a ≠ Z (200 + i) ∧ (0 < cp i → a ≠ bf i) := fun a ha => by
    obtain ⟨y, hy⟩ := hR a ha
    exact (k8 a y hy).2
  refine ⟨bf, cp, el, mc, ⟨hM _ _ (fun z => (key _ z).1.1 rfl) k1, hM _ _ (fun z => (key _ z).1.2.1 rfl) k2, hM _ _ (fun z => (key _ z).1.2.2.1 rfl) k3, hM _ _ (fun z => (key _ z).1.2.2.2 rfl) k4⟩, fun n hn => hM _ _ (fun z => (key _ z).2.1 n hn rfl) (k5 n hn), fun i hi => ⟨?_, (k6 i hi).2⟩, k7, fun a x hx => ?_⟩
  · obtain ⟨z1, z2, z3, z4⟩ := (k6 i hi).1
    refine ⟨hM _ _ (fun z => ((key _ z).2.2 i hi).1 rfl) z1, ?_, z3, z4⟩
    rcases z2 with z | ⟨z, y2, y3⟩
    · exact Or.inl z
    · exact Or.inr ⟨hM _ _ (fun w => ((key _ w).2.2 i hi).2 y2 rfl) z, y2, y3⟩
  · unfold mOn at hx
    by_cases ha : R a = true
    · rw [if_pos ha] at hx
      exact ⟨hx, key a ha⟩
    · rw [if_neg ha] at hx
      exact ⟨hM _ _ ha (k8 a x hx).1, (k8 a x hx).2⟩
theorem sFx.of {Z : Nat → Nat} {ar : rA} {n : Nat} {F F' : Mm} (h : sFx Z ar n F) (hF : ∀ (a c : Nat) (fs : List Value), c < 10 → F a = some (.inr (c, fs)) → F' a = some (.inr (c, fs))) : sFx Z ar n F' := by
  obtain ⟨h1, h2, h3, h4⟩ := h
  refine ⟨fun z => ⟨hF _ _ _ (by decide) (h1 z).1, hF _ _ _ (by decide) (h1 z).2⟩, fun z => ?_, fun z => ?_, fun z => hF _ _ _ (by decide) (h4 z)⟩
  · obtain ⟨a, lf, tp, rt, bt, b, q⟩ := h2 z
    exact ⟨hF _ _ _ (by decide) a, lf, tp, rt, bt, hF _ _ _ (by decide) b, q⟩
  · obtain ⟨a, b, d, e, lf, tp, rt, bt, f, q⟩ := h3 z
    exact ⟨hF _ _ _ (by decide) a, hF _ _ _ (by decide) b, hF _ _ _ (by decide) d, hF _ _ _ (by decide) e, lf, tp, rt, bt, hF _ _ _ (by decide) f, q⟩
theorem cI.re {D : mD} {Z : Nat → Nat} {F : Mm} {cm : Nat} {g : Int32} {ar : rA} {M : Mm} (h : cI D Z F cm g ar M) {R : Nat → Bool} {M' : Mm} (hR : ∀ a, R a = true → ∃ y, F a = some y ∧ (eK y < 10 ∨ eK y = 20)) (hM : ∀ (a : Nat) (x : va_E), ¬ R a = true → M a = some x → M' a = some x) : cI D Z (mOn R M' F) cm g ar M' := by
  obtain ⟨fi, nl, rw, h1, h2, h3⟩ := h
  refine ⟨fi, nl, rw, h1, h2.re (fun a ha => ?_) hM, fun n hn => (h3 n hn).of fun a c fs hc ha => ?_⟩
  · obtain ⟨y, hy, -⟩ := hR a ha
    exact ⟨y, hy⟩
  · unfold mOn
    by_cases hr : R a = true
    · obtain ⟨y, hy, hk⟩ := hR a hr
      rw [ha] at hy
      cases hy
      have hk1 : 10 + c < 10 ∨ 10 + c = 20 := hk
      omega
    · rw [if_neg hr]
      exact ha
theorem cI.F0 {D : mD} {Z : Nat → Nat} {F : Mm} {cm : Nat} {g : Int32} {ar : rA} {M : Mm} (h : cI D Z F cm g ar M) {a : Nat} {x : va_E} (hx : F a = some x) : M a = some x := by
  obtain ⟨fi, nl, rw, -, ⟨bf, cp, el, mc, -, -, -, -, k8⟩, -⟩ := h
  exact (k8 a x hx).1
theorem rW.reF {D : mD} {G : Nat → Nat} {o : Nat} {F : Mm} {t c g u : Int32} {ar : rA} {M : Mm} (h : rW D G o F t c g u ar M) {F' M' : Mm} (h1 : ∀ a, rR G o o a = true → M' a = M a) (hF : ∀ (a : Nat) (x : va_E), F' a = some x → M' a = some x ∧ ¬ rR G o o a = true) : rW D G o F' t c g u ar M' := by
  obtain ⟨k1, k2, k3, k4⟩ := h
  refine ⟨by rw [h1 o (rR_iff.mpr (Or.inl rfl))]; exact k1, fun f hf => by rw [h1 _ (rR_iff.mpr (Or.inr (Or.inr ⟨f, hf, rfl⟩)))]; exact k2 f hf, k3, fun a x hx => ?_⟩
  obtain ⟨y1, y2⟩ := hF a x hx
  exact ⟨y1, fun z => y2 (rR_iff.mpr (Or.inl z)), fun f hf z => y2 (rR_iff.mpr (Or.inr (Or.inr ⟨f, hf, z⟩)))⟩
abbrev jO (D : mD) (w : Nat → Int64) : va_E := .inl (D.2.1 4, 1, .inr (.inl w))
/-- the class holds (cm, g, ar), the reference (cm2, g2, ar2), the answer's array w -/
def lI (D : mD) (Z G : Nat → Nat) (o2 q3 cm : Nat) (g : Int32) (ar : rA) (cm2 : Nat) (g2 : Int32) (ar2 : rA) (w : Nat → Int64) (M : Mm) : Prop :=
  ∃ (F : Mm) (od : Nat → Int32) (u t : Int32), cI D Z F cm g ar M ∧ (∀ a, rR G o2 q3 a = true → F a = M a) ∧ rW D G o2 (fun _ => none) t (nI cm2) g2 u (upA ar2 17 od) M ∧ M q3 = some (jO D w)
section LI
variable {D : mD} {Z G : Nat → Nat} {o2 q3 cm : Nat} {g : Int32} {ar : rA} {cm2 : Nat} {g2 : Int32} {ar2 : rA} {w : Nat → Int64} {M : Mm}
theorem lI_k {t c u : Int32} {ar0 : rA} (h : rW D G o2 (fun _ => none) t c g2 u ar0 M) (h3 : M q3 = some (jO D w)) {a : Nat} (ha : rR G o2 q3 a = true) : ∃ y, M a = some y ∧ (eK y < 10 ∨ eK y = 20) := by
  rcases rR_iff.mp ha with z | z | ⟨f, hf, z⟩
  · exact ⟨jO D w, by rw [z]; exact h3, Or.inl (show 1 < 10 by decide)⟩
  · exact ⟨_, by rw [z]; exact h.1, Or.inr rfl⟩
  · exact ⟨.inl (D.2.1 (r_ty f), r_len f, .inl (ar0 f)), by rw [z]; exact h.2.1 f hf, Or.inl (show 0 < 10 by decide)⟩
theorem lI_q {t c u : Int32} {ar0 : rA} (h : rW D G o2 (fun _ => none) t c g2 u ar0 M) (h3 : M q3 = some (jO D w)) : ¬ rR G o2 o2 q3 = true := by
  intro z
  rcases rR_iff.mp z with z | z | ⟨f, hf, z⟩
  · rw [z, h.1] at h3
    cases h3
  · rw [z, h.1] at h3
    cases h3
  · rw [z, h.2.1 f hf] at h3
    injection h3 with h4
    injection h4 with h5
    injection h5 with h6 h7
    injection h7 with h8 h9
    cases h9
theorem rR_sub {a : Nat} (h : rR G o2 o2 a = true) : rR G o2 q3 a = true := by
  rcases rR_iff.mp h with z | z | z
  · exact rR_iff.mpr (Or.inr (Or.inl z))
  · exact rR_iff.mpr (Or.inr (Or.inl z))
  · exact rR_iff.mpr (Or.inr (Or.inr z))
/-- for a call of the class -/
theorem lI.cls (h : lI D Z G o2 q3 cm g ar cm2 g2 ar2 w M) : ∃ F : Mm, cI D Z F cm g ar M ∧ ∀ (Z' : Nat → Nat) (F' : Mm) (cm' : Nat) (g' : Int32) (ar' : rA) (M' : Mm), FX F F' → cI D Z' F' cm' g' ar' M' → lI D Z' G o2 q3 cm' g' ar' cm2 g2 ar2 w M' := by
  obtain ⟨F, od, u, t, h1, h2, h3, h4⟩ := h
  refine ⟨F, h1, fun Z' F' cm' g' ar' M' hX hc => ?_⟩
  have key : ∀ a, rR G o2 q3 a = true → F' a = M a ∧ M' a = M a := fun a ha => by
    obtain ⟨y, hy, -⟩ := lI_k h3 h4 ha
    have h5 := hX a y (by rw [h2 a ha]; exact hy)
    rw [hy]
    exact ⟨h5, hc.F0 h5⟩
  refine ⟨F', od, u, t, hc, fun a ha => by rw [(key a ha).1, (key a ha).2], h3.reF (fun a ha => (key a (rR_sub ha)).2) (fun a x hx => by cases hx), by rw [(key q3 (rR_iff.mpr (Or.inl rfl))).2]; exact h4⟩
/-- for a call of the reference -/
theorem lI.ref (h : lI D Z G o2 q3 cm g ar cm2 g2 ar2 w M) : ∃ (F : Mm) (od : Nat → Int32) (u t : Int32), rW D G o2 F t (nI cm2) g2 u (upA ar2 17 od) M ∧ ∀ (t' : Int32) (cm' : Nat) (g' u' : Int32) (ar' : rA) (od' : Nat → Int32) (M' : Mm), rW D G o2 F t' (nI cm') g' u' (upA ar' 17 od') M' → lI D Z G o2 q3 cm g ar cm' g' ar' w M' := by
  obtain ⟨F, od, u, t, h1, h2, h3, h4⟩ := h
  refine ⟨fun a => if rR G o2 o2 a = true then none else M a, od, u, t, h3.reF (fun a ha => rfl) (fun a x hx => ?_), fun t' cm' g' u' ar' od' M' hr => ?_⟩
  · by_cases ha : rR G o2 o2 a = true
    · rw [if_pos ha] at hx; cases hx
    · rw [if_neg ha] at hx
      exact ⟨hx, ha⟩
  · have key : ∀ (a : Nat) (x : va_E), ¬ rR G o2 o2 a = true → M a = some x → M' a = some x := fun a x ha hx => (hr.2.2.2 a x ((if_neg ha).trans hx)).1
    refine ⟨mOn (rR G o2 q3) M' F, od', u', t', h1.re (fun a ha => ?_) (fun a x ha hx => key a x (fun z => ha (rR_sub z)) hx), fun a ha => if_pos ha, hr.reF (fun a ha => rfl) (fun a x hx => by cases hx), key _ _ (lI_q h3 h4) h4⟩
    rw [h2 a ha]
    exact lI_k h3 h4 ha
/-- the answer -/
theorem lI.ans (h : lI D Z G o2 q3 cm g ar cm2 g2 ar2 w M) : M q3 = some (jO D w) := by
  obtain ⟨F, od, u, t, h1, h2, h3, h4⟩ := h
  exact h4
theorem lI.put (h : lI D Z G o2 q3 cm g ar cm2 g2 ar2 w M) (w' : Nat → Int64) : lI D Z G o2 q3 cm g ar cm2 g2 ar2 w' (m_up M q3 (jO D w')) := by
  obtain ⟨F, od, u, t, h1, h2, h3, h4⟩ := h
  have hq := lI_q h3 h4
  have hn : ∀ a, ¬ a = q3 → m_up M q3 (jO D w') a = M a := fun a ha => m_up_n ha
  refine ⟨mOn (rR G o2 q3) (m_up M q3 (jO D w')) F, od, u, t, h1.re (fun a ha => by rw [h2 a ha]; exact lI_k h3 h4 ha) (fun a x ha hx => by rw [hn a (fun z => ha (rR_iff.mpr (Or.inl z)))]; exact hx), fun a ha => if_pos ha, h3.reF (fun a ha => hn a (fun z => hq (by rw [← z]; exact ha))) (fun a x hx => by cases hx), m_up_s⟩
theorem lI.z0 (h : lI D Z G o2 q3 cm g ar cm2 g2 ar2 w M) : ∃ mf : List Value, M (Z 0) = some (.inr (9, mf)) := by
  obtain ⟨F, od, u, t, ⟨fi, nl, rw, -, ⟨h1, -⟩⟩, -⟩ := h
  exact ⟨_, h1.me⟩
theorem lI.r0 (h : lI D Z G o2 q3 cm g ar cm2 g2 ar2 w M) : ∃ mf : List Value, M o2 = some (.inr (10, mf)) := by
  obtain ⟨F, od, u, t, -, -, h3, -⟩ := h
  exact ⟨_, h3.1⟩
end LI
