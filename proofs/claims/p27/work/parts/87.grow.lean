/-! ===== the class's world grows: lists, nodes, what never changes ===== -/
section GR
variable {D : mD} {Z : Nat → Nat} {P : Nat → Prop} {fs : Nat → List Value} {ls : Nat → List Nat} {na : Nat → Option Nat} {cv rw : Nat → Int32} {mf : List Value} {F M : Mm}
theorem cW.insg (h : cW D Z P fs ls na cv rw mf F M) {i : Nat} (hi : cQ P i) :
    ∃ (b cap : Nat) (f : Nat → Option Nat) (mc : Int32), M (Z (200 + i)) = some (jLs mc b (ls i).length) ∧ jB D b cap f M ∧ (ls i).length ≤ cap ∧ cap ≤ 60 ∧ jN6 M f (ls i).length ∧
      ∀ (n j : Nat) (M' : Mm), j ≤ (ls i).length → P n → jA D (Z (200 + i)) b cap ((ls i).length + 1) (fun g => (∀ k, k < j → g k = f k) ∧ g j = some (Z (100 + n)) ∧ ∀ k, j ≤ k → k < (ls i).length → g (k + 1) = f k) M M' → cW D Z P fs (upA ls i (insL (ls i) j n)) na cv rw mf F M' := by
  obtain ⟨b, cap, f, mc, ⟨h1, h2, h3, h4⟩, h5, h6⟩ := h.lst hi
  refine ⟨b, cap, f, mc, h1, h2, h3, h2.cap, fun k y hk hy => ?_, fun n j M' hj hn hA => ?_⟩
  · rw [h4 k hk] at hy
    have hm : (ls i).getD k 0 ∈ ls i := by
      rw [List.getD_eq_getElem?_getD, List.getElem?_eq_getElem hk]
      exact List.getElem_mem hk
    exact ⟨_, (Option.some.inj hy) ▸ h.nd (h5 _ hm)⟩
  · obtain ⟨q, cap', g', mc', hq, hX, k1, k2, k3, k4, k5, k6, k7, k8⟩ := hA
    have hl := insL_len (n := n) hj
    refine h6 q cap' g' mc' (insL (ls i) j n) M' (by
      rcases hq with ⟨z1, z2⟩ | z
      · exact Or.inl ⟨z1, Or.inl z2⟩
      · exact Or.inr z) hX ⟨by rw [hl]; exact k1, Or.inr ⟨k2, k5, k4⟩, by rw [hl]; exact k3, fun k hk => ?_⟩ (fun x hx => ?_)
    · unfold insL
      rw [getD_ins hj]
      rw [hl] at hk
      by_cases c1 : k < j
      · rw [if_pos c1, k6 k c1, h4 k (by omega)]
      · rw [if_neg c1]
        by_cases c2 : k = j
        · rw [if_pos c2, c2, k7]
        · rw [if_neg c2]
          obtain ⟨d, rfl⟩ : ∃ d, k = d + 1 := ⟨k - 1, by omega⟩
          rw [k8 d (by omega) (by omega), h4 d (by omega), Nat.add_sub_cancel]
    · rcases insL_mem.mp hx with z | z
      · rw [z]; exact hn
      · exact h5 _ z
/-- what never changes grows -/
theorem cW.fext (h : cW D Z P fs ls na cv rw mf F M) {M2 : Mm} (hm : ∀ (a : Nat) (x : va_E), M a = some x → M2 a = some x) {q : Nat} {e : va_E} (hq0 : M q = none) (hq : M2 q = some e) : cW D Z P fs ls na cv rw mf (m_up F q e) M2 := by
  have h2 := h.mono hm
  obtain ⟨bf, cp, el, mc, ⟨k1, k2, k3, k4⟩, k5, k6, k7, k8⟩ := h
  have hne : ∀ {b : Nat} {x : va_E}, M b = some x → q ≠ b := fun {b x} hb z => by
    rw [z, hb] at hq0
    cases hq0
  refine ⟨bf, cp, el, mc, ⟨hm _ _ k1, hm _ _ k2, hm _ _ k3, hm _ _ k4⟩, fun n hn => hm _ _ (k5 n hn), fun i hi => ⟨?_, (k6 i hi).2⟩, k7, fun a x hx => ?_⟩
  · obtain ⟨z1, z2, z3, z4⟩ := (k6 i hi).1
    refine ⟨hm _ _ z1, ?_, z3, z4⟩
    rcases z2 with z | ⟨z, y2, y3⟩
    · exact Or.inl z
    · exact Or.inr ⟨hm _ _ z, y2, y3⟩
  · by_cases z : a = q
    · rw [z, m_up_s] at hx
      rw [z]
      exact ⟨by rw [hq]; exact hx, ⟨hne k1, hne k2, hne k3, hne k4⟩, fun n hn => hne (k5 n hn), fun i hi => ⟨hne (k6 i hi).1.1, fun hc => hne ((k6 i hi).1.2.1.own hc)⟩⟩
    · rw [m_up_n z] at hx
      obtain ⟨y1, y2⟩ := k8 a x hx
      exact ⟨hm _ _ y1, y2⟩
/-- other addresses for what isn't there -/
theorem cW.zcg (h : cW D Z P fs ls na cv rw mf F M) {Z' : Nat → Nat} (h0 : Z' 0 = Z 0 ∧ Z' 1 = Z 1 ∧ Z' 2 = Z 2 ∧ Z' 3 = Z 3) (hn : ∀ n, P n → Z' (100 + n) = Z (100 + n)) (hi : ∀ i, cQ P i → Z' (200 + i) = Z (200 + i)) : cW D Z' P fs ls na cv rw mf F M := by
  obtain ⟨bf, cp, el, mc, k1, k5, k6, ⟨k7, k7a, k7b, k7c⟩, k8⟩ := h
  obtain ⟨e0, e1, e2, e3⟩ := h0
  refine ⟨bf, cp, el, mc, by rw [e0, e1, e2, e3]; exact k1, fun n h => by rw [hn n h]; exact k5 n h, fun i h => ⟨?_, (k6 i h).2⟩, ⟨fun n m h1 h2 => by rw [hn n h1, hn m h2]; exact k7 n m h1 h2, fun i j h1 h2 => by rw [hi i h1, hi j h2]; exact k7a i j h1 h2, k7b, fun i h => by rw [e1]; exact k7c i h⟩, fun a x hx => ?_⟩
  · obtain ⟨⟨z1, z2, z3, z4⟩, z5⟩ := k6 i h
    refine ⟨by rw [hi i h]; exact z1, z2, z3, fun k hk => ?_⟩
    have hm : (ls i).getD k 0 ∈ ls i := by
      rw [List.getD_eq_getElem?_getD, List.getElem?_eq_getElem hk]
      exact List.getElem_mem hk
    rw [z4 k hk, hn _ (z5 _ hm)]
  · obtain ⟨y1, y2, y3, y4⟩ := k8 a x hx
    exact ⟨y1, by rw [e0, e1, e2, e3]; exact y2, fun n h => by rw [hn n h]; exact y3 n h, fun i h => by rw [hi i h]; exact y4 i h⟩
/-- a node more -/
theorem cW.grow (h : cW D Z P fs ls na cv rw mf F M) {M2 : Mm} {n0 q ql : Nat} {l : List Value} (hm : ∀ (a : Nat) (x : va_E), M a = some x → M2 a = some x) (hP : ¬ P n0) (h40 : n0 ≠ 40) (hq0 : M q = none) (hl0 : M ql = none) (hq : M2 q = some (.inr (6, l))) (hl : M2 ql = some (jLs 0 (D.2.2 0) 0)) {Z' : Nat → Nat}
    (z0 : Z' 0 = Z 0 ∧ Z' 1 = Z 1 ∧ Z' 2 = Z 2 ∧ Z' 3 = Z 3) (zn : ∀ n, P n → Z' (100 + n) = Z (100 + n)) (zi : ∀ i, cQ P i → Z' (200 + i) = Z (200 + i)) (zq : Z' (100 + n0) = q) (zl : Z' (200 + n0) = ql) :
    cW D Z' (fun n => P n ∨ n = n0) (upA fs n0 l) (upA ls n0 []) na cv rw mf F M2 := by
  have hh := (h.mono hm).zcg z0 zn zi
  obtain ⟨bf, cp, el, mc, ⟨k1, k2, k3, k4⟩, k5, k6, ⟨k7, k7a, k7b, k7c⟩, k8⟩ := h
  have hneq : ∀ {b : Nat} {x : va_E}, M b = some x → b ≠ q := fun {b x} hb z => by
    rw [← z, hb] at hq0
    cases hq0
  have hnel : ∀ {b : Nat} {x : va_E}, M b = some x → b ≠ ql := fun {b x} hb z => by
    rw [← z, hb] at hl0
    cases hl0
  have hQ : ∀ i, cQ (fun n => P n ∨ n = n0) i → i = n0 ∨ (i ≠ n0 ∧ cQ P i) := fun i hi => by
    by_cases z : i = n0
    · exact Or.inl z
    · refine Or.inr ⟨z, ?_⟩
      rcases hi with y | y | y
      · exact Or.inl y
      · exact Or.inr y
      · exact absurd y z
  refine ⟨upA bf n0 (D.2.2 0), upA cp n0 0, el, upA mc n0 0, ⟨by rw [z0.1]; exact hm _ _ k1, by rw [z0.2.1]; exact hm _ _ k2, by rw [z0.2.2.1]; exact hm _ _ k3, by rw [z0.2.2.2]; exact hm _ _ k4⟩, fun n hn => ?_, fun i hi => ?_, ⟨fun n m hn hm9 e => ?_, fun i j hi hj e => ?_, fun i j hi hj ci cj e => ?_, fun i hi ci => ?_⟩, fun a x hx => ?_⟩
  · by_cases z : n = n0
    · rw [z, upA_s, zq]
      exact hq
    · have hn9 : P n := hn.resolve_right z
      rw [upA_n z, zn n hn9]
      exact hm _ _ (k5 n hn9)
  · rcases hQ i hi with z | ⟨z, hi9⟩
    · rw [z]
      rw [upA_s, upA_s, upA_s, upA_s]
      exact ⟨⟨by rw [zl]; exact hl, Or.inl ⟨rfl, rfl⟩, Nat.le_refl _, fun k hk => absurd hk (Nat.not_lt_zero k)⟩, fun n hn => absurd hn List.not_mem_nil⟩
    · rw [upA_n z, upA_n z, upA_n z, upA_n z]
      obtain ⟨⟨y1, y2, y3, y4⟩, y5⟩ := k6 i hi9
      refine ⟨⟨by rw [zi i hi9]; exact hm _ _ y1, ?_, y3, fun k hk => ?_⟩, fun n hn => Or.inl (y5 n hn)⟩
      · rcases y2 with w | ⟨w, w2, w3⟩
        · exact Or.inl w
        · exact Or.inr ⟨hm _ _ w, w2, w3⟩
      · have hmem : (ls i).getD k 0 ∈ ls i := by
          rw [List.getD_eq_getElem?_getD, List.getElem?_eq_getElem hk]
          exact List.getElem_mem hk
        rw [y4 k hk, zn _ (y5 _ hmem)]
  · by_cases z : n = n0
    · by_cases y : m = n0
      · rw [z, y]
      · have hm8 : P m := hm9.resolve_right y
        rw [z, zq, zn m hm8] at e
        exact absurd e.symm (hneq (k5 m hm8))
    · have hn8 : P n := hn.resolve_right z
      by_cases y : m = n0
      · rw [y, zq, zn n hn8] at e
        exact absurd e (hneq (k5 n hn8))
      · have hm8 : P m := hm9.resolve_right y
        rw [zn n hn8, zn m hm8] at e
        exact k7 n m hn8 hm8 e
  · rcases hQ i hi with z | ⟨z, hi9⟩
    · rcases hQ j hj with y | ⟨y, hj9⟩
      · rw [z, y]
      · rw [z, zl, zi j hj9] at e
        exact absurd e.symm (hnel (k6 j hj9).1.1)
    · rcases hQ j hj with y | ⟨y, hj9⟩
      · rw [y, zl, zi i hi9] at e
        exact absurd e (hnel (k6 i hi9).1.1)
      · rw [zi i hi9, zi j hj9] at e
        exact k7a i j hi9 hj9 e
  · rcases hQ i hi with z | ⟨z, hi9⟩
    · rw [z, upA_s] at ci
      exact absurd ci (Nat.lt_irrefl 0)
    · rcases hQ j hj with y | ⟨y, hj9⟩
      · rw [y, upA_s] at cj
        exact absurd cj (Nat.lt_irrefl 0)
      · rw [upA_n z] at ci
        rw [upA_n y] at cj
        rw [upA_n z, upA_n y] at e
        exact k7b i j hi9 hj9 ci cj e
  · rcases hQ i hi with z | ⟨z, hi9⟩
    · rw [z, upA_s] at ci
      exact absurd ci (Nat.lt_irrefl 0)
    · rw [upA_n z] at ci
      rw [z0.2.1, upA_n z]
      exact k7c i hi9 ci
  · obtain ⟨y1, y2, y3, y4⟩ := k8 a x hx
    refine ⟨hm _ _ y1, by rw [z0.1, z0.2.1, z0.2.2.1, z0.2.2.2]; exact y2, fun n hn => ?_, fun i hi => ?_⟩
    · by_cases z : n = n0
      · rw [z, zq]
        exact hneq y1
      · rw [zn n (hn.resolve_right z)]
        exact y3 n (hn.resolve_right z)
    · rcases hQ i hi with z | ⟨z, hi9⟩
      · rw [z, zl, upA_s]
        exact ⟨hnel y1, fun c => absurd c (Nat.lt_irrefl 0)⟩
      · rw [zi i hi9, upA_n z, upA_n z]
        exact y4 i hi9
end GR
theorem sFx.ext {Z Z' : Nat → Nat} {ar ar' : rA} {n : Nat} {F F' : Mm} (h : sFx Z ar n F) (hF : ∀ (a : Nat) (x : va_E), F a = some x → F' a = some x) (hz : Z' (400 + n) = Z (400 + n) ∧ Z' (500 + n) = Z (500 + n) ∧ Z' (600 + n) = Z (600 + n) ∧ Z' (700 + n) = Z (700 + n) ∧ Z' (800 + n) = Z (800 + n)) (h3 : ar' 3 n = ar 3 n) (h7 : ∀ j, j < 6 → ar' 7 (6 * n + j) = ar 7 (6 * n + j))
    (hc : 0 < ar' 14 (4 * n + 2) → F' (Z' (900 + n)) = some (.inr (3, [.int (ar' 14 (4 * n)), .int (ar' 14 (4 * n + 1)), .int (ar' 14 (4 * n) + ar' 14 (4 * n + 2)), .int (ar' 14 (4 * n + 1) + ar' 14 (4 * n + 3))]))) : sFx Z' ar' n F' := by
  obtain ⟨z4, z5, z6, z7, z8⟩ := hz
  have e0 : ar' 7 (6 * n) = ar 7 (6 * n) := h7 0 (by decide)
  obtain ⟨s1, s2, s3, s4⟩ := h
  unfold sFx
  rw [z4, z5, z6, z7, z8, h3, e0, h7 1 (by decide), h7 2 (by decide), h7 3 (by decide), h7 4 (by decide), h7 5 (by decide)]
  refine ⟨fun k => ⟨hF _ _ (s1 k).1, hF _ _ (s1 k).2⟩, fun k => ?_, fun k => ?_, hc⟩
  · obtain ⟨a1, lf, tp, rt, bt, a2, a3⟩ := s2 k
    exact ⟨hF _ _ a1, lf, tp, rt, bt, hF _ _ a2, a3⟩
  · obtain ⟨a1, a2, a3, a4, lf, tp, rt, bt, a5, a6⟩ := s3 k
    exact ⟨hF _ _ a1, hF _ _ a2, hF _ _ a3, hF _ _ a4, lf, tp, rt, bt, hF _ _ a5, a6⟩

