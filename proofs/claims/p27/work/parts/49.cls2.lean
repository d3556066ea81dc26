/-! ===== the class's world: a list changes ===== -/
theorem cW.lst {D : mD} {Z : Nat → Nat} {P : Nat → Prop} {fs : Nat → List Value} {ls : Nat → List Nat} {na : Nat → Option Nat} {cv rw : Nat → Int32} {mf : List Value} {F M : Mm} (h : cW D Z P fs ls na cv rw mf F M) {i : Nat} (hi : cQ P i) :
    ∃ (b cap : Nat) (f : Nat → Option Nat) (mc : Int32), cLi D Z i b cap f mc (ls i) M ∧ (∀ n ∈ ls i, P n) ∧ ∀ (q cap' : Nat) (g : Nat → Option Nat) (mc' : Int32) (l' : List Nat) (M' : Mm), ((q = b ∧ (0 < cap ∨ (cap' = cap ∧ mX [Z (200 + i)] M M'))) ∨ M q = none) → mX [q, Z (200 + i)] M M' → cLi D Z i q cap' g mc' l' M' → (∀ n ∈ l', P n) → cW D Z P fs (upA ls i l') na cv rw mf F M' := by
  obtain ⟨bf, cp, el, mc, ⟨k1, k2, k3, k4⟩, k5, k6, ⟨k7, k7a, k7b, k7c⟩, k8⟩ := h
  refine ⟨bf i, cp i, el i, mc i, (k6 i hi).1, (k6 i hi).2, fun q cap' g mc' l' M' hq hX hL hP => ?_⟩
  have hLi := (k6 i hi).1.1
  have hB := (k6 i hi).1.2.1
  have keep : ∀ (c : Nat) (x : va_E), M c = some x → c ≠ Z (200 + i) → (0 < cp i → c ≠ bf i) → M' c = M c := by
    intro c x hc h1 h2
    rcases hq with ⟨z1, z3 | ⟨-, z3⟩⟩ | z
    · exact hX c (by simp; exact ⟨by rw [z1]; exact h2 z3, h1⟩)
    · exact z3 c (by simp; exact h1)
    · exact hX c (by simp; exact ⟨m_neN hc z, h1⟩)
  have keepK : ∀ (c : Nat) (x : va_E), M c = some x → eK x ≠ 2 → eK x ≠ 12 → M' c = M c := fun c x hc h1 h2 => keep c x hc (m_ne hc hLi (fun z => h2 (congrArg eK z))) (fun h0 => m_ne hc (hB.own h0) (fun z => h1 (congrArg eK z)))
  have hqne : ∀ (c : Nat) (x : va_E), M c = some x → (0 < cp i → c ≠ bf i) → 0 < cap' → c ≠ q := by
    intro c x hc h1 h2
    rcases hq with ⟨z1, z2 | ⟨z2, -⟩⟩ | z
    · rw [z1]
      exact h1 z2
    · rw [z1]
      exact h1 (by omega)
    · exact m_neN hc z
  refine ⟨upA bf i q, upA cp i cap', upA el i g, upA mc i mc', ⟨(keepK _ _ k1 (show (19 : Nat) ≠ 2 by decide) (show (19 : Nat) ≠ 12 by decide)).trans k1, (keep _ _ k2 (m_ne k2 hLi (fun z => by cases z)) (fun h0 z => k7c i hi h0 z.symm)).trans k2, (keepK _ _ k3 (show (0 : Nat) ≠ 2 by decide) (show (0 : Nat) ≠ 12 by decide)).trans k3, (keepK _ _ k4 (show (0 : Nat) ≠ 2 by decide) (show (0 : Nat) ≠ 12 by decide)).trans k4⟩, fun n hn => (keepK _ _ (k5 n hn) (show (16 : Nat) ≠ 2 by decide) (show (16 : Nat) ≠ 12 by decide)).trans (k5 n hn), fun j hj => ?_, ⟨k7, k7a, ?_, ?_⟩, ?_⟩
  · by_cases z : j = i
    · subst z
      rw [upA_s, upA_s, upA_s, upA_s, upA_s]
      exact ⟨hL, hP⟩
    · rw [upA_n z, upA_n z, upA_n z, upA_n z, upA_n z]
      refine ⟨(k6 j hj).1.keep (keep _ _ (k6 j hj).1.1 (fun y => z (k7a j i hj hi y)) (fun h0 => m_ne (k6 j hj).1.1 (hB.own h0) (fun y => by cases y))) (fun h0 => keep _ _ ((k6 j hj).1.2.1.own h0) (m_ne ((k6 j hj).1.2.1.own h0) hLi (fun y => by cases y)) (fun h1 y => z (k7b j i hj hi h0 h1 y))), (k6 j hj).2⟩
  · intro j k hj hk h1 h2 he
    by_cases z : j = i <;> by_cases y : k = i
    · rw [z, y]
    · subst z
      rw [upA_s] at h1 he
      rw [upA_n y] at h2 he
      exact absurd he.symm (hqne _ _ ((k6 k hk).1.2.1.own h2) (fun h0 w => y (k7b k j hk hj h2 h0 w)) h1)
    · subst y
      rw [upA_s] at h2 he
      rw [upA_n z] at h1 he
      exact absurd he (hqne _ _ ((k6 j hj).1.2.1.own h1) (fun h0 w => z (k7b j k hj hk h1 h0 w)) h2)
    · rw [upA_n z] at h1 he
      rw [upA_n y] at h2 he
      exact k7b j k hj hk h1 h2 he
  · intro j hj h0
    by_cases z : j = i
    · subst z
      rw [upA_s] at h0 ⊢
      exact fun w => hqne _ _ k2 (fun h1 w2 => k7c j hj h1 w2.symm) h0 w.symm
    · rw [upA_n z] at h0 ⊢
      exact k7c j hj h0
  · intro a x ha
    obtain ⟨z1, z2, z3, z4⟩ := k8 a x ha
    refine ⟨(keep a x z1 (z4 i hi).1 (z4 i hi).2).trans z1, z2, z3, fun j hj => ⟨(z4 j hj).1, fun h0 => ?_⟩⟩
    by_cases z : j = i
    · subst z
      rw [upA_s] at h0 ⊢
      exact hqne _ _ z1 (z4 j hj).2 h0
    · rw [upA_n z] at h0 ⊢
      exact (z4 j hj).2 h0

