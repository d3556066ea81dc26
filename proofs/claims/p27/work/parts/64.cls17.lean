/-! ===== the class: the order, one more in it ===== -/
theorem getD_ins {L : List Nat} {j n k : Nat} (hj : j ≤ L.length) : (L.take j ++ n :: L.drop j).getD k 0 = if k < j then L.getD k 0 else if k = j then n else L.getD (k - 1) 0 := by
  have hl : (L.take j).length = j := by rw [List.length_take]; omega
  rw [List.getD_eq_getElem?_getD, List.getD_eq_getElem?_getD, List.getD_eq_getElem?_getD]
  by_cases h1 : k < j
  · rw [if_pos h1, List.getElem?_append_left (by omega), List.getElem?_take_of_lt h1]
  · rw [if_neg h1, List.getElem?_append_right (by omega), hl]
    by_cases h2 : k = j
    · rw [if_pos h2, h2, Nat.sub_self]
      rfl
    · rw [if_neg h2]
      obtain ⟨d, hd⟩ : ∃ d, k - j = d + 1 := ⟨k - j - 1, by omega⟩
      rw [hd, List.getElem?_cons_succ, List.getElem?_drop, show j + d = k - 1 by omega]
theorem lsF_L {ar : rA} {L L' : List Nat} : upA (lsF ar L) 40 L' = lsF ar L' := by
  funext i
  unfold upA lsF
  by_cases h : i = 40
  · rw [if_pos h, if_pos h]
  · rw [if_neg h, if_neg h, if_neg h]
theorem cS.ins {D : mD} {Z : Nat → Nat} {F : Mm} {cm : Nat} {g : Int32} {ar : rA} {fi : Nat → Nat → Int32} {nl : Nat → Nat → Int64} {L : List Nat} {rw : Nat → Int32} {M : Mm} (h : cS D Z F cm g ar fi nl L rw M) :
    ∃ (b cap : Nat) (f : Nat → Option Nat) (mc : Int32), M (Z 240) = some (jLs mc b L.length) ∧ jB D b cap f M ∧ L.length ≤ cap ∧ cap ≤ 60 ∧ jN6 M f L.length ∧ (∀ k, k < L.length → f k = some (Z (100 + L.getD k 0))) ∧ (∀ n ∈ L, cP ar cm n) ∧
      ∀ (n j : Nat) (M' : Mm), j ≤ L.length → cP ar cm n → jA D (Z 240) b cap (L.length + 1) (fun g => (∀ k, k < j → g k = f k) ∧ g j = some (Z (100 + n)) ∧ ∀ k, j ≤ k → k < L.length → g (k + 1) = f k) M M' → cS D Z F cm g ar fi nl (L.take j ++ n :: L.drop j) rw M' := by
  obtain ⟨b, cap, f, mc, ⟨h1, h2, h3, h4⟩, h5, h6⟩ := h.1.lst (i := 40) (Or.inl rfl)
  have e : lsF ar L 40 = L := if_pos rfl
  rw [e] at h1 h3 h4 h5
  refine ⟨b, cap, f, mc, h1, h2, h3, h2.cap, fun k y hk hy => ?_, h4, h5, fun n j M' hj hn hA => ?_⟩
  · rw [h4 k hk] at hy
    have hm : L.getD k 0 ∈ L := by
      rw [List.getD_eq_getElem?_getD, List.getElem?_eq_getElem hk]
      exact List.getElem_mem hk
    exact ⟨_, (Option.some.inj hy) ▸ h.nd (h5 _ hm)⟩
  · obtain ⟨q, cap', g', mc', hq, hX, k1, k2, k3, k4, k5, k6, k7, k8⟩ := hA
    have hl : (L.take j ++ n :: L.drop j).length = L.length + 1 := by
      rw [List.length_append, List.length_take, List.length_cons, List.length_drop]
      omega
    have hc := h6 q cap' g' mc' (L.take j ++ n :: L.drop j) M' (by
      rcases hq with ⟨z1, z2⟩ | z
      · exact Or.inl ⟨z1, Or.inl z2⟩
      · exact Or.inr z) hX ⟨by rw [hl]; exact k1, Or.inr ⟨k2, k5, k4⟩, by rw [hl]; exact k3, fun k hk => ?_⟩ (fun x hx => ?_)
    · rw [lsF_L] at hc
      exact ⟨hc, h.2⟩
    · rw [getD_ins hj]
      rw [hl] at hk
      by_cases c1 : k < j
      · rw [if_pos c1, k6 k c1, h4 k (by omega)]
      · rw [if_neg c1]
        by_cases c2 : k = j
        · rw [if_pos c2, c2, k7]
        · rw [if_neg c2]
          obtain ⟨d, rfl⟩ : ∃ d, k = d + 1 := ⟨k - 1, by omega⟩
          rw [k8 d (by omega) (by omega), h4 d (by omega), Nat.add_sub_cancel]
    · rcases List.mem_append.mp hx with z | z
      · exact h5 _ (List.mem_of_mem_take z)
      · rcases List.mem_cons.mp z with y | y
        · rw [y]; exact hn
        · exact h5 _ (List.mem_of_mem_drop y)

