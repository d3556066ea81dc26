/-- an object under construction: its fields, and what it has made so far -/
def mI (ci o : Nat) (F : Mm) (fs : List Value) (P : List (Nat × va_E)) (M : Mm) : Prop :=
  M o = some (.inr (ci, fs)) ∧ (∀ (i a : Nat) (e : va_E), P[i]? = some (a, e) → M a = some e ∧ a ≠ o ∧ F a = none) ∧ (∀ (i j a : Nat) (e e' : va_E), P[i]? = some (a, e) → P[j]? = some (a, e') → i = j) ∧ ∀ (a : Nat) (x : va_E), F a = some x → M a = some x ∧ a ≠ o
section MI
variable {ci o : Nat} {F : Mm} {fs : List Value} {P : List (Nat × va_E)} {M : Mm}
theorem mI.fst {q0 : Nat} (h : M o = some (.inr (ci, fs))) (hF : ∀ (a : Nat) (x : va_E), F a = some x → M a = some x ∧ a ≠ o) : mI ci o F fs [] M := ⟨h, (fun i a e (z : [][i]? = some (a, e)) => by simp at z), (fun i j a e e' (z : [][i]? = some (a, e)) => by simp at z), hF⟩
theorem mI.new {q : Nat} {e : va_E} (h : mI ci o F fs P M) (hq : M q = none) : mI ci o F fs (P ++ [(q, e)]) (m_up M q e) := by
  obtain ⟨h1, h2, h3, h4⟩ := h
  have hqn : ∀ (i a : Nat) (x : va_E), P[i]? = some (a, x) → a ≠ q := by
    intro i a x hx z
    rw [z] at hx
    rw [(h2 _ _ _ hx).1] at hq
    cases hq
  have hqo : q ≠ o := by
    intro z
    rw [z, h1] at hq
    cases hq
  have hqF : F q = none := by
    cases hz : F q with
    | none => rfl
    | some x =>
      rw [(h4 _ _ hz).1] at hq
      cases hq
  have hat : ∀ (i a : Nat) (x : va_E), (P ++ [(q, e)])[i]? = some (a, x) → P[i]? = some (a, x) ∨ (i = P.length ∧ a = q ∧ x = e) := by
    intro i a x hx
    rcases Nat.lt_or_ge i P.length with z | z
    · rw [List.getElem?_append_left z] at hx
      exact Or.inl hx
    · rw [List.getElem?_append_right z] at hx
      have hl := (List.getElem?_eq_some_iff.mp hx).1
      have hi : i = P.length := by
        simp at hl
        omega
      rw [hi, Nat.sub_self] at hx
      have hx2 : (q, e) = (a, x) := Option.some.inj hx
      exact Or.inr ⟨hi, (congrArg Prod.fst hx2).symm, (congrArg Prod.snd hx2).symm⟩
  refine ⟨?_, ?_, ?_, ?_⟩
  · rw [m_up_n (Ne.symm hqo)]
    exact h1
  · intro i a x hx
    rcases hat i a x hx with z | ⟨_, z, z2⟩
    · rw [m_up_n (hqn _ _ _ z)]
      exact h2 _ _ _ z
    · rw [z, z2]
      exact ⟨m_up_s, hqo, hqF⟩
  · intro i j a x x' hx hx'
    rcases hat i a x hx with z | ⟨z1, z2, z3⟩ <;> rcases hat j a x' hx' with y | ⟨y1, y2, y3⟩
    · exact h3 _ _ _ _ _ z y
    · exact absurd y2 (hqn _ _ _ z)
    · exact absurd z2 (hqn _ _ _ y)
    · rw [z1, y1]
  · intro a x hx
    obtain ⟨y1, y2⟩ := h4 a x hx
    have hne : a ≠ q := by
      intro z
      rw [z, hqF] at hx
      cases hx
    exact ⟨by rw [m_up_n hne]; exact y1, y2⟩
theorem mI.put {fs' : List Value} (h : mI ci o F fs P M) : mI ci o F fs' P (m_up M o (.inr (ci, fs'))) := by
  obtain ⟨h1, h2, h3, h4⟩ := h
  refine ⟨m_up_s, ?_, h3, ?_⟩
  · intro i a e hx
    obtain ⟨y1, y2, y3⟩ := h2 i a e hx
    exact ⟨by rw [m_up_n y2]; exact y1, y2, y3⟩
  · intro a x hx
    obtain ⟨y1, y2⟩ := h4 a x hx
    exact ⟨by rw [m_up_n y2]; exact y1, y2⟩
end MI
def q_ar0 : rA := fun f => if f = 2 then upd (fun _ => 0) 0 1 else if f = 4 then upd (fun _ => 0) 0 (-1) else if f = 10 then upd (fun _ => 0) 0 (-1) else if f = 11 then upd (fun _ => 0) 0 8 else fun _ => 0
