/-! ===== the reference: its constructor ===== -/
def q_d8 : List Value := [.int 0, .int 0, .null, .null, .null, .null, .null, .null, .null, .null, .null, .null, .null, .null, .null, .int 0, .null, .null, .int 0]
/-- an object under construction: its fields, and what it has made so far -/
def mI (ci o : Nat) (F : Mm) (fs : List Value) (P : List (Nat × va_E)) (M : Mm) : Prop :=
  M o = some (.inr (ci, fs)) ∧ (∀ (i a : Nat) (e : va_E), P[i]? = some (a, e) → M a = some e ∧ a ≠ o ∧ F a = none) ∧ (∀ (i j a : Nat) (e e' : va_E), P[i]? = some (a, e) → P[j]? = some (a, e') → i = j) ∧ ∀ (a : Nat) (x : va_E), F a = some x → M a = some x ∧ a ≠ o
section MI
variable {ci o : Nat} {F : Mm} {fs : List Value} {P : List (Nat × va_E)} {M : Mm}
theorem mI.fst {q0 : Nat} (h : M o = some (.inr (ci, fs))) (hF : ∀ (a : Nat) (x : va_E), F a = some x → M a = some x ∧ a ≠ o) : mI ci o F fs [] M := ⟨h, (fun i a e (z : [][i]? = some (a, e)) => by simp at z), (fun i j a e e' (z : [][i]? = some (a, e)) => by simp at z), hF⟩
theorem mI.new {q : Nat} {e : va_E} (h : mI ci o F fs P M) (hq : M q = none) : mI ci o F fs (P ++ [(q, e)]) (m_up M q e) := by
  obtain ⟨h1, h2, h3, h4⟩ := h
  have hqn : ∀ (i a : Nat) (x : va_E), P[i]? = some (a, x) → a ≠ q := by
    intro i a x hx z
    rw [z] at hx
    rw [(h2 _ _ _ hx).1] at hq
    cases hq
  have hqo : q ≠ o := by
    intro z
    rw [z, h1] at hq
    cases hq
  have hqF : F q = none := by
    cases hz : F q with
    | none => rfl
    | some x =>
      rw [(h4 _ _ hz).1] at hq
      cases hq
  have hat : ∀ (i a : Nat) (x : va_E), (P ++ [(q, e)])[i]? = some (a, x) → P[i]? = some (a, x) ∨ (i = P.length ∧ a = q ∧ x = e) := by
    intro i a x hx
    rcases Nat.lt_or_ge i P.length with z | z
    · rw [List.getElem?_append_left z] at hx
      exact Or.inl hx
    · rw [List.getElem?_append_right z] at hx
      have hl := (List.getElem?_eq_some_iff.mp hx).1
      have hi : i = P.length := by
        simp at hl
        omega
      rw [hi, Nat.sub_self] at hx
      have hx2 : (q, e) = (a, x) := Option.some.inj hx
      exact Or.inr ⟨hi, (congrArg Prod.fst hx2).symm, (congrArg Prod.snd hx2).symm⟩
  refine ⟨?_, ?_, ?_, ?_⟩
  · rw [m_up_n (Ne.symm hqo)]
    exact h1
  · intro i a x hx
    rcases hat i a x hx with z | ⟨_, z, z2⟩
    · rw [m_up_n (hqn _ _ _ z)]
      exact h2 _ _ _ z
    · rw [z, z2]
      exact ⟨m_up_s, hqo, hqF⟩
  · intro i j a x x' hx hx'
    rcases hat i a x hx with z | ⟨z1, z2, z3⟩ <;> rcases hat j a x' hx' with y | ⟨y1, y2, y3⟩
    · exact h3 _ _ _ _ _ z y
    · exact absurd y2 (hqn _ _ _ z)
    · exact absurd z2 (hqn _ _ _ y)
    · rw [z1, y1]
  · intro a x hx
    obtain ⟨y1, y2⟩ := h4 a x hx
    have hne : a ≠ q := by
      intro z
      rw [z, hqF] at hx
      cases hx
    exact ⟨by rw [m_up_n hne]; exact y1, y2⟩
theorem mI.put {fs' : List Value} (h : mI ci o F fs P M) : mI ci o F fs' P (m_up M o (.inr (ci, fs'))) := by
  obtain ⟨h1, h2, h3, h4⟩ := h
  refine ⟨m_up_s, ?_, h3, ?_⟩
  · intro i a e hx
    obtain ⟨y1, y2, y3⟩ := h2 i a e hx
    exact ⟨by rw [m_up_n y2]; exact y1, y2, y3⟩
  · intro a x hx
    obtain ⟨y1, y2⟩ := h4 a x hx
    exact ⟨by rw [m_up_n y2]; exact y1, y2⟩
theorem mI.arr {i a : Nat} {e e' : va_E} (h : mI ci o F fs P M) (hi : P[i]? = some (a, e)) : mI ci o F fs (P.set i (a, e')) (m_up M a e') := by
  obtain ⟨h1, h2, h3, h4⟩ := h
  obtain ⟨z1, z2, z3⟩ := h2 _ _ _ hi
  have hl := (List.getElem?_eq_some_iff.mp hi).1
  have hat : ∀ (j b : Nat) (x : va_E), (P.set i (a, e'))[j]? = some (b, x) → (j = i ∧ b = a ∧ x = e') ∨ (j ≠ i ∧ P[j]? = some (b, x)) := by
    intro j b x hx
    by_cases hj : j = i
    · rw [hj, List.getElem?_set_self hl] at hx
      have hx2 : (a, e') = (b, x) := Option.some.inj hx
      exact Or.inl ⟨hj, (congrArg Prod.fst hx2).symm, (congrArg Prod.snd hx2).symm⟩
    · rw [List.getElem?_set_ne (Ne.symm hj)] at hx
      exact Or.inr ⟨hj, hx⟩
  refine ⟨?_, ?_, ?_, ?_⟩
  · rw [m_up_n (Ne.symm z2)]
    exact h1
  · intro j b x hx
    rcases hat j b x hx with ⟨y1, y2, y3⟩ | ⟨y1, y2⟩
    · rw [y2, y3]
      exact ⟨m_up_s, z2, z3⟩
    · have hne : b ≠ a := fun z => y1 (h3 _ _ _ _ _ y2 (z ▸ hi))
      rw [m_up_n hne]
      exact h2 _ _ _ y2
  · intro j k b x x' hx hx'
    rcases hat j b x hx with ⟨y1, y2, y3⟩ | ⟨y1, y2⟩ <;> rcases hat k b x' hx' with ⟨w1, w2, w3⟩ | ⟨w1, w2⟩
    · rw [y1, w1]
    · exact absurd (h3 _ _ _ _ _ w2 (y2 ▸ hi)) w1
    · exact absurd (h3 _ _ _ _ _ y2 (w2 ▸ hi)) y1
    · exact h3 _ _ _ _ _ y2 w2
  · intro b x hx
    obtain ⟨y1, y2⟩ := h4 b x hx
    have hne : b ≠ a := by
      intro z
      rw [z, z3] at hx
      cases hx
    exact ⟨by rw [m_up_n hne]; exact y1, y2⟩
end MI
def q_ar0 : rA := fun f => if f = 2 then upd (fun _ => 0) 0 1 else if f = 4 then upd (fun _ => 0) 0 (-1) else if f = 10 then upd (fun _ => 0) 0 (-1) else if f = 11 then upd (fun _ => 0) 0 8 else fun _ => 0
theorem q_isA_c {f : Nat} (h : r_isA f = true) : f = 2 ∨ f = 3 ∨ f = 4 ∨ f = 5 ∨ f = 6 ∨ f = 7 ∨ f = 8 ∨ f = 9 ∨ f = 10 ∨ f = 11 ∨ f = 12 ∨ f = 13 ∨ f = 14 ∨ f = 16 ∨ f = 17 := by
  have hlt : f < 18 := by
    rcases Nat.lt_or_ge f 18 with z | z
    · exact z
    · simp [r_isA, Nat.not_lt.mpr z] at h
  match f, hlt, h with
  | 2, _, _ => omega
  | 3, _, _ => omega
  | 4, _, _ => omega
  | 5, _, _ => omega
  | 6, _, _ => omega
  | 7, _, _ => omega
  | 8, _, _ => omega
  | 9, _, _ => omega
  | 10, _, _ => omega
  | 11, _, _ => omega
  | 12, _, _ => omega
  | 13, _, _ => omega
  | 14, _, _ => omega
  | 16, _, _ => omega
  | 17, _, _ => omega
  | 0, _, h => exact absurd h (by decide)
  | 1, _, h => exact absurd h (by decide)
  | 15, _, h => exact absurd h (by decide)
  | n + 18, hlt, _ => omega
/-- where the constructor's list of arrays keeps the field f -/
def q_ix (f : Nat) : Nat := if f < 15 then f - 2 else f - 3
theorem q_ixi {f h : Nat} (hf : r_isA f = true) (hh : r_isA h = true) (e : q_ix f = q_ix h) : f = h := by
  rcases q_isA_c hf with z | z | z | z | z | z | z | z | z | z | z | z | z | z | z <;> rcases q_isA_c hh with y | y | y | y | y | y | y | y | y | y | y | y | y | y | y <;> subst z <;> subst y <;> first | rfl | (exact absurd e (by decide))

set_option maxHeartbeats 4000000 in
set_option maxRecDepth 100000 in
theorem c_X8_init (D : mD) (A : Nat → Prop) (l : Launch) {o : Nat} {F M : Mm} (hM : M o = some (.inr (10, q_d8))) (hF : ∀ (a : Nat) (x : va_E), F a = some x → M a = some x ∧ a ≠ o) : mMv D A l yX8_init wsX8_init ({ frames := 1, cells := 15, slots := 5512, locals := 40 } : Room) [.ref o] M (fun M' => ∃ G : Nat → Nat, rW D G o F 0 1 0 0 q_ar0 M') 15 5512 := by
  refine m_start (cc := cX8_init) (maxL := 1) (ret := none) (by decide) rfl (Nat.le_of_ble_eq_true rfl) ?_
  intro p e s m args below meth c C
  have i8 : ∀ w ∈ wsX80, w ∈ wsX8_init := by decide +kernel
  refine m_sub (L' := [(0, .ref o)]) [0] rfl ?_
  have hI : mI 10 o F q_d8 [] M := mI.fst (q0 := 0) hM hF
  refine m_aload_n C dX8_init_0 rfl 0 rfl ?_
  refine m_objInit C (by decide +kernel) (by decide +kernel) (by decide +kernel) (Nat.le_of_ble_eq_true rfl) (Nat.le_of_ble_eq_true rfl) dX8_init_1 ?_
  refine m_aload_n C dX8_init_4 rfl 0 rfl ?_
  refine m_iconst (v := 1) C dX8_init_5 (by decide) ?_
  refine m_put C hI.1 rfl i8 tyX8 tyX8_ok nmX8 1 (by decide) (by decide +kernel) (fun x h => h) rfl rfl rfl (Nat.le_of_ble_eq_true rfl) (e' := .inr (10, [.int 0, .int 1, .null, .null, .null, .null, .null, .null, .null, .null, .null, .null, .null, .null, .null, .int 0, .null, .null, .int 0])) rfl dX8_init_6 ?_
  have hI := hI.put (fs' := [.int 0, .int 1, .null, .null, .null, .null, .null, .null, .null, .null, .null, .null, .null, .null, .null, .int 0, .null, .null, .int 0])
  have hI : mI 10 o F [.int 0, .int 1, .null, .null, .null, .null, .null, .null, .null, .null, .null, .null, .null, .null, .null, .int 0, .null, .null, .int 0] [] _ := hI
  revert hI
  generalize m_up _ _ _ = M
  intro hI
  refine m_aload_n C dX8_init_9 rfl 0 rfl ?_
  refine m_bipush (v := 40) C dX8_init_10 (by decide) ?_
  refine m_newZ C (by decide +kernel) (N := 40) rfl (by decide) (Nat.le_of_ble_eq_true rfl) (Nat.le_of_ble_eq_true rfl) dX8_init_12 (fun q_1 hq_1 => ?_)
  have hI := hI.new (e := .inl (D.2.1 1, 40, .inl (fun _ => 0))) hq_1
  have hI : mI 10 o F [.int 0, .int 1, .null, .null, .null, .null, .null, .null, .null, .null, .null, .null, .null, .null, .null, .int 0, .null, .null, .int 0] [(q_1, .inl (D.2.1 1, 40, .inl (fun _ => 0)))] _ := hI
  revert hI
  generalize m_up _ _ _ = M
  intro hI
  refine m_putF C hI.1 rfl i8 tyX8 tyX8_ok nmX8 2 (by decide) (by decide +kernel) (fun x h => h) rfl rfl rfl rfl rfl (Nat.le_of_ble_eq_true rfl) (e' := .inr (10, [.int 0, .int 1, .ref q_1, .null, .null, .null, .null, .null, .null, .null, .null, .null, .null, .null, .null, .int 0, .null, .null, .int 0])) rfl dX8_init_14 ?_
  have hI := hI.put (fs' := [.int 0, .int 1, .ref q_1, .null, .null, .null, .null, .null, .null, .null, .null, .null, .null, .null, .null, .int 0, .null, .null, .int 0])
  have hI : mI 10 o F [.int 0, .int 1, .ref q_1, .null, .null, .null, .null, .null, .null, .null, .null, .null, .null, .null, .null, .int 0, .null, .null, .int 0] [(q_1, .inl (D.2.1 1, 40, .inl (fun _ => 0)))] _ := hI
  revert hI
  generalize m_up _ _ _ = M
  intro hI
  refine m_aload_n C dX8_init_17 rfl 0 rfl ?_
  refine m_bipush (v := 40) C dX8_init_18 (by decide) ?_
  refine m_newI C (by decide +kernel) (N := 40) rfl (by decide) (Nat.le_of_ble_eq_true rfl) (Nat.le_of_ble_eq_true rfl) dX8_init_20 (fun q_2 hq_2 => ?_)
  have hI := hI.new (e := .inl (D.2.1 0, 40, .inl (fun _ => 0))) hq_2
  have hI : mI 10 o F [.int 0, .int 1, .ref q_1, .null, .null, .null, .null, .null, .null, .null, .null, .null, .null, .null, .null, .int 0, .null, .null, .int 0] [(q_1, .inl (D.2.1 1, 40, .inl (fun _ => 0))), (q_2, .inl (D.2.1 0, 40, .inl (fun _ => 0)))] _ := hI
  revert hI
  generalize m_up _ _ _ = M
  intro hI
  refine m_putF C hI.1 rfl i8 tyX8 tyX8_ok nmX8 3 (by decide) (by decide +kernel) (fun x h => h) rfl rfl rfl rfl rfl (Nat.le_of_ble_eq_true rfl) (e' := .inr (10, [.int 0, .int 1, .ref q_1, .ref q_2, .null, .null, .null, .null, .null, .null, .null, .null, .null, .null, .null, .int 0, .null, .null, .int 0])) rfl dX8_init_22 ?_
  have hI := hI.put (fs' := [.int 0, .int 1, .ref q_1, .ref q_2, .null, .null, .null, .null, .null, .null, .null, .null, .null, .null, .null, .int 0, .null, .null, .int 0])
  have hI : mI 10 o F [.int 0, .int 1, .ref q_1, .ref q_2, .null, .null, .null, .null, .null, .null, .null, .null, .null, .null, .null, .int 0, .null, .null, .int 0] [(q_1, .inl (D.2.1 1, 40, .inl (fun _ => 0))), (q_2, .inl (D.2.1 0, 40, .inl (fun _ => 0)))] _ := hI
  revert hI
  generalize m_up _ _ _ = M
  intro hI
  refine m_aload_n C dX8_init_25 rfl 0 rfl ?_
  refine m_bipush (v := 40) C dX8_init_26 (by decide) ?_
  refine m_newI C (by decide +kernel) (N := 40) rfl (by decide) (Nat.le_of_ble_eq_true rfl) (Nat.le_of_ble_eq_true rfl) dX8_init_28 (fun q_3 hq_3 => ?_)
  have hI := hI.new (e := .inl (D.2.1 0, 40, .inl (fun _ => 0))) hq_3
  have hI : mI 10 o F [.int 0, .int 1, .ref q_1, .ref q_2, .null, .null, .null, .null, .null, .null, .null, .null, .null, .null, .null, .int 0, .null, .null, .int 0] [(q_1, .inl (D.2.1 1, 40, .inl (fun _ => 0))), (q_2, .inl (D.2.1 0, 40, .inl (fun _ => 0))), (q_3, .inl (D.2.1 0, 40, .inl (fun _ => 0)))] _ := hI
  revert hI
  generalize m_up _ _ _ = M
  intro hI
  refine m_putF C hI.1 rfl i8 tyX8 tyX8_ok nmX8 4 (by decide) (by decide +kernel) (fun x h => h) rfl rfl rfl rfl rfl (Nat.le_of_ble_eq_true rfl) (e' := .inr (10, [.int 0, .int 1, .ref q_1, .ref q_2, .ref q_3, .null, .null, .null, .null, .null, .null, .null, .null, .null, .null, .int 0, .null, .null, .int 0])) rfl dX8_init_30 ?_
  have hI := hI.put (fs' := [.int 0, .int 1, .ref q_1, .ref q_2, .ref q_3, .null, .null, .null, .null, .null, .null, .null, .null, .null, .null, .int 0, .null, .null, .int 0])
  have hI : mI 10 o F [.int 0, .int 1, .ref q_1, .ref q_2, .ref q_3, .null, .null, .null, .null, .null, .null, .null, .null, .null, .null, .int 0, .null, .null, .int 0] [(q_1, .inl (D.2.1 1, 40, .inl (fun _ => 0))), (q_2, .inl (D.2.1 0, 40, .inl (fun _ => 0))), (q_3, .inl (D.2.1 0, 40, .inl (fun _ => 0)))] _ := hI
  revert hI
  generalize m_up _ _ _ = M
  intro hI
  refine m_aload_n C dX8_init_33 rfl 0 rfl ?_
  refine m_bipush (v := 40) C dX8_init_34 (by decide) ?_
  refine m_newI C (by decide +kernel) (N := 40) rfl (by decide) (Nat.le_of_ble_eq_true rfl) (Nat.le_of_ble_eq_true rfl) dX8_init_36 (fun q_4 hq_4 => ?_)
  have hI := hI.new (e := .inl (D.2.1 0, 40, .inl (fun _ => 0))) hq_4
  have hI : mI 10 o F [.int 0, .int 1, .ref q_1, .ref q_2, .ref q_3, .null, .null, .null, .null, .null, .null, .null, .null, .null, .null, .int 0, .null, .null, .int 0] [(q_1, .inl (D.2.1 1, 40, .inl (fun _ => 0))), (q_2, .inl (D.2.1 0, 40, .inl (fun _ => 0))), (q_3, .inl (D.2.1 0, 40, .inl (fun _ => 0))), (q_4, .inl (D.2.1 0, 40, .inl (fun _ => 0)))] _ := hI
  revert hI
  generalize m_up _ _ _ = M
  intro hI
  refine m_putF C hI.1 rfl i8 tyX8 tyX8_ok nmX8 5 (by decide) (by decide +kernel) (fun x h => h) rfl rfl rfl rfl rfl (Nat.le_of_ble_eq_true rfl) (e' := .inr (10, [.int 0, .int 1, .ref q_1, .ref q_2, .ref q_3, .ref q_4, .null, .null, .null, .null, .null, .null, .null, .null, .null, .int 0, .null, .null, .int 0])) rfl dX8_init_38 ?_
  have hI := hI.put (fs' := [.int 0, .int 1, .ref q_1, .ref q_2, .ref q_3, .ref q_4, .null, .null, .null, .null, .null, .null, .null, .null, .null, .int 0, .null, .null, .int 0])
  have hI : mI 10 o F [.int 0, .int 1, .ref q_1, .ref q_2, .ref q_3, .ref q_4, .null, .null, .null, .null, .null, .null, .null, .null, .null, .int 0, .null, .null, .int 0] [(q_1, .inl (D.2.1 1, 40, .inl (fun _ => 0))), (q_2, .inl (D.2.1 0, 40, .inl (fun _ => 0))), (q_3, .inl (D.2.1 0, 40, .inl (fun _ => 0))), (q_4, .inl (D.2.1 0, 40, .inl (fun _ => 0)))] _ := hI
  revert hI
  generalize m_up _ _ _ = M
  intro hI
  refine m_aload_n C dX8_init_41 rfl 0 rfl ?_
  refine m_sipush (v := 1600) C dX8_init_42 (by decide) ?_
  refine m_newI C (by decide +kernel) (N := 1600) rfl (by decide) (Nat.le_of_ble_eq_true rfl) (Nat.le_of_ble_eq_true rfl) dX8_init_45 (fun q_5 hq_5 => ?_)
  have hI := hI.new (e := .inl (D.2.1 0, 1600, .inl (fun _ => 0))) hq_5
  have hI : mI 10 o F [.int 0, .int 1, .ref q_1, .ref q_2, .ref q_3, .ref q_4, .null, .null, .null, .null, .null, .null, .null, .null, .null, .int 0, .null, .null, .int 0] [(q_1, .inl (D.2.1 1, 40, .inl (fun _ => 0))), (q_2, .inl (D.2.1 0, 40, .inl (fun _ => 0))), (q_3, .inl (D.2.1 0, 40, .inl (fun _ => 0))), (q_4, .inl (D.2.1 0, 40, .inl (fun _ => 0))), (q_5, .inl (D.2.1 0, 1600, .inl (fun _ => 0)))] _ := hI
  revert hI
  generalize m_up _ _ _ = M
  intro hI
  refine m_putF C hI.1 rfl i8 tyX8 tyX8_ok nmX8 6 (by decide) (by decide +kernel) (fun x h => h) rfl rfl rfl rfl rfl (Nat.le_of_ble_eq_true rfl) (e' := .inr (10, [.int 0, .int 1, .ref q_1, .ref q_2, .ref q_3, .ref q_4, .ref q_5, .null, .null, .null, .null, .null, .null, .null, .null, .int 0, .null, .null, .int 0])) rfl dX8_init_47 ?_
  have hI := hI.put (fs' := [.int 0, .int 1, .ref q_1, .ref q_2, .ref q_3, .ref q_4, .ref q_5, .null, .null, .null, .null, .null, .null, .null, .null, .int 0, .null, .null, .int 0])
  have hI : mI 10 o F [.int 0, .int 1, .ref q_1, .ref q_2, .ref q_3, .ref q_4, .ref q_5, .null, .null, .null, .null, .null, .null, .null, .null, .int 0, .null, .null, .int 0] [(q_1, .inl (D.2.1 1, 40, .inl (fun _ => 0))), (q_2, .inl (D.2.1 0, 40, .inl (fun _ => 0))), (q_3, .inl (D.2.1 0, 40, .inl (fun _ => 0))), (q_4, .inl (D.2.1 0, 40, .inl (fun _ => 0))), (q_5, .inl (D.2.1 0, 1600, .inl (fun _ => 0)))] _ := hI
  revert hI
  generalize m_up _ _ _ = M
  intro hI
  refine m_aload_n C dX8_init_50 rfl 0 rfl ?_
  refine m_sipush (v := 240) C dX8_init_51 (by decide) ?_
  refine m_newI C (by decide +kernel) (N := 240) rfl (by decide) (Nat.le_of_ble_eq_true rfl) (Nat.le_of_ble_eq_true rfl) dX8_init_54 (fun q_6 hq_6 => ?_)
  have hI := hI.new (e := .inl (D.2.1 0, 240, .inl (fun _ => 0))) hq_6
  have hI : mI 10 o F [.int 0, .int 1, .ref q_1, .ref q_2, .ref q_3, .ref q_4, .ref q_5, .null, .null, .null, .null, .null, .null, .null, .null, .int 0, .null, .null, .int 0] [(q_1, .inl (D.2.1 1, 40, .inl (fun _ => 0))), (q_2, .inl (D.2.1 0, 40, .inl (fun _ => 0))), (q_3, .inl (D.2.1 0, 40, .inl (fun _ => 0))), (q_4, .inl (D.2.1 0, 40, .inl (fun _ => 0))), (q_5, .inl (D.2.1 0, 1600, .inl (fun _ => 0))), (q_6, .inl (D.2.1 0, 240, .inl (fun _ => 0)))] _ := hI
  revert hI
  generalize m_up _ _ _ = M
  intro hI
  refine m_putF C hI.1 rfl i8 tyX8 tyX8_ok nmX8 7 (by decide) (by decide +kernel) (fun x h => h) rfl rfl rfl rfl rfl (Nat.le_of_ble_eq_true rfl) (e' := .inr (10, [.int 0, .int 1, .ref q_1, .ref q_2, .ref q_3, .ref q_4, .ref q_5, .ref q_6, .null, .null, .null, .null, .null, .null, .null, .int 0, .null, .null, .int 0])) rfl dX8_init_56 ?_
  have hI := hI.put (fs' := [.int 0, .int 1, .ref q_1, .ref q_2, .ref q_3, .ref q_4, .ref q_5, .ref q_6, .null, .null, .null, .null, .null, .null, .null, .int 0, .null, .null, .int 0])
  have hI : mI 10 o F [.int 0, .int 1, .ref q_1, .ref q_2, .ref q_3, .ref q_4, .ref q_5, .ref q_6, .null, .null, .null, .null, .null, .null, .null, .int 0, .null, .null, .int 0] [(q_1, .inl (D.2.1 1, 40, .inl (fun _ => 0))), (q_2, .inl (D.2.1 0, 40, .inl (fun _ => 0))), (q_3, .inl (D.2.1 0, 40, .inl (fun _ => 0))), (q_4, .inl (D.2.1 0, 40, .inl (fun _ => 0))), (q_5, .inl (D.2.1 0, 1600, .inl (fun _ => 0))), (q_6, .inl (D.2.1 0, 240, .inl (fun _ => 0)))] _ := hI
  revert hI
  generalize m_up _ _ _ = M
  intro hI
  refine m_aload_n C dX8_init_59 rfl 0 rfl ?_
  refine m_bipush (v := 40) C dX8_init_60 (by decide) ?_
  refine m_newI C (by decide +kernel) (N := 40) rfl (by decide) (Nat.le_of_ble_eq_true rfl) (Nat.le_of_ble_eq_true rfl) dX8_init_62 (fun q_7 hq_7 => ?_)
  have hI := hI.new (e := .inl (D.2.1 0, 40, .inl (fun _ => 0))) hq_7
  have hI : mI 10 o F [.int 0, .int 1, .ref q_1, .ref q_2, .ref q_3, .ref q_4, .ref q_5, .ref q_6, .null, .null, .null, .null, .null, .null, .null, .int 0, .null, .null, .int 0] [(q_1, .inl (D.2.1 1, 40, .inl (fun _ => 0))), (q_2, .inl (D.2.1 0, 40, .inl (fun _ => 0))), (q_3, .inl (D.2.1 0, 40, .inl (fun _ => 0))), (q_4, .inl (D.2.1 0, 40, .inl (fun _ => 0))), (q_5, .inl (D.2.1 0, 1600, .inl (fun _ => 0))), (q_6, .inl (D.2.1 0, 240, .inl (fun _ => 0))), (q_7, .inl (D.2.1 0, 40, .inl (fun _ => 0)))] _ := hI
  revert hI
  generalize m_up _ _ _ = M
  intro hI
  refine m_putF C hI.1 rfl i8 tyX8 tyX8_ok nmX8 8 (by decide) (by decide +kernel) (fun x h => h) rfl rfl rfl rfl rfl (Nat.le_of_ble_eq_true rfl) (e' := .inr (10, [.int 0, .int 1, .ref q_1, .ref q_2, .ref q_3, .ref q_4, .ref q_5, .ref q_6, .ref q_7, .null, .null, .null, .null, .null, .null, .int 0, .null, .null, .int 0])) rfl dX8_init_64 ?_
  have hI := hI.put (fs' := [.int 0, .int 1, .ref q_1, .ref q_2, .ref q_3, .ref q_4, .ref q_5, .ref q_6, .ref q_7, .null, .null, .null, .null, .null, .null, .int 0, .null, .null, .int 0])
  have hI : mI 10 o F [.int 0, .int 1, .ref q_1, .ref q_2, .ref q_3, .ref q_4, .ref q_5, .ref q_6, .ref q_7, .null, .null, .null, .null, .null, .null, .int 0, .null, .null, .int 0] [(q_1, .inl (D.2.1 1, 40, .inl (fun _ => 0))), (q_2, .inl (D.2.1 0, 40, .inl (fun _ => 0))), (q_3, .inl (D.2.1 0, 40, .inl (fun _ => 0))), (q_4, .inl (D.2.1 0, 40, .inl (fun _ => 0))), (q_5, .inl (D.2.1 0, 1600, .inl (fun _ => 0))), (q_6, .inl (D.2.1 0, 240, .inl (fun _ => 0))), (q_7, .inl (D.2.1 0, 40, .inl (fun _ => 0)))] _ := hI
  revert hI
  generalize m_up _ _ _ = M
  intro hI
  refine m_aload_n C dX8_init_67 rfl 0 rfl ?_
  refine m_bipush (v := 40) C dX8_init_68 (by decide) ?_
  refine m_newI C (by decide +kernel) (N := 40) rfl (by decide) (Nat.le_of_ble_eq_true rfl) (Nat.le_of_ble_eq_true rfl) dX8_init_70 (fun q_8 hq_8 => ?_)
  have hI := hI.new (e := .inl (D.2.1 0, 40, .inl (fun _ => 0))) hq_8
  have hI : mI 10 o F [.int 0, .int 1, .ref q_1, .ref q_2, .ref q_3, .ref q_4, .ref q_5, .ref q_6, .ref q_7, .null, .null, .null, .null, .null, .null, .int 0, .null, .null, .int 0] [(q_1, .inl (D.2.1 1, 40, .inl (fun _ => 0))), (q_2, .inl (D.2.1 0, 40, .inl (fun _ => 0))), (q_3, .inl (D.2.1 0, 40, .inl (fun _ => 0))), (q_4, .inl (D.2.1 0, 40, .inl (fun _ => 0))), (q_5, .inl (D.2.1 0, 1600, .inl (fun _ => 0))), (q_6, .inl (D.2.1 0, 240, .inl (fun _ => 0))), (q_7, .inl (D.2.1 0, 40, .inl (fun _ => 0))), (q_8, .inl (D.2.1 0, 40, .inl (fun _ => 0)))] _ := hI
  revert hI
  generalize m_up _ _ _ = M
  intro hI
  refine m_putF C hI.1 rfl i8 tyX8 tyX8_ok nmX8 9 (by decide) (by decide +kernel) (fun x h => h) rfl rfl rfl rfl rfl (Nat.le_of_ble_eq_true rfl) (e' := .inr (10, [.int 0, .int 1, .ref q_1, .ref q_2, .ref q_3, .ref q_4, .ref q_5, .ref q_6, .ref q_7, .ref q_8, .null, .null, .null, .null, .null, .int 0, .null, .null, .int 0])) rfl dX8_init_72 ?_
  have hI := hI.put (fs' := [.int 0, .int 1, .ref q_1, .ref q_2, .ref q_3, .ref q_4, .ref q_5, .ref q_6, .ref q_7, .ref q_8, .null, .null, .null, .null, .null, .int 0, .null, .null, .int 0])
  have hI : mI 10 o F [.int 0, .int 1, .ref q_1, .ref q_2, .ref q_3, .ref q_4, .ref q_5, .ref q_6, .ref q_7, .ref q_8, .null, .null, .null, .null, .null, .int 0, .null, .null, .int 0] [(q_1, .inl (D.2.1 1, 40, .inl (fun _ => 0))), (q_2, .inl (D.2.1 0, 40, .inl (fun _ => 0))), (q_3, .inl (D.2.1 0, 40, .inl (fun _ => 0))), (q_4, .inl (D.2.1 0, 40, .inl (fun _ => 0))), (q_5, .inl (D.2.1 0, 1600, .inl (fun _ => 0))), (q_6, .inl (D.2.1 0, 240, .inl (fun _ => 0))), (q_7, .inl (D.2.1 0, 40, .inl (fun _ => 0))), (q_8, .inl (D.2.1 0, 40, .inl (fun _ => 0)))] _ := hI
  revert hI
  generalize m_up _ _ _ = M
  intro hI
  refine m_aload_n C dX8_init_75 rfl 0 rfl ?_
  refine m_bipush (v := 40) C dX8_init_76 (by decide) ?_
  refine m_newI C (by decide +kernel) (N := 40) rfl (by decide) (Nat.le_of_ble_eq_true rfl) (Nat.le_of_ble_eq_true rfl) dX8_init_78 (fun q_9 hq_9 => ?_)
  have hI := hI.new (e := .inl (D.2.1 0, 40, .inl (fun _ => 0))) hq_9
  have hI : mI 10 o F [.int 0, .int 1, .ref q_1, .ref q_2, .ref q_3, .ref q_4, .ref q_5, .ref q_6, .ref q_7, .ref q_8, .null, .null, .null, .null, .null, .int 0, .null, .null, .int 0] [(q_1, .inl (D.2.1 1, 40, .inl (fun _ => 0))), (q_2, .inl (D.2.1 0, 40, .inl (fun _ => 0))), (q_3, .inl (D.2.1 0, 40, .inl (fun _ => 0))), (q_4, .inl (D.2.1 0, 40, .inl (fun _ => 0))), (q_5, .inl (D.2.1 0, 1600, .inl (fun _ => 0))), (q_6, .inl (D.2.1 0, 240, .inl (fun _ => 0))), (q_7, .inl (D.2.1 0, 40, .inl (fun _ => 0))), (q_8, .inl (D.2.1 0, 40, .inl (fun _ => 0))), (q_9, .inl (D.2.1 0, 40, .inl (fun _ => 0)))] _ := hI
  revert hI
  generalize m_up _ _ _ = M
  intro hI
  refine m_putF C hI.1 rfl i8 tyX8 tyX8_ok nmX8 10 (by decide) (by decide +kernel) (fun x h => h) rfl rfl rfl rfl rfl (Nat.le_of_ble_eq_true rfl) (e' := .inr (10, [.int 0, .int 1, .ref q_1, .ref q_2, .ref q_3, .ref q_4, .ref q_5, .ref q_6, .ref q_7, .ref q_8, .ref q_9, .null, .null, .null, .null, .int 0, .null, .null, .int 0])) rfl dX8_init_80 ?_
  have hI := hI.put (fs' := [.int 0, .int 1, .ref q_1, .ref q_2, .ref q_3, .ref q_4, .ref q_5, .ref q_6, .ref q_7, .ref q_8, .ref q_9, .null, .null, .null, .null, .int 0, .null, .null, .int 0])
  have hI : mI 10 o F [.int 0, .int 1, .ref q_1, .ref q_2, .ref q_3, .ref q_4, .ref q_5, .ref q_6, .ref q_7, .ref q_8, .ref q_9, .null, .null, .null, .null, .int 0, .null, .null, .int 0] [(q_1, .inl (D.2.1 1, 40, .inl (fun _ => 0))), (q_2, .inl (D.2.1 0, 40, .inl (fun _ => 0))), (q_3, .inl (D.2.1 0, 40, .inl (fun _ => 0))), (q_4, .inl (D.2.1 0, 40, .inl (fun _ => 0))), (q_5, .inl (D.2.1 0, 1600, .inl (fun _ => 0))), (q_6, .inl (D.2.1 0, 240, .inl (fun _ => 0))), (q_7, .inl (D.2.1 0, 40, .inl (fun _ => 0))), (q_8, .inl (D.2.1 0, 40, .inl (fun _ => 0))), (q_9, .inl (D.2.1 0, 40, .inl (fun _ => 0)))] _ := hI
  revert hI
  generalize m_up _ _ _ = M
  intro hI
  refine m_aload_n C dX8_init_83 rfl 0 rfl ?_
  refine m_bipush (v := 40) C dX8_init_84 (by decide) ?_
  refine m_newI C (by decide +kernel) (N := 40) rfl (by decide) (Nat.le_of_ble_eq_true rfl) (Nat.le_of_ble_eq_true rfl) dX8_init_86 (fun q_10 hq_10 => ?_)
  have hI := hI.new (e := .inl (D.2.1 0, 40, .inl (fun _ => 0))) hq_10
  have hI : mI 10 o F [.int 0, .int 1, .ref q_1, .ref q_2, .ref q_3, .ref q_4, .ref q_5, .ref q_6, .ref q_7, .ref q_8, .ref q_9, .null, .null, .null, .null, .int 0, .null, .null, .int 0] [(q_1, .inl (D.2.1 1, 40, .inl (fun _ => 0))), (q_2, .inl (D.2.1 0, 40, .inl (fun _ => 0))), (q_3, .inl (D.2.1 0, 40, .inl (fun _ => 0))), (q_4, .inl (D.2.1 0, 40, .inl (fun _ => 0))), (q_5, .inl (D.2.1 0, 1600, .inl (fun _ => 0))), (q_6, .inl (D.2.1 0, 240, .inl (fun _ => 0))), (q_7, .inl (D.2.1 0, 40, .inl (fun _ => 0))), (q_8, .inl (D.2.1 0, 40, .inl (fun _ => 0))), (q_9, .inl (D.2.1 0, 40, .inl (fun _ => 0))), (q_10, .inl (D.2.1 0, 40, .inl (fun _ => 0)))] _ := hI
  revert hI
  generalize m_up _ _ _ = M
  intro hI
  refine m_putF C hI.1 rfl i8 tyX8 tyX8_ok nmX8 11 (by decide) (by decide +kernel) (fun x h => h) rfl rfl rfl rfl rfl (Nat.le_of_ble_eq_true rfl) (e' := .inr (10, [.int 0, .int 1, .ref q_1, .ref q_2, .ref q_3, .ref q_4, .ref q_5, .ref q_6, .ref q_7, .ref q_8, .ref q_9, .ref q_10, .null, .null, .null, .int 0, .null, .null, .int 0])) rfl dX8_init_88 ?_
  have hI := hI.put (fs' := [.int 0, .int 1, .ref q_1, .ref q_2, .ref q_3, .ref q_4, .ref q_5, .ref q_6, .ref q_7, .ref q_8, .ref q_9, .ref q_10, .null, .null, .null, .int 0, .null, .null, .int 0])
  have hI : mI 10 o F [.int 0, .int 1, .ref q_1, .ref q_2, .ref q_3, .ref q_4, .ref q_5, .ref q_6, .ref q_7, .ref q_8, .ref q_9, .ref q_10, .null, .null, .null, .int 0, .null, .null, .int 0] [(q_1, .inl (D.2.1 1, 40, .inl (fun _ => 0))), (q_2, .inl (D.2.1 0, 40, .inl (fun _ => 0))), (q_3, .inl (D.2.1 0, 40, .inl (fun _ => 0))), (q_4, .inl (D.2.1 0, 40, .inl (fun _ => 0))), (q_5, .inl (D.2.1 0, 1600, .inl (fun _ => 0))), (q_6, .inl (D.2.1 0, 240, .inl (fun _ => 0))), (q_7, .inl (D.2.1 0, 40, .inl (fun _ => 0))), (q_8, .inl (D.2.1 0, 40, .inl (fun _ => 0))), (q_9, .inl (D.2.1 0, 40, .inl (fun _ => 0))), (q_10, .inl (D.2.1 0, 40, .inl (fun _ => 0)))] _ := hI
  revert hI
  generalize m_up _ _ _ = M
  intro hI
  refine m_aload_n C dX8_init_91 rfl 0 rfl ?_
  refine m_bipush (v := 40) C dX8_init_92 (by decide) ?_
  refine m_newZ C (by decide +kernel) (N := 40) rfl (by decide) (Nat.le_of_ble_eq_true rfl) (Nat.le_of_ble_eq_true rfl) dX8_init_94 (fun q_11 hq_11 => ?_)
  have hI := hI.new (e := .inl (D.2.1 1, 40, .inl (fun _ => 0))) hq_11
  have hI : mI 10 o F [.int 0, .int 1, .ref q_1, .ref q_2, .ref q_3, .ref q_4, .ref q_5, .ref q_6, .ref q_7, .ref q_8, .ref q_9, .ref q_10, .null, .null, .null, .int 0, .null, .null, .int 0] [(q_1, .inl (D.2.1 1, 40, .inl (fun _ => 0))), (q_2, .inl (D.2.1 0, 40, .inl (fun _ => 0))), (q_3, .inl (D.2.1 0, 40, .inl (fun _ => 0))), (q_4, .inl (D.2.1 0, 40, .inl (fun _ => 0))), (q_5, .inl (D.2.1 0, 1600, .inl (fun _ => 0))), (q_6, .inl (D.2.1 0, 240, .inl (fun _ => 0))), (q_7, .inl (D.2.1 0, 40, .inl (fun _ => 0))), (q_8, .inl (D.2.1 0, 40, .inl (fun _ => 0))), (q_9, .inl (D.2.1 0, 40, .inl (fun _ => 0))), (q_10, .inl (D.2.1 0, 40, .inl (fun _ => 0))), (q_11, .inl (D.2.1 1, 40, .inl (fun _ => 0)))] _ := hI
  revert hI
  generalize m_up _ _ _ = M
  intro hI
  refine m_putF C hI.1 rfl i8 tyX8 tyX8_ok nmX8 12 (by decide) (by decide +kernel) (fun x h => h) rfl rfl rfl rfl rfl (Nat.le_of_ble_eq_true rfl) (e' := .inr (10, [.int 0, .int 1, .ref q_1, .ref q_2, .ref q_3, .ref q_4, .ref q_5, .ref q_6, .ref q_7, .ref q_8, .ref q_9, .ref q_10, .ref q_11, .null, .null, .int 0, .null, .null, .int 0])) rfl dX8_init_96 ?_
  have hI := hI.put (fs' := [.int 0, .int 1, .ref q_1, .ref q_2, .ref q_3, .ref q_4, .ref q_5, .ref q_6, .ref q_7, .ref q_8, .ref q_9, .ref q_10, .ref q_11, .null, .null, .int 0, .null, .null, .int 0])
  have hI : mI 10 o F [.int 0, .int 1, .ref q_1, .ref q_2, .ref q_3, .ref q_4, .ref q_5, .ref q_6, .ref q_7, .ref q_8, .ref q_9, .ref q_10, .ref q_11, .null, .null, .int 0, .null, .null, .int 0] [(q_1, .inl (D.2.1 1, 40, .inl (fun _ => 0))), (q_2, .inl (D.2.1 0, 40, .inl (fun _ => 0))), (q_3, .inl (D.2.1 0, 40, .inl (fun _ => 0))), (q_4, .inl (D.2.1 0, 40, .inl (fun _ => 0))), (q_5, .inl (D.2.1 0, 1600, .inl (fun _ => 0))), (q_6, .inl (D.2.1 0, 240, .inl (fun _ => 0))), (q_7, .inl (D.2.1 0, 40, .inl (fun _ => 0))), (q_8, .inl (D.2.1 0, 40, .inl (fun _ => 0))), (q_9, .inl (D.2.1 0, 40, .inl (fun _ => 0))), (q_10, .inl (D.2.1 0, 40, .inl (fun _ => 0))), (q_11, .inl (D.2.1 1, 40, .inl (fun _ => 0)))] _ := hI
  revert hI
  generalize m_up _ _ _ = M
  intro hI
  refine m_aload_n C dX8_init_99 rfl 0 rfl ?_
  refine m_bipush (v := 40) C dX8_init_100 (by decide) ?_
  refine m_newZ C (by decide +kernel) (N := 40) rfl (by decide) (Nat.le_of_ble_eq_true rfl) (Nat.le_of_ble_eq_true rfl) dX8_init_102 (fun q_12 hq_12 => ?_)
  have hI := hI.new (e := .inl (D.2.1 1, 40, .inl (fun _ => 0))) hq_12
  have hI : mI 10 o F [.int 0, .int 1, .ref q_1, .ref q_2, .ref q_3, .ref q_4, .ref q_5, .ref q_6, .ref q_7, .ref q_8, .ref q_9, .ref q_10, .ref q_11, .null, .null, .int 0, .null, .null, .int 0] [(q_1, .inl (D.2.1 1, 40, .inl (fun _ => 0))), (q_2, .inl (D.2.1 0, 40, .inl (fun _ => 0))), (q_3, .inl (D.2.1 0, 40, .inl (fun _ => 0))), (q_4, .inl (D.2.1 0, 40, .inl (fun _ => 0))), (q_5, .inl (D.2.1 0, 1600, .inl (fun _ => 0))), (q_6, .inl (D.2.1 0, 240, .inl (fun _ => 0))), (q_7, .inl (D.2.1 0, 40, .inl (fun _ => 0))), (q_8, .inl (D.2.1 0, 40, .inl (fun _ => 0))), (q_9, .inl (D.2.1 0, 40, .inl (fun _ => 0))), (q_10, .inl (D.2.1 0, 40, .inl (fun _ => 0))), (q_11, .inl (D.2.1 1, 40, .inl (fun _ => 0))), (q_12, .inl (D.2.1 1, 40, .inl (fun _ => 0)))] _ := hI
  revert hI
  generalize m_up _ _ _ = M
  intro hI
  refine m_putF C hI.1 rfl i8 tyX8 tyX8_ok nmX8 13 (by decide) (by decide +kernel) (fun x h => h) rfl rfl rfl rfl rfl (Nat.le_of_ble_eq_true rfl) (e' := .inr (10, [.int 0, .int 1, .ref q_1, .ref q_2, .ref q_3, .ref q_4, .ref q_5, .ref q_6, .ref q_7, .ref q_8, .ref q_9, .ref q_10, .ref q_11, .ref q_12, .null, .int 0, .null, .null, .int 0])) rfl dX8_init_104 ?_
  have hI := hI.put (fs' := [.int 0, .int 1, .ref q_1, .ref q_2, .ref q_3, .ref q_4, .ref q_5, .ref q_6, .ref q_7, .ref q_8, .ref q_9, .ref q_10, .ref q_11, .ref q_12, .null, .int 0, .null, .null, .int 0])
  have hI : mI 10 o F [.int 0, .int 1, .ref q_1, .ref q_2, .ref q_3, .ref q_4, .ref q_5, .ref q_6, .ref q_7, .ref q_8, .ref q_9, .ref q_10, .ref q_11, .ref q_12, .null, .int 0, .null, .null, .int 0] [(q_1, .inl (D.2.1 1, 40, .inl (fun _ => 0))), (q_2, .inl (D.2.1 0, 40, .inl (fun _ => 0))), (q_3, .inl (D.2.1 0, 40, .inl (fun _ => 0))), (q_4, .inl (D.2.1 0, 40, .inl (fun _ => 0))), (q_5, .inl (D.2.1 0, 1600, .inl (fun _ => 0))), (q_6, .inl (D.2.1 0, 240, .inl (fun _ => 0))), (q_7, .inl (D.2.1 0, 40, .inl (fun _ => 0))), (q_8, .inl (D.2.1 0, 40, .inl (fun _ => 0))), (q_9, .inl (D.2.1 0, 40, .inl (fun _ => 0))), (q_10, .inl (D.2.1 0, 40, .inl (fun _ => 0))), (q_11, .inl (D.2.1 1, 40, .inl (fun _ => 0))), (q_12, .inl (D.2.1 1, 40, .inl (fun _ => 0)))] _ := hI
  revert hI
  generalize m_up _ _ _ = M
  intro hI
  refine m_aload_n C dX8_init_107 rfl 0 rfl ?_
  refine m_sipush (v := 160) C dX8_init_108 (by decide) ?_
  refine m_newI C (by decide +kernel) (N := 160) rfl (by decide) (Nat.le_of_ble_eq_true rfl) (Nat.le_of_ble_eq_true rfl) dX8_init_111 (fun q_13 hq_13 => ?_)
  have hI := hI.new (e := .inl (D.2.1 0, 160, .inl (fun _ => 0))) hq_13
  have hI : mI 10 o F [.int 0, .int 1, .ref q_1, .ref q_2, .ref q_3, .ref q_4, .ref q_5, .ref q_6, .ref q_7, .ref q_8, .ref q_9, .ref q_10, .ref q_11, .ref q_12, .null, .int 0, .null, .null, .int 0] [(q_1, .inl (D.2.1 1, 40, .inl (fun _ => 0))), (q_2, .inl (D.2.1 0, 40, .inl (fun _ => 0))), (q_3, .inl (D.2.1 0, 40, .inl (fun _ => 0))), (q_4, .inl (D.2.1 0, 40, .inl (fun _ => 0))), (q_5, .inl (D.2.1 0, 1600, .inl (fun _ => 0))), (q_6, .inl (D.2.1 0, 240, .inl (fun _ => 0))), (q_7, .inl (D.2.1 0, 40, .inl (fun _ => 0))), (q_8, .inl (D.2.1 0, 40, .inl (fun _ => 0))), (q_9, .inl (D.2.1 0, 40, .inl (fun _ => 0))), (q_10, .inl (D.2.1 0, 40, .inl (fun _ => 0))), (q_11, .inl (D.2.1 1, 40, .inl (fun _ => 0))), (q_12, .inl (D.2.1 1, 40, .inl (fun _ => 0))), (q_13, .inl (D.2.1 0, 160, .inl (fun _ => 0)))] _ := hI
  revert hI
  generalize m_up _ _ _ = M
  intro hI
  refine m_putF C hI.1 rfl i8 tyX8 tyX8_ok nmX8 14 (by decide) (by decide +kernel) (fun x h => h) rfl rfl rfl rfl rfl (Nat.le_of_ble_eq_true rfl) (e' := .inr (10, [.int 0, .int 1, .ref q_1, .ref q_2, .ref q_3, .ref q_4, .ref q_5, .ref q_6, .ref q_7, .ref q_8, .ref q_9, .ref q_10, .ref q_11, .ref q_12, .ref q_13, .int 0, .null, .null, .int 0])) rfl dX8_init_113 ?_
  have hI := hI.put (fs' := [.int 0, .int 1, .ref q_1, .ref q_2, .ref q_3, .ref q_4, .ref q_5, .ref q_6, .ref q_7, .ref q_8, .ref q_9, .ref q_10, .ref q_11, .ref q_12, .ref q_13, .int 0, .null, .null, .int 0])
  have hI : mI 10 o F [.int 0, .int 1, .ref q_1, .ref q_2, .ref q_3, .ref q_4, .ref q_5, .ref q_6, .ref q_7, .ref q_8, .ref q_9, .ref q_10, .ref q_11, .ref q_12, .ref q_13, .int 0, .null, .null, .int 0] [(q_1, .inl (D.2.1 1, 40, .inl (fun _ => 0))), (q_2, .inl (D.2.1 0, 40, .inl (fun _ => 0))), (q_3, .inl (D.2.1 0, 40, .inl (fun _ => 0))), (q_4, .inl (D.2.1 0, 40, .inl (fun _ => 0))), (q_5, .inl (D.2.1 0, 1600, .inl (fun _ => 0))), (q_6, .inl (D.2.1 0, 240, .inl (fun _ => 0))), (q_7, .inl (D.2.1 0, 40, .inl (fun _ => 0))), (q_8, .inl (D.2.1 0, 40, .inl (fun _ => 0))), (q_9, .inl (D.2.1 0, 40, .inl (fun _ => 0))), (q_10, .inl (D.2.1 0, 40, .inl (fun _ => 0))), (q_11, .inl (D.2.1 1, 40, .inl (fun _ => 0))), (q_12, .inl (D.2.1 1, 40, .inl (fun _ => 0))), (q_13, .inl (D.2.1 0, 160, .inl (fun _ => 0)))] _ := hI
  revert hI
  generalize m_up _ _ _ = M
  intro hI
  refine m_aload_n C dX8_init_116 rfl 0 rfl ?_
  refine m_sipush (v := 3072) C dX8_init_117 (by decide) ?_
  refine m_newI C (by decide +kernel) (N := 3072) rfl (by decide) (Nat.le_of_ble_eq_true rfl) (Nat.le_of_ble_eq_true rfl) dX8_init_120 (fun q_14 hq_14 => ?_)
  have hI := hI.new (e := .inl (D.2.1 0, 3072, .inl (fun _ => 0))) hq_14
  have hI : mI 10 o F [.int 0, .int 1, .ref q_1, .ref q_2, .ref q_3, .ref q_4, .ref q_5, .ref q_6, .ref q_7, .ref q_8, .ref q_9, .ref q_10, .ref q_11, .ref q_12, .ref q_13, .int 0, .null, .null, .int 0] [(q_1, .inl (D.2.1 1, 40, .inl (fun _ => 0))), (q_2, .inl (D.2.1 0, 40, .inl (fun _ => 0))), (q_3, .inl (D.2.1 0, 40, .inl (fun _ => 0))), (q_4, .inl (D.2.1 0, 40, .inl (fun _ => 0))), (q_5, .inl (D.2.1 0, 1600, .inl (fun _ => 0))), (q_6, .inl (D.2.1 0, 240, .inl (fun _ => 0))), (q_7, .inl (D.2.1 0, 40, .inl (fun _ => 0))), (q_8, .inl (D.2.1 0, 40, .inl (fun _ => 0))), (q_9, .inl (D.2.1 0, 40, .inl (fun _ => 0))), (q_10, .inl (D.2.1 0, 40, .inl (fun _ => 0))), (q_11, .inl (D.2.1 1, 40, .inl (fun _ => 0))), (q_12, .inl (D.2.1 1, 40, .inl (fun _ => 0))), (q_13, .inl (D.2.1 0, 160, .inl (fun _ => 0))), (q_14, .inl (D.2.1 0, 3072, .inl (fun _ => 0)))] _ := hI
  revert hI
  generalize m_up _ _ _ = M
  intro hI
  refine m_putF C hI.1 rfl i8 tyX8 tyX8_ok nmX8 16 (by decide) (by decide +kernel) (fun x h => h) rfl rfl rfl rfl rfl (Nat.le_of_ble_eq_true rfl) (e' := .inr (10, [.int 0, .int 1, .ref q_1, .ref q_2, .ref q_3, .ref q_4, .ref q_5, .ref q_6, .ref q_7, .ref q_8, .ref q_9, .ref q_10, .ref q_11, .ref q_12, .ref q_13, .int 0, .ref q_14, .null, .int 0])) rfl dX8_init_122 ?_
  have hI := hI.put (fs' := [.int 0, .int 1, .ref q_1, .ref q_2, .ref q_3, .ref q_4, .ref q_5, .ref q_6, .ref q_7, .ref q_8, .ref q_9, .ref q_10, .ref q_11, .ref q_12, .ref q_13, .int 0, .ref q_14, .null, .int 0])
  have hI : mI 10 o F [.int 0, .int 1, .ref q_1, .ref q_2, .ref q_3, .ref q_4, .ref q_5, .ref q_6, .ref q_7, .ref q_8, .ref q_9, .ref q_10, .ref q_11, .ref q_12, .ref q_13, .int 0, .ref q_14, .null, .int 0] [(q_1, .inl (D.2.1 1, 40, .inl (fun _ => 0))), (q_2, .inl (D.2.1 0, 40, .inl (fun _ => 0))), (q_3, .inl (D.2.1 0, 40, .inl (fun _ => 0))), (q_4, .inl (D.2.1 0, 40, .inl (fun _ => 0))), (q_5, .inl (D.2.1 0, 1600, .inl (fun _ => 0))), (q_6, .inl (D.2.1 0, 240, .inl (fun _ => 0))), (q_7, .inl (D.2.1 0, 40, .inl (fun _ => 0))), (q_8, .inl (D.2.1 0, 40, .inl (fun _ => 0))), (q_9, .inl (D.2.1 0, 40, .inl (fun _ => 0))), (q_10, .inl (D.2.1 0, 40, .inl (fun _ => 0))), (q_11, .inl (D.2.1 1, 40, .inl (fun _ => 0))), (q_12, .inl (D.2.1 1, 40, .inl (fun _ => 0))), (q_13, .inl (D.2.1 0, 160, .inl (fun _ => 0))), (q_14, .inl (D.2.1 0, 3072, .inl (fun _ => 0)))] _ := hI
  revert hI
  generalize m_up _ _ _ = M
  intro hI
  refine m_aload_n C dX8_init_125 rfl 0 rfl ?_
  refine m_bipush (v := 40) C dX8_init_126 (by decide) ?_
  refine m_newI C (by decide +kernel) (N := 40) rfl (by decide) (Nat.le_of_ble_eq_true rfl) (Nat.le_of_ble_eq_true rfl) dX8_init_128 (fun q_15 hq_15 => ?_)
  have hI := hI.new (e := .inl (D.2.1 0, 40, .inl (fun _ => 0))) hq_15
  have hI : mI 10 o F [.int 0, .int 1, .ref q_1, .ref q_2, .ref q_3, .ref q_4, .ref q_5, .ref q_6, .ref q_7, .ref q_8, .ref q_9, .ref q_10, .ref q_11, .ref q_12, .ref q_13, .int 0, .ref q_14, .null, .int 0] [(q_1, .inl (D.2.1 1, 40, .inl (fun _ => 0))), (q_2, .inl (D.2.1 0, 40, .inl (fun _ => 0))), (q_3, .inl (D.2.1 0, 40, .inl (fun _ => 0))), (q_4, .inl (D.2.1 0, 40, .inl (fun _ => 0))), (q_5, .inl (D.2.1 0, 1600, .inl (fun _ => 0))), (q_6, .inl (D.2.1 0, 240, .inl (fun _ => 0))), (q_7, .inl (D.2.1 0, 40, .inl (fun _ => 0))), (q_8, .inl (D.2.1 0, 40, .inl (fun _ => 0))), (q_9, .inl (D.2.1 0, 40, .inl (fun _ => 0))), (q_10, .inl (D.2.1 0, 40, .inl (fun _ => 0))), (q_11, .inl (D.2.1 1, 40, .inl (fun _ => 0))), (q_12, .inl (D.2.1 1, 40, .inl (fun _ => 0))), (q_13, .inl (D.2.1 0, 160, .inl (fun _ => 0))), (q_14, .inl (D.2.1 0, 3072, .inl (fun _ => 0))), (q_15, .inl (D.2.1 0, 40, .inl (fun _ => 0)))] _ := hI
  revert hI
  generalize m_up _ _ _ = M
  intro hI
  refine m_putF C hI.1 rfl i8 tyX8 tyX8_ok nmX8 17 (by decide) (by decide +kernel) (fun x h => h) rfl rfl rfl rfl rfl (Nat.le_of_ble_eq_true rfl) (e' := .inr (10, [.int 0, .int 1, .ref q_1, .ref q_2, .ref q_3, .ref q_4, .ref q_5, .ref q_6, .ref q_7, .ref q_8, .ref q_9, .ref q_10, .ref q_11, .ref q_12, .ref q_13, .int 0, .ref q_14, .ref q_15, .int 0])) rfl dX8_init_130 ?_
  have hI := hI.put (fs' := [.int 0, .int 1, .ref q_1, .ref q_2, .ref q_3, .ref q_4, .ref q_5, .ref q_6, .ref q_7, .ref q_8, .ref q_9, .ref q_10, .ref q_11, .ref q_12, .ref q_13, .int 0, .ref q_14, .ref q_15, .int 0])
  have hI : mI 10 o F [.int 0, .int 1, .ref q_1, .ref q_2, .ref q_3, .ref q_4, .ref q_5, .ref q_6, .ref q_7, .ref q_8, .ref q_9, .ref q_10, .ref q_11, .ref q_12, .ref q_13, .int 0, .ref q_14, .ref q_15, .int 0] [(q_1, .inl (D.2.1 1, 40, .inl (fun _ => 0))), (q_2, .inl (D.2.1 0, 40, .inl (fun _ => 0))), (q_3, .inl (D.2.1 0, 40, .inl (fun _ => 0))), (q_4, .inl (D.2.1 0, 40, .inl (fun _ => 0))), (q_5, .inl (D.2.1 0, 1600, .inl (fun _ => 0))), (q_6, .inl (D.2.1 0, 240, .inl (fun _ => 0))), (q_7, .inl (D.2.1 0, 40, .inl (fun _ => 0))), (q_8, .inl (D.2.1 0, 40, .inl (fun _ => 0))), (q_9, .inl (D.2.1 0, 40, .inl (fun _ => 0))), (q_10, .inl (D.2.1 0, 40, .inl (fun _ => 0))), (q_11, .inl (D.2.1 1, 40, .inl (fun _ => 0))), (q_12, .inl (D.2.1 1, 40, .inl (fun _ => 0))), (q_13, .inl (D.2.1 0, 160, .inl (fun _ => 0))), (q_14, .inl (D.2.1 0, 3072, .inl (fun _ => 0))), (q_15, .inl (D.2.1 0, 40, .inl (fun _ => 0)))] _ := hI
  revert hI
  generalize m_up _ _ _ = M
  intro hI
  refine m_aload_n C dX8_init_133 rfl 0 rfl ?_
  refine m_get C hI.1 rfl i8 2 (by decide) (by decide +kernel) (fun x h => h) (v := .ref q_1) rfl dX8_init_134 ?_
  refine m_iconst (v := 0) C dX8_init_137 (by decide) ?_
  refine m_iconst (v := 1) C dX8_init_138 (by decide) ?_
  have hI0 := hI.2.1 0 _ _ rfl
  refine m_zast C hI0.1 (vp_in_nI (n := 0) (by decide) (by decide)) dX8_init_139 ?_
  rw [show (0 : Int32).toNatClampNeg = 0 from rfl]
  rw [show vp_nar .boolean 1 = 1 from rfl]
  clear hI0
  have hI := hI.arr (i := 0) (e' := .inl (D.2.1 1, 40, .inl (upd (fun _ => 0) 0 1))) rfl
  have hI : mI 10 o F [.int 0, .int 1, .ref q_1, .ref q_2, .ref q_3, .ref q_4, .ref q_5, .ref q_6, .ref q_7, .ref q_8, .ref q_9, .ref q_10, .ref q_11, .ref q_12, .ref q_13, .int 0, .ref q_14, .ref q_15, .int 0] [(q_1, .inl (D.2.1 1, 40, .inl (upd (fun _ => 0) 0 1))), (q_2, .inl (D.2.1 0, 40, .inl (fun _ => 0))), (q_3, .inl (D.2.1 0, 40, .inl (fun _ => 0))), (q_4, .inl (D.2.1 0, 40, .inl (fun _ => 0))), (q_5, .inl (D.2.1 0, 1600, .inl (fun _ => 0))), (q_6, .inl (D.2.1 0, 240, .inl (fun _ => 0))), (q_7, .inl (D.2.1 0, 40, .inl (fun _ => 0))), (q_8, .inl (D.2.1 0, 40, .inl (fun _ => 0))), (q_9, .inl (D.2.1 0, 40, .inl (fun _ => 0))), (q_10, .inl (D.2.1 0, 40, .inl (fun _ => 0))), (q_11, .inl (D.2.1 1, 40, .inl (fun _ => 0))), (q_12, .inl (D.2.1 1, 40, .inl (fun _ => 0))), (q_13, .inl (D.2.1 0, 160, .inl (fun _ => 0))), (q_14, .inl (D.2.1 0, 3072, .inl (fun _ => 0))), (q_15, .inl (D.2.1 0, 40, .inl (fun _ => 0)))] _ := hI
  revert hI
  generalize m_up _ _ _ = M
  intro hI
  refine m_aload_n C dX8_init_140 rfl 0 rfl ?_
  refine m_get C hI.1 rfl i8 4 (by decide) (by decide +kernel) (fun x h => h) (v := .ref q_3) rfl dX8_init_141 ?_
  refine m_iconst (v := 0) C dX8_init_144 (by decide) ?_
  refine m_iconst (v := (-1)) C dX8_init_145 (by decide) ?_
  have hI0 := hI.2.1 2 _ _ rfl
  refine m_iast C hI0.1 (vp_in_nI (n := 0) (by decide) (by decide)) dX8_init_146 ?_
  rw [show (0 : Int32).toNatClampNeg = 0 from rfl]
  clear hI0
  have hI := hI.arr (i := 2) (e' := .inl (D.2.1 0, 40, .inl (upd (fun _ => 0) 0 (-1)))) rfl
  have hI : mI 10 o F [.int 0, .int 1, .ref q_1, .ref q_2, .ref q_3, .ref q_4, .ref q_5, .ref q_6, .ref q_7, .ref q_8, .ref q_9, .ref q_10, .ref q_11, .ref q_12, .ref q_13, .int 0, .ref q_14, .ref q_15, .int 0] [(q_1, .inl (D.2.1 1, 40, .inl (upd (fun _ => 0) 0 1))), (q_2, .inl (D.2.1 0, 40, .inl (fun _ => 0))), (q_3, .inl (D.2.1 0, 40, .inl (upd (fun _ => 0) 0 (-1)))), (q_4, .inl (D.2.1 0, 40, .inl (fun _ => 0))), (q_5, .inl (D.2.1 0, 1600, .inl (fun _ => 0))), (q_6, .inl (D.2.1 0, 240, .inl (fun _ => 0))), (q_7, .inl (D.2.1 0, 40, .inl (fun _ => 0))), (q_8, .inl (D.2.1 0, 40, .inl (fun _ => 0))), (q_9, .inl (D.2.1 0, 40, .inl (fun _ => 0))), (q_10, .inl (D.2.1 0, 40, .inl (fun _ => 0))), (q_11, .inl (D.2.1 1, 40, .inl (fun _ => 0))), (q_12, .inl (D.2.1 1, 40, .inl (fun _ => 0))), (q_13, .inl (D.2.1 0, 160, .inl (fun _ => 0))), (q_14, .inl (D.2.1 0, 3072, .inl (fun _ => 0))), (q_15, .inl (D.2.1 0, 40, .inl (fun _ => 0)))] _ := hI
  revert hI
  generalize m_up _ _ _ = M
  intro hI
  refine m_aload_n C dX8_init_147 rfl 0 rfl ?_
  refine m_get C hI.1 rfl i8 10 (by decide) (by decide +kernel) (fun x h => h) (v := .ref q_9) rfl dX8_init_148 ?_
  refine m_iconst (v := 0) C dX8_init_151 (by decide) ?_
  refine m_iconst (v := (-1)) C dX8_init_152 (by decide) ?_
  have hI0 := hI.2.1 8 _ _ rfl
  refine m_iast C hI0.1 (vp_in_nI (n := 0) (by decide) (by decide)) dX8_init_153 ?_
  rw [show (0 : Int32).toNatClampNeg = 0 from rfl]
  clear hI0
  have hI := hI.arr (i := 8) (e' := .inl (D.2.1 0, 40, .inl (upd (fun _ => 0) 0 (-1)))) rfl
  have hI : mI 10 o F [.int 0, .int 1, .ref q_1, .ref q_2, .ref q_3, .ref q_4, .ref q_5, .ref q_6, .ref q_7, .ref q_8, .ref q_9, .ref q_10, .ref q_11, .ref q_12, .ref q_13, .int 0, .ref q_14, .ref q_15, .int 0] [(q_1, .inl (D.2.1 1, 40, .inl (upd (fun _ => 0) 0 1))), (q_2, .inl (D.2.1 0, 40, .inl (fun _ => 0))), (q_3, .inl (D.2.1 0, 40, .inl (upd (fun _ => 0) 0 (-1)))), (q_4, .inl (D.2.1 0, 40, .inl (fun _ => 0))), (q_5, .inl (D.2.1 0, 1600, .inl (fun _ => 0))), (q_6, .inl (D.2.1 0, 240, .inl (fun _ => 0))), (q_7, .inl (D.2.1 0, 40, .inl (fun _ => 0))), (q_8, .inl (D.2.1 0, 40, .inl (fun _ => 0))), (q_9, .inl (D.2.1 0, 40, .inl (upd (fun _ => 0) 0 (-1)))), (q_10, .inl (D.2.1 0, 40, .inl (fun _ => 0))), (q_11, .inl (D.2.1 1, 40, .inl (fun _ => 0))), (q_12, .inl (D.2.1 1, 40, .inl (fun _ => 0))), (q_13, .inl (D.2.1 0, 160, .inl (fun _ => 0))), (q_14, .inl (D.2.1 0, 3072, .inl (fun _ => 0))), (q_15, .inl (D.2.1 0, 40, .inl (fun _ => 0)))] _ := hI
  revert hI
  generalize m_up _ _ _ = M
  intro hI
  refine m_aload_n C dX8_init_154 rfl 0 rfl ?_
  refine m_get C hI.1 rfl i8 11 (by decide) (by decide +kernel) (fun x h => h) (v := .ref q_10) rfl dX8_init_155 ?_
  refine m_iconst (v := 0) C dX8_init_158 (by decide) ?_
  refine m_bipush (v := 8) C dX8_init_159 (by decide) ?_
  have hI0 := hI.2.1 9 _ _ rfl
  refine m_iast C hI0.1 (vp_in_nI (n := 0) (by decide) (by decide)) dX8_init_161 ?_
  rw [show (0 : Int32).toNatClampNeg = 0 from rfl]
  clear hI0
  have hI := hI.arr (i := 9) (e' := .inl (D.2.1 0, 40, .inl (upd (fun _ => 0) 0 8))) rfl
  have hI : mI 10 o F [.int 0, .int 1, .ref q_1, .ref q_2, .ref q_3, .ref q_4, .ref q_5, .ref q_6, .ref q_7, .ref q_8, .ref q_9, .ref q_10, .ref q_11, .ref q_12, .ref q_13, .int 0, .ref q_14, .ref q_15, .int 0] [(q_1, .inl (D.2.1 1, 40, .inl (upd (fun _ => 0) 0 1))), (q_2, .inl (D.2.1 0, 40, .inl (fun _ => 0))), (q_3, .inl (D.2.1 0, 40, .inl (upd (fun _ => 0) 0 (-1)))), (q_4, .inl (D.2.1 0, 40, .inl (fun _ => 0))), (q_5, .inl (D.2.1 0, 1600, .inl (fun _ => 0))), (q_6, .inl (D.2.1 0, 240, .inl (fun _ => 0))), (q_7, .inl (D.2.1 0, 40, .inl (fun _ => 0))), (q_8, .inl (D.2.1 0, 40, .inl (fun _ => 0))), (q_9, .inl (D.2.1 0, 40, .inl (upd (fun _ => 0) 0 (-1)))), (q_10, .inl (D.2.1 0, 40, .inl (upd (fun _ => 0) 0 8))), (q_11, .inl (D.2.1 1, 40, .inl (fun _ => 0))), (q_12, .inl (D.2.1 1, 40, .inl (fun _ => 0))), (q_13, .inl (D.2.1 0, 160, .inl (fun _ => 0))), (q_14, .inl (D.2.1 0, 3072, .inl (fun _ => 0))), (q_15, .inl (D.2.1 0, 40, .inl (fun _ => 0)))] _ := hI
  revert hI
  generalize m_up _ _ _ = M
  intro hI
  refine m_vret C (Nat.le_of_ble_eq_true rfl) (Nat.le_of_ble_eq_true rfl) dX8_init_162 ?_
  obtain ⟨P9, hP9⟩ : ∃ z : List (Nat × va_E), z = [(q_1, .inl (D.2.1 1, 40, .inl (upd (fun _ => 0) 0 1))), (q_2, .inl (D.2.1 0, 40, .inl (fun _ => 0))), (q_3, .inl (D.2.1 0, 40, .inl (upd (fun _ => 0) 0 (-1)))), (q_4, .inl (D.2.1 0, 40, .inl (fun _ => 0))), (q_5, .inl (D.2.1 0, 1600, .inl (fun _ => 0))), (q_6, .inl (D.2.1 0, 240, .inl (fun _ => 0))), (q_7, .inl (D.2.1 0, 40, .inl (fun _ => 0))), (q_8, .inl (D.2.1 0, 40, .inl (fun _ => 0))), (q_9, .inl (D.2.1 0, 40, .inl (upd (fun _ => 0) 0 (-1)))), (q_10, .inl (D.2.1 0, 40, .inl (upd (fun _ => 0) 0 8))), (q_11, .inl (D.2.1 1, 40, .inl (fun _ => 0))), (q_12, .inl (D.2.1 1, 40, .inl (fun _ => 0))), (q_13, .inl (D.2.1 0, 160, .inl (fun _ => 0))), (q_14, .inl (D.2.1 0, 3072, .inl (fun _ => 0))), (q_15, .inl (D.2.1 0, 40, .inl (fun _ => 0)))] := ⟨_, rfl⟩
  rw [← hP9] at hI
  refine ⟨fun f => (P9.getD (q_ix f) (0, .inr (0, []))).1, ?_, ?_, ?_, ?_⟩
  · rw [hP9]; exact hI.1
  · intro f hf
    rcases q_isA_c hf with z | z | z | z | z | z | z | z | z | z | z | z | z | z | z <;> subst z
    · rw [hP9]; exact (hI.2.1 0 _ _ (by rw [hP9]; rfl)).1
    · rw [hP9]; exact (hI.2.1 1 _ _ (by rw [hP9]; rfl)).1
    · rw [hP9]; exact (hI.2.1 2 _ _ (by rw [hP9]; rfl)).1
    · rw [hP9]; exact (hI.2.1 3 _ _ (by rw [hP9]; rfl)).1
    · rw [hP9]; exact (hI.2.1 4 _ _ (by rw [hP9]; rfl)).1
    · rw [hP9]; exact (hI.2.1 5 _ _ (by rw [hP9]; rfl)).1
    · rw [hP9]; exact (hI.2.1 6 _ _ (by rw [hP9]; rfl)).1
    · rw [hP9]; exact (hI.2.1 7 _ _ (by rw [hP9]; rfl)).1
    · rw [hP9]; exact (hI.2.1 8 _ _ (by rw [hP9]; rfl)).1
    · rw [hP9]; exact (hI.2.1 9 _ _ (by rw [hP9]; rfl)).1
    · rw [hP9]; exact (hI.2.1 10 _ _ (by rw [hP9]; rfl)).1
    · rw [hP9]; exact (hI.2.1 11 _ _ (by rw [hP9]; rfl)).1
    · rw [hP9]; exact (hI.2.1 12 _ _ (by rw [hP9]; rfl)).1
    · rw [hP9]; exact (hI.2.1 13 _ _ (by rw [hP9]; rfl)).1
    · rw [hP9]; exact (hI.2.1 14 _ _ (by rw [hP9]; rfl)).1
  · intro f h hf hh e9
    refine q_ixi hf hh ?_
    have hx : ∀ g, r_isA g = true → ∃ e, P9[q_ix g]? = some ((P9.getD (q_ix g) (0, .inr (0, []))).1, e) := by
      intro g hg
      rcases q_isA_c hg with z | z | z | z | z | z | z | z | z | z | z | z | z | z | z <;> subst z <;> rw [hP9] <;> exact ⟨_, rfl⟩
    obtain ⟨e1, h1⟩ := hx f hf
    obtain ⟨e2, h2⟩ := hx h hh
    rw [show (P9.getD (q_ix h) (0, .inr (0, []))).1 = (P9.getD (q_ix f) (0, .inr (0, []))).1 from e9.symm] at h2
    exact hI.2.2.1 _ _ _ _ _ h1 h2
  · intro a x hx
    refine ⟨(hI.2.2.2 a x hx).1, (hI.2.2.2 a x hx).2, fun f hf z => ?_⟩
    have hx2 : ∃ e, P9[q_ix f]? = some ((P9.getD (q_ix f) (0, .inr (0, []))).1, e) := by
      rcases q_isA_c hf with z | z | z | z | z | z | z | z | z | z | z | z | z | z | z <;> subst z <;> rw [hP9] <;> exact ⟨_, rfl⟩
    obtain ⟨e1, h1⟩ := hx2
    have := (hI.2.1 _ _ _ h1).2.2
    rw [show (P9.getD (q_ix f) (0, .inr (0, []))).1 = a from z.symm, hx] at this
    cases this
