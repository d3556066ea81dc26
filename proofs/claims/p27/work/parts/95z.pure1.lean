/-! ===== p27: what a drawing's values are bounded by; what is hit ===== -/
/-- the paints' bounds -/
def PB (ar : rA) : Prop := ∀ n, (ar 10 n = -1 ∨ ∃ b, b ≤ 255 ∧ ar 10 n = nI b) ∧ (∃ c, c ≤ 8 ∧ ar 11 n = nI c) ∧ (ar 12 n = 0 ∨ ar 12 n = 1)
theorem pb_mul8 {a c : Nat} (ha : a ≤ 8) (hc : c ≤ 8) : a * c ≤ 64 := Nat.mul_le_mul ha hc
theorem pb_fill {ar : rA} (h : PB ar) : ∀ l : List Nat, ∃ b, b ≤ 255 ∧ q_fill ar l = nI b
  | [] => ⟨255, Nat.le_refl _, rfl⟩
  | a :: t => by
    unfold q_fill
    by_cases z : ar 10 a = -1
    · rw [if_pos z]; exact pb_fill h t
    · rw [if_neg z]
      rcases (h a).1 with y | y
      · exact absurd y z
      · exact y
theorem pb_str {ar : rA} (h : PB ar) : ∀ l : List Nat, ∃ c, c ≤ 8 ∧ q_str ar l = nI c
  | [] => ⟨8, Nat.le_refl _, rfl⟩
  | a :: t => by
    obtain ⟨c, h1, h2⟩ := pb_str h t
    obtain ⟨d, h3, h4⟩ := (h a).2.1
    have hm := pb_mul8 h1 h3
    refine ⟨c * d / 8, by omega, ?_⟩
    show q_str ar t * ar 11 a / 8 = _
    rw [h2, h4, pk_mul]
    exact pk_div (d := 8) (by omega) (by decide) (by decide)
theorem pb_lay {a b c : Nat} (ha : a ≤ 255) (hb : b ≤ 255) (hc : c ≤ 8) : (nI a * (8 - nI c) + nI b * nI c) / 8 = nI ((a * (8 - c) + b * c) / 8) := by
  have h1 : a * (8 - c) ≤ 255 * 8 := Nat.mul_le_mul ha (by omega)
  have h2 : b * c ≤ 255 * 8 := Nat.mul_le_mul hb hc
  rw [show (8 : Int32) - nI c = nI (8 - c) from pk_sub hc, pk_mul, pk_mul, nI_add]
  exact pk_div (d := 8) (by omega) (by decide) (by decide)
theorem pb_btw {a b c lo hi : Nat} (hc : c ≤ 8) (h1 : lo ≤ a) (h2 : a ≤ hi) (h3 : lo ≤ b) (h4 : b ≤ hi) : lo ≤ (a * (8 - c) + b * c) / 8 ∧ (a * (8 - c) + b * c) / 8 ≤ hi := by
  rcases (show c = 0 ∨ c = 1 ∨ c = 2 ∨ c = 3 ∨ c = 4 ∨ c = 5 ∨ c = 6 ∨ c = 7 ∨ c = 8 by omega) with rfl | rfl | rfl | rfl | rfl | rfl | rfl | rfl | rfl <;> omega
theorem pb_val {ar : rA} (h : PB ar) {px py : Int32} {lo hi : Nat} (h255 : hi ≤ 255) : ∀ (L : List Nat) (a : Nat), lo ≤ a → a ≤ hi → (∀ n ∈ L, q_shown ar n px py = true → ∃ b, lo ≤ b ∧ b ≤ hi ∧ q_fn ar n = nI b) → ∃ v, lo ≤ v ∧ v ≤ hi ∧ q_val ar (nI a) L px py = nI v
  | [], a, h1, h2, _ => ⟨a, h1, h2, rfl⟩
  | n :: t, a, h1, h2, h3 => by
    show ∃ v, lo ≤ v ∧ v ≤ hi ∧ q_val ar (q_mix ar px py (nI a) n) t px py = nI v
    unfold q_mix
    by_cases z : q_shown ar n px py = true
    · rw [if_pos z]
      obtain ⟨b, b1, b2, b3⟩ := h3 n List.mem_cons_self z
      obtain ⟨c, c1, c2⟩ := pb_str h (chn ar n)
      have e : q_lay ar (nI a) n = nI ((a * (8 - c) + b * c) / 8) := by
        unfold q_lay q_sn
        rw [b3, c2]
        exact pb_lay (by omega) (by omega) c1
      obtain ⟨d1, d2⟩ := pb_btw c1 h1 h2 b1 b2
      rw [e]
      exact pb_val h h255 t _ d1 d2 (fun m hm => h3 m (List.mem_cons_of_mem _ hm))
    · rw [if_neg z]
      exact pb_val h h255 t a h1 h2 (fun m hm => h3 m (List.mem_cons_of_mem _ hm))
/-- where nothing shows, the value is the ground's -/
theorem val_none {ar : rA} {g px py : Int32} : ∀ L : List Nat, q_any ar L px py = false → q_val ar g L px py = g
  | [], _ => rfl
  | n :: t, h => by
    rw [q_any, List.any_cons, Bool.or_eq_false_iff] at h
    show q_val ar (q_mix ar px py g n) t px py = g
    unfold q_mix
    rw [if_neg (by rw [h.1]; decide)]
    exact val_none t h.2
/-- what is hit -/
theorem hit_sp {ar : rA} {px py : Int32} : ∀ (L : List Nat) (r : Int32), let f := fun (r : Int32) n => if (q_shown ar n px py && decide (0 < q_sn ar n)) = true then nI n else r; (L.foldl f r = r ∧ ∀ n ∈ L, q_shown ar n px py = true → ¬ 0 < q_sn ar n) ∨ ∃ n ∈ L, L.foldl f r = nI n ∧ q_shown ar n px py = true ∧ 0 < q_sn ar n
  | [], r => Or.inl ⟨rfl, fun n hn => absurd hn List.not_mem_nil⟩
  | n :: t, r => by
    intro f
    by_cases z : (q_shown ar n px py && decide (0 < q_sn ar n)) = true
    · have e : f r n = nI n := if_pos z
      rw [Bool.and_eq_true, decide_eq_true_eq] at z
      rcases hit_sp (ar := ar) (px := px) (py := py) t (nI n) with ⟨h1, -⟩ | ⟨m, m1, m2, m3⟩
      · exact Or.inr ⟨n, List.mem_cons_self, by rw [List.foldl_cons, e]; exact h1, z.1, z.2⟩
      · exact Or.inr ⟨m, List.mem_cons_of_mem _ m1, by rw [List.foldl_cons, e]; exact m2, m3⟩
    · have e : f r n = r := if_neg z
      rcases hit_sp (ar := ar) (px := px) (py := py) t r with ⟨h1, h2⟩ | ⟨m, m1, m2, m3⟩
      · refine Or.inl ⟨by rw [List.foldl_cons, e]; exact h1, fun m hm hs => ?_⟩
        rcases List.mem_cons.mp hm with y | y
        · rw [y] at hs ⊢
          intro hp
          exact z (by rw [hs, Bool.true_and]; exact decide_eq_true hp)
        · exact h2 m y hs
      · exact Or.inr ⟨m, List.mem_cons_of_mem _ m1, by rw [List.foldl_cons, e]; exact m2, m3⟩
theorem hit_L {ar : rA} {px py : Int32} (L : List Nat) : (q_hitL ar L px py = -1 ∧ ∀ n ∈ L, q_shown ar n px py = true → ¬ 0 < q_sn ar n) ∨ ∃ n ∈ L, q_hitL ar L px py = nI n ∧ q_shown ar n px py = true ∧ 0 < q_sn ar n := hit_sp L (-1)
theorem pb_sn0 {ar : rA} (h : PB ar) {n : Nat} (hz : ¬ 0 < q_sn ar n) : q_sn ar n = 0 := by
  obtain ⟨c, c1, c2⟩ := pb_str h (chn ar n)
  have e : q_sn ar n = nI c := c2
  rw [e] at hz ⊢
  rcases Nat.eq_zero_or_pos c with z | z
  · rw [z]; rfl
  · exact absurd (nI_lt (a := 0) z (by omega)) hz
theorem val_st0 {ar : rA} (h : PB ar) {px py : Int32} : ∀ (L : List Nat) (a : Nat), a ≤ 255 → (∀ n ∈ L, q_shown ar n px py = true → ¬ 0 < q_sn ar n) → q_val ar (nI a) L px py = nI a
  | [], a, _, _ => rfl
  | n :: t, a, h1, h2 => by
    show q_val ar (q_mix ar px py (nI a) n) t px py = nI a
    have e : q_mix ar px py (nI a) n = nI a := by
      unfold q_mix
      by_cases z : q_shown ar n px py = true
      · rw [if_pos z]
        obtain ⟨b, b1, b2⟩ := pb_fill h (chn ar n)
        have e0 := pb_sn0 h (h2 n List.mem_cons_self z)
        have e1 : q_lay ar (nI a) n = nI ((a * (8 - 0) + b * 0) / 8) := by
          unfold q_lay
          rw [e0, show q_fn ar n = nI b from b2]
          exact pb_lay (c := 0) h1 b1 (Nat.zero_le _)
        rw [e1]
        congr 1
        omega
      · rw [if_neg z]
    rw [e]
    exact val_st0 h t a h1 (fun m hm => h2 m (List.mem_cons_of_mem _ hm))
/-- all opacities 8 -/
theorem str_8 {ar : rA} : ∀ l : List Nat, (∀ a ∈ l, ar 11 a = 8) → q_str ar l = 8
  | [], _ => rfl
  | a :: t, h => by
    show q_str ar t * ar 11 a / 8 = 8
    rw [str_8 t (fun b hb => h b (List.mem_cons_of_mem _ hb)), h a List.mem_cons_self]
    decide
theorem val_8 {ar : rA} (h : PB ar) {px py : Int32} : ∀ (L : List Nat), (∀ n ∈ L, q_sn ar n = 8) → ∀ (r : Int32) (a : Nat), a ≤ 255 → let f := fun (r : Int32) n => if (q_shown ar n px py && decide (0 < q_sn ar n)) = true then nI n else r; (L.foldl f r = r ∧ q_val ar (nI a) L px py = nI a) ∨ ∃ n ∈ L, L.foldl f r = nI n ∧ q_val ar (nI a) L px py = q_fn ar n
  | [], _, r, a, _ => Or.inl ⟨rfl, rfl⟩
  | n :: t, h8, r, a, ha => by
    intro f
    show (t.foldl f (f r n) = r ∧ q_val ar (q_mix ar px py (nI a) n) t px py = nI a) ∨ ∃ m ∈ n :: t, t.foldl f (f r n) = nI m ∧ q_val ar (q_mix ar px py (nI a) n) t px py = q_fn ar m
    have e8 := h8 n List.mem_cons_self
    by_cases z : q_shown ar n px py = true
    · have e : f r n = nI n := if_pos (by rw [z, e8]; decide)
      obtain ⟨b, b1, b2⟩ := pb_fill h (chn ar n)
      have e2 : q_fn ar n = nI b := b2
      have e1 : q_mix ar px py (nI a) n = nI b := by
        unfold q_mix
        rw [if_pos z]
        unfold q_lay
        rw [e8, e2, show (8 : Int32) = nI 8 from rfl]
        have e3 := pb_lay (c := 8) ha b1 (Nat.le_refl _)
        refine e3.trans ?_
        congr 1
        omega
      rw [e, e1]
      rcases val_8 h t (fun m hm => h8 m (List.mem_cons_of_mem _ hm)) (nI n) b b1 with ⟨h1, h2⟩ | ⟨m, m1, m2, m3⟩
      · exact Or.inr ⟨n, List.mem_cons_self, h1, by rw [h2, e2]⟩
      · exact Or.inr ⟨m, List.mem_cons_of_mem _ m1, m2, m3⟩
    · have e : f r n = r := if_neg (by rw [Bool.and_eq_true]; exact fun y => z y.1)
      have e1 : q_mix ar px py (nI a) n = nI a := by
        unfold q_mix
        rw [if_neg z]
      rw [e, e1]
      rcases val_8 h t (fun m hm => h8 m (List.mem_cons_of_mem _ hm)) r a ha with ⟨h1, h2⟩ | ⟨m, m1, m2, m3⟩
      · exact Or.inl ⟨h1, h2⟩
      · exact Or.inr ⟨m, List.mem_cons_of_mem _ m1, m2, m3⟩
theorem val_8L {ar : rA} (h : PB ar) {px py : Int32} {L : List Nat} (h8 : ∀ n ∈ L, q_sn ar n = 8) {a : Nat} (ha : a ≤ 255) : (q_hitL ar L px py = -1 ∧ q_val ar (nI a) L px py = nI a) ∨ ∃ n ∈ L, q_hitL ar L px py = nI n ∧ q_val ar (nI a) L px py = q_fn ar n := val_8 h L h8 (-1) a ha
