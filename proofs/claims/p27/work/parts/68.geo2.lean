/-! ===== what a node's numbers are bounded by; a shape's row, and what the reference says of it ===== -/
section GEO2
theorem q_sd0 {f : Nat → Int32} {a : Nat} {x y : Int32} : q_sd f a 0 x y = q_side (f a) (f (a + 1)) (f (a + 2)) (f (a + 3)) x y := rfl
theorem q_sd1 {f : Nat → Int32} {a : Nat} {x y : Int32} : q_sd f a 1 x y = q_side (f (a + 2)) (f (a + 3)) (f (a + 4)) (f (a + 5)) x y := rfl
theorem q_sd2 {f : Nat → Int32} {a : Nat} {x y : Int32} : q_sd f a 2 x y = q_side (f (a + 4)) (f (a + 5)) (f a) (f (a + 1)) x y := rfl
theorem l0_lt {u : Int64} : u < 0 ↔ u.toInt < 0 := Int64.lt_iff_toInt_lt
theorem l0_gt {u : Int64} : 0 < u ↔ 0 < u.toInt := Int64.lt_iff_toInt_lt
theorem tri_eq {f : Nat → Int32} {a : Nat} {x y : Int32} (h : ∀ j, j < 6 → (f (a + j)).toInt.natAbs ≤ 100) (hx : x.toInt.natAbs ≤ 4200) (hy : y.toInt.natAbs ≤ 4200) :
    hT (f a) (f (a + 1)) (f (a + 2)) (f (a + 3)) (f (a + 4)) (f (a + 5)) x y = q_tri f a (2 * x + 1) (2 * y + 1) := by
  have e1 := i21 (x := x) (by omega)
  have e2 := i21 (x := y) (by omega)
  have h0 : (f a).toInt.natAbs ≤ 100 := h 0 (by decide)
  have h1 := h 1 (by decide)
  have h2 := h 2 (by decide)
  have h3 := h 3 (by decide)
  have h4 := h 4 (by decide)
  have h5 := h 5 (by decide)
  have k0 := q_side_i h0 h1 h2 h3 (px := 2 * x + 1) (py := 2 * y + 1) (by rw [e1]; omega) (by rw [e2]; omega)
  have k1 := q_side_i h2 h3 h4 h5 (px := 2 * x + 1) (py := 2 * y + 1) (by rw [e1]; omega) (by rw [e2]; omega)
  have k2 := q_side_i h4 h5 h0 h1 (px := 2 * x + 1) (py := 2 * y + 1) (by rw [e1]; omega) (by rw [e2]; omega)
  rw [e1, e2] at k0 k1 k2
  rw [Bool.eq_iff_iff, hT_i ⟨h0, h1⟩ ⟨h2, h3⟩ ⟨h4, h5⟩ hx hy]
  have hl : q_lss f a (2 * x + 1) (2 * y + 1) 3 = true ↔ (gS (f a).toInt (f (a + 1)).toInt (f (a + 2)).toInt (f (a + 3)).toInt (2 * x.toInt + 1) (2 * y.toInt + 1) < 0 ∨ gS (f (a + 2)).toInt (f (a + 3)).toInt (f (a + 4)).toInt (f (a + 5)).toInt (2 * x.toInt + 1) (2 * y.toInt + 1) < 0 ∨ gS (f (a + 4)).toInt (f (a + 5)).toInt (f a).toInt (f (a + 1)).toInt (2 * x.toInt + 1) (2 * y.toInt + 1) < 0) := by
    show (decide (q_sd f a 0 (2 * x + 1) (2 * y + 1) < 0) || (decide (q_sd f a 1 (2 * x + 1) (2 * y + 1) < 0) || (decide (q_sd f a 2 (2 * x + 1) (2 * y + 1) < 0) || false))) = true ↔ _
    rw [Bool.or_false, Bool.or_eq_true, Bool.or_eq_true, decide_eq_true_eq, decide_eq_true_eq, decide_eq_true_eq, l0_lt, l0_lt, l0_lt, q_sd0, q_sd1, q_sd2, k0, k1, k2]
  have hm : q_mor f a (2 * x + 1) (2 * y + 1) 3 = true ↔ (0 < gS (f a).toInt (f (a + 1)).toInt (f (a + 2)).toInt (f (a + 3)).toInt (2 * x.toInt + 1) (2 * y.toInt + 1) ∨ 0 < gS (f (a + 2)).toInt (f (a + 3)).toInt (f (a + 4)).toInt (f (a + 5)).toInt (2 * x.toInt + 1) (2 * y.toInt + 1) ∨ 0 < gS (f (a + 4)).toInt (f (a + 5)).toInt (f a).toInt (f (a + 1)).toInt (2 * x.toInt + 1) (2 * y.toInt + 1)) := by
    show (decide (0 < q_sd f a 0 (2 * x + 1) (2 * y + 1)) || (decide (0 < q_sd f a 1 (2 * x + 1) (2 * y + 1)) || (decide (0 < q_sd f a 2 (2 * x + 1) (2 * y + 1)) || false))) = true ↔ _
    rw [Bool.or_false, Bool.or_eq_true, Bool.or_eq_true, decide_eq_true_eq, decide_eq_true_eq, decide_eq_true_eq, l0_gt, l0_gt, l0_gt, q_sd0, q_sd1, q_sd2, k0, k1, k2]
  unfold q_tri gT gT3
  generalize gS (f a).toInt (f (a + 1)).toInt (f (a + 2)).toInt (f (a + 3)).toInt (2 * x.toInt + 1) (2 * y.toInt + 1) = u at *
  generalize gS (f (a + 2)).toInt (f (a + 3)).toInt (f (a + 4)).toInt (f (a + 5)).toInt (2 * x.toInt + 1) (2 * y.toInt + 1) = v at *
  generalize gS (f (a + 4)).toInt (f (a + 5)).toInt (f a).toInt (f (a + 1)).toInt (2 * x.toInt + 1) (2 * y.toInt + 1) = w at *
  cases z1 : q_lss f a (2 * x + 1) (2 * y + 1) 3 <;> cases z2 : q_mor f a (2 * x + 1) (2 * y + 1) 3 <;> simp only [z1, z2, bne_self_eq_false, Bool.false_eq_true, Bool.true_bne, Bool.false_bne, Bool.not_false, Bool.not_true, false_iff, true_iff, iff_false, iff_true] at hl hm ⊢ <;> omega
end GEO2
def BS (ar : rA) (n : Nat) : Prop :=
  ((ar 8 n).toInt.natAbs ≤ 100 ∧ (ar 9 n).toInt.natAbs ≤ 100) ∧
  (ar 3 n = 0 ∨ ar 3 n = 1 ∨ ar 3 n = 2 ∨ ar 3 n = 3) ∧
  (ar 3 n = 1 → ((ar 7 (6 * n)).toInt.natAbs ≤ 100 ∧ (ar 7 (6 * n + 1)).toInt.natAbs ≤ 100) ∧ (ar 7 (6 * n + 2)).toInt.natAbs ≤ 100 ∧ (ar 7 (6 * n + 3)).toInt.natAbs ≤ 100) ∧
  (ar 3 n = 2 → ((ar 7 (6 * n)).toInt.natAbs ≤ 100 ∧ (ar 7 (6 * n + 1)).toInt.natAbs ≤ 100) ∧ 1 ≤ (ar 7 (6 * n + 2)).toInt ∧ (ar 7 (6 * n + 2)).toInt ≤ 60) ∧
  (ar 3 n = 3 → ∀ j, j < 6 → (ar 7 (6 * n + j)).toInt.natAbs ≤ 100) ∧
  (0 < ar 14 (4 * n + 2) → ((ar 14 (4 * n)).toInt.natAbs ≤ 100 ∧ (ar 14 (4 * n + 1)).toInt.natAbs ≤ 100) ∧ (ar 14 (4 * n + 2)).toInt.natAbs ≤ 100 ∧ (ar 14 (4 * n + 3)).toInt.natAbs ≤ 100)
def BD (ar : rA) (cm : Nat) : Prop := ∀ n, cP ar cm n → BS ar n
theorem q_off_b {ar : rA} {f : Nat} : ∀ l : List Nat, (∀ a ∈ l, (ar f a).toInt.natAbs ≤ 100) → l.length ≤ 40 → (q_off ar f l 0).toInt.natAbs ≤ 100 * l.length
  | [], _, _ => by
    show (0 : Int32).toInt.natAbs ≤ 0
    decide
  | a :: t, h, hl => by
    rw [List.length_cons] at hl ⊢
    have ih := q_off_b t (fun x hx => h x (List.mem_cons_of_mem _ hx)) (by omega)
    have ha := h a List.mem_cons_self
    rw [q_off_c, ia (by omega)]
    omega
theorem off_b {ar : rA} {cm n : Nat} (hw : wf ar cm) (hb : BD ar cm) (hn : cP ar cm n) : (q_off ar 8 (chn ar n) 0).toInt.natAbs ≤ 4000 ∧ (q_off ar 9 (chn ar n) 0).toInt.natAbs ≤ 4000 := by
  have hl := wf_chl hw hn.1 hn.2
  have h8 := q_off_b (ar := ar) (f := 8) (chn ar n) (fun a ha => (hb a (wf_all hw hn.1 hn.2 ha)).1.1) hl
  have h9 := q_off_b (ar := ar) (f := 9) (chn ar n) (fun a ha => (hb a (wf_all hw hn.1 hn.2 ha)).1.2) hl
  omega
/-- a rectangle's row, in whole numbers -/
theorem gb_box {lf tp w h dx dy : Int32} {x y : Nat} (hx : x < 64) (hy : y < 48) (h1 : lf.toInt.natAbs ≤ 100) (h2 : tp.toInt.natAbs ≤ 100) (h3 : w.toInt.natAbs ≤ 100) (h4 : h.toInt.natAbs ≤ 100) (hd : dx.toInt.natAbs ≤ 4000) (he : dy.toInt.natAbs ≤ 4000) :
    ((decide (tp ≤ nI y - dy) && decide (nI y - dy < tp + h)) && (decide (lf + dx ≤ nI x) && decide (nI x < lf + w + dx))) = (q_in (nI x - dx) lf (lf + w - 1) && q_in (nI y - dy) tp (tp + h - 1)) := by
  have e1 := inx hx hd
  have e2 := inx (x := y) (by omega) he
  have e3 : (lf + w).toInt = lf.toInt + w.toInt := ia (by omega)
  have e4 : (tp + h).toInt = tp.toInt + h.toInt := ia (by omega)
  have o1 : (1 : Int32).toInt = 1 := rfl
  have e5 : (lf + w - 1).toInt = lf.toInt + w.toInt - 1 := by rw [is9 (by rw [e3, o1]; omega), e3, o1]
  have e6 : (tp + h - 1).toInt = tp.toInt + h.toInt - 1 := by rw [is9 (by rw [e4, o1]; omega), e4, o1]
  have e7 : (lf + dx).toInt = lf.toInt + dx.toInt := ia (by omega)
  have e8 : (lf + w + dx).toInt = lf.toInt + w.toInt + dx.toInt := by rw [ia (by rw [e3]; omega), e3]
  have e9 : (nI x).toInt = x := nI_toInt (by omega)
  unfold q_in
  rw [Bool.eq_iff_iff]
  simp only [Bool.and_eq_true, decide_eq_true_eq, Int32.le_iff_toInt_le, Int32.lt_iff_toInt_lt, e1, e2, e3, e4, e5, e6, e7, e8, e9]
  omega
/-- a box's row, where its edges are known as whole numbers -/
theorem gb_edges {lf tp rt bt dx dy : Int32} {x y : Nat} (hx : x < 64) (hy : y < 48) (h1 : lf.toInt.natAbs ≤ 200) (h3 : rt.toInt.natAbs ≤ 200) (hd : dx.toInt.natAbs ≤ 4000) (he : dy.toInt.natAbs ≤ 4000) :
    ((decide (tp ≤ nI y - dy) && decide (nI y - dy < bt)) && (decide (lf + dx ≤ nI x) && decide (nI x < rt + dx))) = true ↔ (tp.toInt ≤ (nI y - dy).toInt ∧ (nI y - dy).toInt < bt.toInt) ∧ (lf.toInt ≤ (nI x - dx).toInt ∧ (nI x - dx).toInt < rt.toInt) := by
  have e1 := inx hx hd
  have e2 := inx (x := y) (by omega) he
  have e7 : (lf + dx).toInt = lf.toInt + dx.toInt := ia (by omega)
  have e8 : (rt + dx).toInt = rt.toInt + dx.toInt := ia (by omega)
  have e9 : (nI x).toInt = x := nI_toInt (by omega)
  simp only [Bool.and_eq_true, decide_eq_true_eq, Int32.le_iff_toInt_le, Int32.lt_iff_toInt_lt, e1, e2, e7, e8, e9]
  omega
theorem and_abs {u v h : Bool} (hh : h = true → u = true ∧ v = true) : (u && (v && h)) = h := by
  cases h with
  | false => rw [Bool.and_false, Bool.and_false]
  | true =>
    obtain ⟨a, b⟩ := hh rfl
    rw [a, b]
    rfl
theorem gb_disc {cx cy r dx dy lf tp rt bt : Int32} {x y : Nat} (hx : x < 64) (hy : y < 48) (hc : cx.toInt.natAbs ≤ 100 ∧ cy.toInt.natAbs ≤ 100) (hr : 1 ≤ r.toInt ∧ r.toInt ≤ 60) (hd : dx.toInt.natAbs ≤ 4000) (he : dy.toInt.natAbs ≤ 4000) (h1 : lf = cx - r) (h2 : tp = cy - r) (h3 : rt = cx + r) (h4 : bt = cy + r) :
    ((decide (tp ≤ nI y - dy) && decide (nI y - dy < bt)) && ((decide (lf + dx ≤ nI x) && decide (nI x < rt + dx)) && hD cx cy r (nI x - dx) (nI y - dy))) = hD cx cy r (nI x - dx) (nI y - dy) := by
  have e1 := inx hx hd
  have e2 := inx (x := y) (by omega) he
  have f1 : lf.toInt = cx.toInt - r.toInt := by rw [h1, is9 (by omega)]
  have f2 : tp.toInt = cy.toInt - r.toInt := by rw [h2, is9 (by omega)]
  have f3 : rt.toInt = cx.toInt + r.toInt := by rw [h3, ia (by omega)]
  have f4 : bt.toInt = cy.toInt + r.toInt := by rw [h4, ia (by omega)]
  refine and_abs (fun h => ?_)
  have hb := bx_disc hc hr (by rw [e1]; omega) (by rw [e2]; omega) h
  have := (gb_edges (lf := lf) (tp := tp) (rt := rt) (bt := bt) (dx := dx) (dy := dy) hx hy (by omega) (by omega) hd he).mpr (by omega)
  exact Bool.and_eq_true_iff.mp this
theorem gb_tri {f : Nat → Int32} {a : Nat} {dx dy lf tp rt bt : Int32} {x y : Nat} (hx : x < 64) (hy : y < 48) (h : ∀ j, j < 6 → (f (a + j)).toInt.natAbs ≤ 100) (hd : dx.toInt.natAbs ≤ 4000) (he : dy.toInt.natAbs ≤ 4000)
    (h1 : lf.toInt = min (f a).toInt (min (f (a + 2)).toInt (f (a + 4)).toInt)) (h2 : tp.toInt = min (f (a + 1)).toInt (min (f (a + 3)).toInt (f (a + 5)).toInt)) (h3 : rt.toInt = max (f a).toInt (max (f (a + 2)).toInt (f (a + 4)).toInt)) (h4 : bt.toInt = max (f (a + 1)).toInt (max (f (a + 3)).toInt (f (a + 5)).toInt)) :
    ((decide (tp ≤ nI y - dy) && decide (nI y - dy < bt)) && ((decide (lf + dx ≤ nI x) && decide (nI x < rt + dx)) && hT (f a) (f (a + 1)) (f (a + 2)) (f (a + 3)) (f (a + 4)) (f (a + 5)) (nI x - dx) (nI y - dy))) = q_tri f a (2 * (nI x - dx) + 1) (2 * (nI y - dy) + 1) := by
  revert h1 h2 h3 h4
  have e1 := inx hx hd
  have e2 := inx (x := y) (by omega) he
  have k0 : (f a).toInt.natAbs ≤ 100 := h 0 (by decide)
  have k1 := h 1 (by decide)
  have k2 := h 2 (by decide)
  have k3 := h 3 (by decide)
  have k4 := h 4 (by decide)
  have k5 := h 5 (by decide)
  have x1 : (nI x - dx).toInt.natAbs ≤ 4200 := by rw [e1]; omega
  have x2 : (nI y - dy).toInt.natAbs ≤ 4200 := by rw [e2]; omega
  have ht := hT_i (ax := f a) (ay := f (a + 1)) (bx := f (a + 2)) (bz := f (a + 3)) (cx := f (a + 4)) (cz := f (a + 5)) ⟨k0, k1⟩ ⟨k2, k3⟩ ⟨k4, k5⟩ x1 x2
  rw [← tri_eq h x1 x2]
  intro h1 h2 h3 h4
  refine and_abs (fun hh => ?_)
  have hb := gT_bx (ht.mp hh)
  rw [← h1, ← h2, ← h3, ← h4] at hb
  have b1 : lf.toInt.natAbs ≤ 200 := by
    clear h2 h3 h4 hb hh ht x1 x2 e1 e2 h
    omega
  have b3 : rt.toInt.natAbs ≤ 200 := by
    clear h1 h2 h4 hb hh ht x1 x2 e1 e2 h
    omega
  clear h1 h2 h3 h4
  have := (gb_edges (lf := lf) (tp := tp) (rt := rt) (bt := bt) (dx := dx) (dy := dy) hx hy b1 b3 hd he).mpr ⟨⟨hb.2.1, hb.2.2⟩, hb.1.1, hb.1.2⟩
  exact Bool.and_eq_true_iff.mp this

