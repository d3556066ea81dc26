/-! ===== numbers without a wrap; what discs and triangles hold, row by row ===== -/
theorem ia {a b : Int32} (h : (a.toInt + b.toInt).natAbs < 2147483648) : (a + b).toInt = a.toInt + b.toInt := by
  rw [Int32.toInt_add]
  exact Int.bmod_eq_of_le_mul_two (y := 4294967296) (by omega) (by omega)
theorem is9 {a b : Int32} (h : (a.toInt - b.toInt).natAbs < 2147483648) : (a - b).toInt = a.toInt - b.toInt := by
  rw [Int32.toInt_sub]
  exact Int.bmod_eq_of_le_mul_two (y := 4294967296) (by omega) (by omega)
theorem im {a b : Int32} (h : (a.toInt * b.toInt).natAbs < 2147483648) : (a * b).toInt = a.toInt * b.toInt := by
  rw [Int32.toInt_mul]
  exact Int.bmod_eq_of_le_mul_two (y := 4294967296) (by omega) (by omega)
theorem js {a b : Int64} (h : (a.toInt - b.toInt).natAbs < 9223372036854775808) : (a - b).toInt = a.toInt - b.toInt := by
  rw [Int64.toInt_sub]
  exact Int.bmod_eq_of_le_mul_two (y := 18446744073709551616) (by omega) (by omega)
theorem jm {a b : Int64} (h : (a.toInt * b.toInt).natAbs < 9223372036854775808) : (a * b).toInt = a.toInt * b.toInt := by
  rw [Int64.toInt_mul]
  exact Int.bmod_eq_of_le_mul_two (y := 18446744073709551616) (by omega) (by omega)
theorem mb {a b : Int} {A B : Nat} (ha : a.natAbs ≤ A) (hb : b.natAbs ≤ B) : (a * b).natAbs ≤ A * B := by
  rw [Int.natAbs_mul]
  exact Nat.mul_le_mul ha hb
theorem i2 {x : Int32} (h : x.toInt.natAbs ≤ 100000) : (2 * x).toInt = 2 * x.toInt := by
  have e : (2 : Int32).toInt = 2 := rfl
  rw [im (by rw [e]; omega), e]
theorem i21 {x : Int32} (h : x.toInt.natAbs ≤ 100000) : (2 * x + 1).toInt = 2 * x.toInt + 1 := by
  have e : (1 : Int32).toInt = 1 := rfl
  rw [ia (by rw [i2 h, e]; omega), i2 h, e]
theorem iu {x c : Int32} (hx : x.toInt.natAbs ≤ 4200) (hc : c.toInt.natAbs ≤ 100) : (2 * x + 1 - 2 * c).toInt = 2 * x.toInt + 1 - 2 * c.toInt := by
  rw [is9 (by rw [i21 (by omega), i2 (by omega)]; omega), i21 (by omega), i2 (by omega)]
theorem inx {x : Nat} {d : Int32} (hx : x < 64) (hd : d.toInt.natAbs ≤ 4000) : (nI x - d).toInt = (x : Int) - d.toInt := by
  rw [is9 (by rw [nI_toInt (by omega)]; omega), nI_toInt (by omega)]
theorem hD_i {cx cy r x y : Int32} (hc : cx.toInt.natAbs ≤ 100 ∧ cy.toInt.natAbs ≤ 100) (hr : r.toInt.natAbs ≤ 60) (hx : x.toInt.natAbs ≤ 4200) (hy : y.toInt.natAbs ≤ 4200) :
    hD cx cy r x y = true ↔ (2 * x.toInt + 1 - 2 * cx.toInt) * (2 * x.toInt + 1 - 2 * cx.toInt) + (2 * y.toInt + 1 - 2 * cy.toInt) * (2 * y.toInt + 1 - 2 * cy.toInt) ≤ 4 * r.toInt * r.toInt := by
  have e4 : (4 : Int32).toInt = 4 := rfl
  have a1 := iu hx hc.1
  have a2 := iu hy hc.2
  have b1 := mb (a := 2 * x.toInt + 1 - 2 * cx.toInt) (b := 2 * x.toInt + 1 - 2 * cx.toInt) (A := 8601) (B := 8601) (by omega) (by omega)
  have b2 := mb (a := 2 * y.toInt + 1 - 2 * cy.toInt) (b := 2 * y.toInt + 1 - 2 * cy.toInt) (A := 8601) (B := 8601) (by omega) (by omega)
  have b3 := mb (a := 4 * r.toInt) (b := r.toInt) (A := 240) (B := 60) (by omega) hr
  have r1 : (4 * r).toInt = 4 * r.toInt := by rw [im (by rw [e4]; omega), e4]
  have r2 : (4 * r * r).toInt = 4 * r.toInt * r.toInt := by rw [im (by rw [r1]; omega), r1]
  have c1 := im (a := 2 * x + 1 - 2 * cx) (b := 2 * x + 1 - 2 * cx) (by rw [a1]; omega)
  have c2 := im (a := 2 * y + 1 - 2 * cy) (b := 2 * y + 1 - 2 * cy) (by rw [a2]; omega)
  rw [a1] at c1
  rw [a2] at c2
  unfold hD
  rw [decide_eq_true_eq, Int32.lt_iff_toInt_lt, r2, ia (by rw [c1, c2]; omega), c1, c2]
  omega
theorem sq_mid {a b c : Int} (h1 : a ≤ b) (h2 : b ≤ c) : b * b ≤ a * a ∨ b * b ≤ c * c := by
  rcases Int.le_total 0 b with z | z
  · exact Or.inr (Int.mul_self_le_mul_self z h2)
  · refine Or.inl ?_
    have := Int.mul_self_le_mul_self (a := -b) (b := -a) (by omega) (by omega)
    rw [Int.neg_mul_neg, Int.neg_mul_neg] at this
    exact this
/-- a disc has no gap in a row -/
theorem cv_disc {cx cy r dx y : Int32} (hc : cx.toInt.natAbs ≤ 100 ∧ cy.toInt.natAbs ≤ 100) (hr : r.toInt.natAbs ≤ 60) (hd : dx.toInt.natAbs ≤ 4000) (hy : y.toInt.natAbs ≤ 4200) :
    ∀ i j k : Nat, i ≤ j → j ≤ k → k < 64 → hD cx cy r (nI i - dx) y = true → hD cx cy r (nI k - dx) y = true → hD cx cy r (nI j - dx) y = true := by
  intro i j k hij hjk hk h1 h3
  have ei := inx (x := i) (by omega) hd
  have ej := inx (x := j) (by omega) hd
  have ek := inx (x := k) (by omega) hd
  rw [hD_i hc hr (by rw [ei]; omega) hy, ei] at h1
  rw [hD_i hc hr (by rw [ek]; omega) hy, ek] at h3
  rw [hD_i hc hr (by rw [ej]; omega) hy, ej]
  have m := sq_mid (a := 2 * ((i : Int) - dx.toInt) + 1 - 2 * cx.toInt) (b := 2 * ((j : Int) - dx.toInt) + 1 - 2 * cx.toInt) (c := 2 * ((k : Int) - dx.toInt) + 1 - 2 * cx.toInt) (by omega) (by omega)
  omega
theorem sq_le {a b : Int} (hb : 0 ≤ b) (h : a * a ≤ b * b) : -b ≤ a ∧ a ≤ b := by
  constructor
  · rcases Int.lt_or_le a (-b) with z | z
    · have := Int.mul_self_lt_mul_self (a := b) (b := -a) hb (by omega)
      rw [Int.neg_mul_neg] at this
      omega
    · exact z
  · rcases Int.lt_or_le b a with z | z
    · have := Int.mul_self_lt_mul_self (a := b) (b := a) hb z
      omega
    · exact z
theorem sq_nn (a : Int) : 0 ≤ a * a := by
  rcases Int.le_total 0 a with z | z
  · exact Int.mul_nonneg z z
  · have := Int.mul_nonneg (a := -a) (b := -a) (by omega) (by omega)
    rw [Int.neg_mul_neg] at this
    exact this
theorem bx_disc {cx cy r x y : Int32} (hc : cx.toInt.natAbs ≤ 100 ∧ cy.toInt.natAbs ≤ 100) (hr : 1 ≤ r.toInt ∧ r.toInt ≤ 60) (hx : x.toInt.natAbs ≤ 4200) (hy : y.toInt.natAbs ≤ 4200) (h : hD cx cy r x y = true) :
    (cx.toInt - r.toInt ≤ x.toInt ∧ x.toInt < cx.toInt + r.toInt) ∧ (cy.toInt - r.toInt ≤ y.toInt ∧ y.toInt < cy.toInt + r.toInt) := by
  rw [hD_i hc (by omega) hx hy] at h
  have e : 4 * r.toInt * r.toInt = (2 * r.toInt) * (2 * r.toInt) := by
    rw [Int.mul_assoc 2, Int.mul_left_comm r.toInt 2, ← Int.mul_assoc, ← Int.mul_assoc]
    rfl
  rw [e] at h
  have n1 := sq_nn (2 * x.toInt + 1 - 2 * cx.toInt)
  have n2 := sq_nn (2 * y.toInt + 1 - 2 * cy.toInt)
  have m1 := sq_le (a := 2 * x.toInt + 1 - 2 * cx.toInt) (b := 2 * r.toInt) (by omega) (by omega)
  have m2 := sq_le (a := 2 * y.toInt + 1 - 2 * cy.toInt) (b := 2 * r.toInt) (by omega) (by omega)
  omega
/-- a side, in whole numbers -/
def gS (ax ay bx bz px py : Int) : Int := (2 * bx - 2 * ax) * (py - 2 * ay) - (2 * bz - 2 * ay) * (px - 2 * ax)
theorem hS_i {ax ay bx bz px py : Int32} (h1 : ax.toInt.natAbs ≤ 100) (h2 : ay.toInt.natAbs ≤ 100) (h3 : bx.toInt.natAbs ≤ 100) (h4 : bz.toInt.natAbs ≤ 100) (h5 : px.toInt.natAbs ≤ 9000) (h6 : py.toInt.natAbs ≤ 9000) :
    (hS ax ay bx bz px py).toInt = gS ax.toInt ay.toInt bx.toInt bz.toInt px.toInt py.toInt ∧ (gS ax.toInt ay.toInt bx.toInt bz.toInt px.toInt py.toInt).natAbs ≤ 8000000 := by
  have a1 : (2 * bx - 2 * ax).toInt = 2 * bx.toInt - 2 * ax.toInt := by rw [is9 (by rw [i2 (by omega), i2 (by omega)]; omega), i2 (by omega), i2 (by omega)]
  have a2 : (2 * bz - 2 * ay).toInt = 2 * bz.toInt - 2 * ay.toInt := by rw [is9 (by rw [i2 (by omega), i2 (by omega)]; omega), i2 (by omega), i2 (by omega)]
  have a3 : (py - 2 * ay).toInt = py.toInt - 2 * ay.toInt := by rw [is9 (by rw [i2 (by omega)]; omega), i2 (by omega)]
  have a4 : (px - 2 * ax).toInt = px.toInt - 2 * ax.toInt := by rw [is9 (by rw [i2 (by omega)]; omega), i2 (by omega)]
  have b1 := mb (a := 2 * bx.toInt - 2 * ax.toInt) (b := py.toInt - 2 * ay.toInt) (A := 400) (B := 9200) (by omega) (by omega)
  have b2 := mb (a := 2 * bz.toInt - 2 * ay.toInt) (b := px.toInt - 2 * ax.toInt) (A := 400) (B := 9200) (by omega) (by omega)
  have c1 := im (a := 2 * bx - 2 * ax) (b := py - 2 * ay) (by rw [a1, a3]; omega)
  have c2 := im (a := 2 * bz - 2 * ay) (b := px - 2 * ax) (by rw [a2, a4]; omega)
  rw [a1, a3] at c1
  rw [a2, a4] at c2
  unfold gS hS
  rw [is9 (by rw [c1, c2]; omega), c1, c2]
  exact ⟨rfl, by omega⟩
theorem q_side_i {ax ay bx bz px py : Int32} (h1 : ax.toInt.natAbs ≤ 100) (h2 : ay.toInt.natAbs ≤ 100) (h3 : bx.toInt.natAbs ≤ 100) (h4 : bz.toInt.natAbs ≤ 100) (h5 : px.toInt.natAbs ≤ 9000) (h6 : py.toInt.natAbs ≤ 9000) :
    (q_side ax ay bx bz px py).toInt = gS ax.toInt ay.toInt bx.toInt bz.toInt px.toInt py.toInt := by
  have e2 : (2 : Int64).toInt = 2 := rfl
  have a1 : ((bx - ax).toInt64 * 2).toInt = 2 * bx.toInt - 2 * ax.toInt := by
    have z : (bx - ax).toInt64.toInt = bx.toInt - ax.toInt := by rw [Int32.toInt_toInt64, is9 (by omega)]
    rw [jm (by rw [z, e2]; omega), z, e2]
    omega
  have a2 : ((bz - ay).toInt64 * 2).toInt = 2 * bz.toInt - 2 * ay.toInt := by
    have z : (bz - ay).toInt64.toInt = bz.toInt - ay.toInt := by rw [Int32.toInt_toInt64, is9 (by omega)]
    rw [jm (by rw [z, e2]; omega), z, e2]
    omega
  have a3 : (py - 2 * ay).toInt64.toInt = py.toInt - 2 * ay.toInt := by rw [Int32.toInt_toInt64, is9 (by rw [i2 (by omega)]; omega), i2 (by omega)]
  have a4 : (px - 2 * ax).toInt64.toInt = px.toInt - 2 * ax.toInt := by rw [Int32.toInt_toInt64, is9 (by rw [i2 (by omega)]; omega), i2 (by omega)]
  have b1 := mb (a := 2 * bx.toInt - 2 * ax.toInt) (b := py.toInt - 2 * ay.toInt) (A := 400) (B := 9200) (by omega) (by omega)
  have b2 := mb (a := 2 * bz.toInt - 2 * ay.toInt) (b := px.toInt - 2 * ax.toInt) (A := 400) (B := 9200) (by omega) (by omega)
  have c1 := jm (a := (bx - ax).toInt64 * 2) (b := (py - 2 * ay).toInt64) (by rw [a1, a3]; omega)
  have c2 := jm (a := (bz - ay).toInt64 * 2) (b := (px - 2 * ax).toInt64) (by rw [a2, a4]; omega)
  rw [a1, a3] at c1
  rw [a2, a4] at c2
  unfold gS q_side
  rw [js (by rw [c1, c2]; omega), c1, c2]
def gT3 (u v w : Int) : Prop := ((0 ≤ u ∧ 0 ≤ v ∧ 0 ≤ w) ∨ (u ≤ 0 ∧ v ≤ 0 ∧ w ≤ 0)) ∧ (u ≠ 0 ∨ v ≠ 0 ∨ w ≠ 0)
theorem i0_lt {u : Int32} : u < 0 ↔ u.toInt < 0 := Int32.lt_iff_toInt_lt
theorem i0_gt {u : Int32} : 0 < u ↔ 0 < u.toInt := Int32.lt_iff_toInt_lt
theorem i0_eq {u : Int32} : u = 0 ↔ u.toInt = 0 := by
  rw [← Int32.toInt_inj]
  exact Iff.rfl
theorem hT3_i (u v w : Int32) : hT3 u v w = true ↔ gT3 u.toInt v.toInt w.toInt := by
  unfold hT3 gT3
  simp only [Bool.and_eq_true, Bool.or_eq_true, decide_eq_true_eq, i0_lt, i0_gt, i0_eq]
  omega
/-- a side goes one way along a row -/
theorem gS_mono {ax ay bx bz py p1 p2 p3 : Int} (h1 : p1 ≤ p2) (h2 : p2 ≤ p3) :
    (0 ≤ gS ax ay bx bz p1 py → 0 ≤ gS ax ay bx bz p3 py → 0 ≤ gS ax ay bx bz p2 py) ∧ (gS ax ay bx bz p1 py ≤ 0 → gS ax ay bx bz p3 py ≤ 0 → gS ax ay bx bz p2 py ≤ 0) := by
  unfold gS
  rcases Int.le_total 0 (2 * bz - 2 * ay) with z | z
  · have m1 := Int.mul_le_mul_of_nonneg_left (a := p1 - 2 * ax) (b := p2 - 2 * ax) (by omega) z
    have m2 := Int.mul_le_mul_of_nonneg_left (a := p2 - 2 * ax) (b := p3 - 2 * ax) (by omega) z
    generalize (2 * bz - 2 * ay) * (p1 - 2 * ax) = w1 at *
    generalize (2 * bz - 2 * ay) * (p2 - 2 * ax) = w2 at *
    generalize (2 * bz - 2 * ay) * (p3 - 2 * ax) = w3 at *
    generalize (2 * bx - 2 * ax) * (py - 2 * ay) = w0 at *
    omega
  · have m1 := Int.mul_le_mul_of_nonneg_left (a := p1 - 2 * ax) (b := p2 - 2 * ax) (c := -(2 * bz - 2 * ay)) (by omega) (by omega)
    have m2 := Int.mul_le_mul_of_nonneg_left (a := p2 - 2 * ax) (b := p3 - 2 * ax) (c := -(2 * bz - 2 * ay)) (by omega) (by omega)
    rw [Int.neg_mul, Int.neg_mul] at m1 m2
    generalize (2 * bz - 2 * ay) * (p1 - 2 * ax) = w1 at *
    generalize (2 * bz - 2 * ay) * (p2 - 2 * ax) = w2 at *
    generalize (2 * bz - 2 * ay) * (p3 - 2 * ax) = w3 at *
    generalize (2 * bx - 2 * ax) * (py - 2 * ay) = w0 at *
    omega
/-- the three sides together are the same at every point -/
theorem gS_sum (ax ay bx bz cx cz px py : Int) : gS ax ay bx bz px py + gS bx bz cx cz px py + gS cx cz ax ay px py = 4 * ((bx - ax) * (cz - ay) - (bz - ay) * (cx - ax)) := by
  unfold gS
  grind
/-- the point is where its sides say -/
theorem gS_x (ax ay bx bz cx cz px py : Int) : gS bx bz cx cz px py * (2 * ax - px) + gS cx cz ax ay px py * (2 * bx - px) + gS ax ay bx bz px py * (2 * cx - px) = 0 := by
  unfold gS
  grind
theorem gS_y (ax ay bx bz cx cz px py : Int) : gS bx bz cx cz px py * (2 * ay - py) + gS cx cz ax ay px py * (2 * bz - py) + gS ax ay bx bz px py * (2 * cz - py) = 0 := by
  unfold gS
  grind
theorem pz_l {s x : Int} (hs : 0 ≤ s) (hx : 0 < x) : 0 ≤ s * x ∧ (s * x ≤ 0 → s = 0) := by
  refine ⟨Int.mul_nonneg hs (by omega), fun h => ?_⟩
  rcases Int.lt_or_le 0 s with z | z
  · have := Int.mul_pos z hx
    omega
  · omega
theorem gT3_no {u v w x y z : Int} (h : gT3 u v w) (hx : 0 < x) (hy : 0 < y) (hz : 0 < z) (e : v * x + w * y + u * z = 0) : False := by
  obtain ⟨h1 | h1, h2⟩ := h
  · have k1 := pz_l h1.2.1 hx
    have k2 := pz_l h1.2.2 hy
    have k3 := pz_l h1.1 hz
    generalize v * x = a1 at *
    generalize w * y = a2 at *
    generalize u * z = a3 at *
    omega
  · have k1 := pz_l (s := -v) (by omega) hx
    have k2 := pz_l (s := -w) (by omega) hy
    have k3 := pz_l (s := -u) (by omega) hz
    rw [Int.neg_mul] at k1 k2 k3
    generalize v * x = a1 at *
    generalize w * y = a2 at *
    generalize u * z = a3 at *
    omega
theorem gT3_no2 {u v w x y z : Int} (h : gT3 u v w) (hx : x < 0) (hy : y < 0) (hz : z < 0) (e : v * x + w * y + u * z = 0) : False :=
  gT3_no (x := -x) (y := -y) (z := -z) h (by omega) (by omega) (by omega) (by rw [Int.mul_neg, Int.mul_neg, Int.mul_neg]; omega)
def gT (ax ay bx bz cx cz px py : Int) : Prop := gT3 (gS ax ay bx bz px py) (gS bx bz cx cz px py) (gS cx cz ax ay px py)
theorem gT_cv {ax ay bx bz cx cz py p1 p2 p3 : Int} (h12 : p1 ≤ p2) (h23 : p2 ≤ p3) (h1 : gT ax ay bx bz cx cz p1 py) (h3 : gT ax ay bx bz cx cz p3 py) : gT ax ay bx bz cx cz p2 py := by
  have s1 := gS_sum ax ay bx bz cx cz p1 py
  have s2 := gS_sum ax ay bx bz cx cz p2 py
  have s3 := gS_sum ax ay bx bz cx cz p3 py
  have m1 := gS_mono (ax := ax) (ay := ay) (bx := bx) (bz := bz) (py := py) h12 h23
  have m2 := gS_mono (ax := bx) (ay := bz) (bx := cx) (bz := cz) (py := py) h12 h23
  have m3 := gS_mono (ax := cx) (ay := cz) (bx := ax) (bz := ay) (py := py) h12 h23
  unfold gT gT3 at *
  generalize 4 * ((bx - ax) * (cz - ay) - (bz - ay) * (cx - ax)) = K at *
  omega
theorem gT_bx {ax ay bx bz cx cz x y : Int} (h : gT ax ay bx bz cx cz (2 * x + 1) (2 * y + 1)) :
    (min ax (min bx cx) ≤ x ∧ x < max ax (max bx cx)) ∧ (min ay (min bz cz) ≤ y ∧ y < max ay (max bz cz)) := by
  have ex := gS_x ax ay bx bz cx cz (2 * x + 1) (2 * y + 1)
  have ey := gS_y ax ay bx bz cx cz (2 * x + 1) (2 * y + 1)
  refine ⟨⟨?_, ?_⟩, ?_, ?_⟩
  · rcases Int.lt_or_le x (min ax (min bx cx)) with z | z
    · exact (gT3_no h (by omega) (by omega) (by omega) ex).elim
    · exact z
  · rcases Int.lt_or_le x (max ax (max bx cx)) with z | z
    · exact z
    · exact (gT3_no2 h (by omega) (by omega) (by omega) ex).elim
  · rcases Int.lt_or_le y (min ay (min bz cz)) with z | z
    · exact (gT3_no h (by omega) (by omega) (by omega) ey).elim
    · exact z
  · rcases Int.lt_or_le y (max ay (max bz cz)) with z | z
    · exact z
    · exact (gT3_no2 h (by omega) (by omega) (by omega) ey).elim
theorem hT_i {ax ay bx bz cx cz x y : Int32} (ha : ax.toInt.natAbs ≤ 100 ∧ ay.toInt.natAbs ≤ 100) (hb : bx.toInt.natAbs ≤ 100 ∧ bz.toInt.natAbs ≤ 100) (hc : cx.toInt.natAbs ≤ 100 ∧ cz.toInt.natAbs ≤ 100) (hx : x.toInt.natAbs ≤ 4200) (hy : y.toInt.natAbs ≤ 4200) :
    hT ax ay bx bz cx cz x y = true ↔ gT ax.toInt ay.toInt bx.toInt bz.toInt cx.toInt cz.toInt (2 * x.toInt + 1) (2 * y.toInt + 1) := by
  have e1 := i21 (x := x) (by omega)
  have e2 := i21 (x := y) (by omega)
  unfold hT gT
  rw [hT3_i, (hS_i ha.1 ha.2 hb.1 hb.2 (by rw [e1]; omega) (by rw [e2]; omega)).1, (hS_i hb.1 hb.2 hc.1 hc.2 (by rw [e1]; omega) (by rw [e2]; omega)).1, (hS_i hc.1 hc.2 ha.1 ha.2 (by rw [e1]; omega) (by rw [e2]; omega)).1, e1, e2]
/-- a triangle has no gap in a row -/
theorem cv_tri {ax ay bx bz cx cz dx y : Int32} (ha : ax.toInt.natAbs ≤ 100 ∧ ay.toInt.natAbs ≤ 100) (hb : bx.toInt.natAbs ≤ 100 ∧ bz.toInt.natAbs ≤ 100) (hc : cx.toInt.natAbs ≤ 100 ∧ cz.toInt.natAbs ≤ 100) (hd : dx.toInt.natAbs ≤ 4000) (hy : y.toInt.natAbs ≤ 4200) :
    ∀ i j k : Nat, i ≤ j → j ≤ k → k < 64 → hT ax ay bx bz cx cz (nI i - dx) y = true → hT ax ay bx bz cx cz (nI k - dx) y = true → hT ax ay bx bz cx cz (nI j - dx) y = true := by
  intro i j k hij hjk hk h1 h3
  have ei := inx (x := i) (by omega) hd
  have ej := inx (x := j) (by omega) hd
  have ek := inx (x := k) (by omega) hd
  rw [hT_i ha hb hc (by rw [ei]; omega) hy, ei] at h1
  rw [hT_i ha hb hc (by rw [ek]; omega) hy, ek] at h3
  rw [hT_i ha hb hc (by rw [ej]; omega) hy, ej]
  exact gT_cv (by omega) (by omega) h1 h3

