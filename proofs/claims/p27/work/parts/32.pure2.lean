/-! ===== which pixels a shape has, and which show it ===== -/
def q_box (f : Nat → Int32) (a : Nat) (x y : Int32) : Bool := q_in x (f a) (f a + f (a + 2) - 1) && q_in y (f (a + 1)) (f (a + 1) + f (a + 3) - 1)
def q_side (ax ay bx bz px py : Int32) : Int64 := (bx - ax).toInt64 * 2 * (py - 2 * ay).toInt64 - (bz - ay).toInt64 * 2 * (px - 2 * ax).toInt64
def q_sd (f : Nat → Int32) (a k : Nat) (x y : Int32) : Int64 := q_side (f (a + 2 * k)) (f (a + 2 * k + 1)) (f (a + 2 * ((k + 1) % 3))) (f (a + 2 * ((k + 1) % 3) + 1)) x y
def q_lss (f : Nat → Int32) (a : Nat) (x y : Int32) : Nat → Bool
  | 0 => false
  | n + 1 => decide (q_sd f a (3 - (n + 1)) x y < 0) || q_lss f a x y n
def q_mor (f : Nat → Int32) (a : Nat) (x y : Int32) : Nat → Bool
  | 0 => false
  | n + 1 => decide (0 < q_sd f a (3 - (n + 1)) x y) || q_mor f a x y n
def q_tri (f : Nat → Int32) (a : Nat) (x y : Int32) : Bool := q_lss f a x y 3 != q_mor f a x y 3
def q_disc (f : Nat → Int32) (a : Nat) (u v : Int32) : Bool := decide ((u - 2 * f a) * (u - 2 * f a) + (v - 2 * f (a + 1)) * (v - 2 * f (a + 1)) ≤ 4 * f (a + 2) * f (a + 2))
/-- the shape itself: at a pixel less its whole offset -/
def q_geo (ar : rA) (n : Nat) (x y : Int32) : Bool := if ar 3 n = 1 then q_box (ar 7) (6 * n) x y else if ar 3 n = 2 then q_disc (ar 7) (6 * n) (2 * x + 1) (2 * y + 1) else q_tri (ar 7) (6 * n) (2 * x + 1) (2 * y + 1)
def q_inS (ar : rA) (n : Nat) (px py : Int32) : Bool := q_geo ar n (px - q_off ar 8 (chn ar n) 0) (py - q_off ar 9 (chn ar n) 0)
def q_sS (ar : rA) (px py : Int32) (n : Nat) : Bool := decide (¬ ar 3 n = 0) && q_inS ar n px py
def q_inT (ar : rA) (n : Nat) (px py : Int32) : Bool := (pre9 ar n).any (q_sS ar px py)
def q_isM (ar : rA) (n : Nat) : Bool := decide (¬ n = 0) && decide (¬ ar 13 (par9 ar n) = 0) && decide (ar 6 (40 * par9 ar n) = nI n)
def q_clpA (ar : rA) (px py : Int32) (a : Nat) : Bool := !(decide (0 < ar 14 (4 * a + 2))) || q_box (ar 14) (4 * a) (px - q_off ar 8 (chn ar a) 0) (py - q_off ar 9 (chn ar a) 0)
def q_mskA (ar : rA) (n : Nat) (px py : Int32) (a : Nat) : Bool := decide (a = n) || decide (ar 13 a = 0) || q_inT ar (kid ar a 0) px py
def q_okA (ar : rA) (n : Nat) (px py : Int32) (a : Nat) : Bool := decide (ar 12 a = 0) && !(q_isM ar a) && q_clpA ar px py a && q_mskA ar n px py a
def q_shown (ar : rA) (n : Nat) (px py : Int32) : Bool := q_sS ar px py n && (chn ar n).all (q_okA ar n px py)
def q_sn (ar : rA) (n : Nat) : Int32 := q_str ar (chn ar n)
def q_fn (ar : rA) (n : Nat) : Int32 := q_fill ar (chn ar n)
def q_lay (ar : rA) (v : Int32) (n : Nat) : Int32 := (v * (8 - q_sn ar n) + q_fn ar n * q_sn ar n) / 8
def q_mix (ar : rA) (px py v : Int32) (n : Nat) : Int32 := if q_shown ar n px py = true then q_lay ar v n else v
def q_val (ar : rA) (g : Int32) (L : List Nat) (px py : Int32) : Int32 := L.foldl (q_mix ar px py) g
def q_any (ar : rA) (L : List Nat) (px py : Int32) : Bool := L.any (fun n => q_shown ar n px py)
def q_hitL (ar : rA) (L : List Nat) (px py : Int32) : Int32 := L.foldl (fun r n => if (q_shown ar n px py && decide (0 < q_sn ar n)) = true then nI n else r) (-1)
theorem q_pre_sh {ar : rA} {cm n : Nat} (hw : wf ar cm) (hn : n < cm) (hp : ¬ ar 2 n = 0) (h3 : ¬ ar 3 n = 0) (px py : Int32) : q_inT ar n px py = q_inS ar n px py := by
  obtain ⟨m, m1, m2, m3, m4, m5⟩ := wf_mny hw hn hp
  rw [q_inT, wf_pre hw hn hp, m1, m4 h3, pks_0]
  simp [q_sS, h3]
theorem q_inT_gr {ar : rA} {cm n : Nat} (hw : wf ar cm) (hn : n < cm) (hp : ¬ ar 2 n = 0) (h3 : ar 3 n = 0) (px py : Int32) : q_inT ar n px py = (pks ar n (mny ar n)).any (q_sS ar px py) := by
  rw [q_inT, wf_pre hw hn hp]
  simp [q_sS, h3]
theorem pks_any {ar : rA} {n : Nat} {f : Nat → Bool} {k : Nat} : ∀ j, (pks ar n k).any f = true → (pks ar n (k + j)).any f = true
  | 0, h => h
  | j + 1, h => by
    rw [← Nat.add_assoc, pks_s, List.any_append, pks_any j h, Bool.true_or]
theorem take_s {l1 : List Nat} {k : Nat} (hk : k < l1.length) : l1.take (k + 1) = l1.take k ++ [l1.getD k 0] := by
  rw [List.take_succ, List.getD_eq_getElem?_getD, List.getElem?_eq_getElem hk]
  rfl
theorem q_val_s {ar : rA} {g : Int32} {L : List Nat} {px py : Int32} {k : Nat} (hk : k < L.length) : q_val ar g (L.take (k + 1)) px py = q_mix ar px py (q_val ar g (L.take k) px py) (L.getD k 0) := by
  rw [take_s hk, q_val, List.foldl_append]
  rfl
theorem q_hitL_s {ar : rA} {L : List Nat} {px py : Int32} {k : Nat} (hk : k < L.length) : q_hitL ar (L.take (k + 1)) px py = if (q_shown ar (L.getD k 0) px py && decide (0 < q_sn ar (L.getD k 0))) = true then nI (L.getD k 0) else q_hitL ar (L.take k) px py := by
  rw [take_s hk, q_hitL, List.foldl_append]
  rfl
theorem q_any_s {ar : rA} {L : List Nat} {px py : Int32} {k : Nat} (hk : k < L.length) : q_any ar (L.take (k + 1)) px py = (q_any ar (L.take k) px py || q_shown ar (L.getD k 0) px py) := by
  rw [take_s hk, q_any, List.any_append]
  simp [q_any]
theorem q_any_m {ar : rA} {L : List Nat} {px py : Int32} {k : Nat} (h : q_any ar (L.take k) px py = true) : q_any ar L px py = true := by
  unfold q_any at h ⊢
  obtain ⟨a, h1, h2⟩ := List.any_eq_true.mp h
  exact List.any_eq_true.mpr ⟨a, List.mem_of_mem_take h1, h2⟩
theorem wf_preL {ar : rA} {cm : Nat} (hw : wf ar cm) {n : Nat} (hn : n < cm) (hp : ¬ ar 2 n = 0) : ∀ k, k < (pre9 ar n).length → (pre9 ar n).getD k 0 < cm ∧ ¬ ar 2 ((pre9 ar n).getD k 0) = 0 := by
  intro k hk
  have h9 := wf_pre_ch hw n hn hp ((pre9 ar n).getD k 0) (by rw [List.getD_eq_getElem?_getD, List.getElem?_eq_getElem hk]; exact List.getElem_mem hk)
  exact ⟨h9.1, h9.2.1⟩

