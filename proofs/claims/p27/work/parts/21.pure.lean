/-! ===== what a drawing tells, by the reference's arrays ===== -/
def q_in (v lo hi : Int32) : Bool := decide (lo ≤ v) && decide (v ≤ hi)
def q_far (v : Int32) : Bool := !(q_in v (-100) 100)
def q_node (cm : Nat) (ar : rA) (v : Int32) : Bool := q_in v 0 (nI cm - 1) && decide (¬ ar 2 v.toNatClampNeg = 0)
def q_pix (x y : Int32) : Bool := q_in x 0 63 && q_in y 0 47
theorem q_in_t {v lo hi : Int32} : q_in v lo hi = true ↔ lo ≤ v ∧ v ≤ hi := by simp [q_in]
theorem q_in_N {v : Int32} {a : Nat} (ha : a < 2 ^ 31) (h : q_in v 0 (nI a) = true) : ∃ j : Nat, j ≤ a ∧ v = nI j := by
  obtain ⟨h1, h2⟩ := q_in_t.mp h
  obtain ⟨j, hj, rfl⟩ := nI_of (x := v) (Int32.not_lt.mpr h1)
  exact ⟨j, (nI_leI hj ha).mp h2, rfl⟩
theorem q_node_N {cm : Nat} {ar : rA} {v : Int32} (hcm : 1 ≤ cm ∧ cm ≤ 40) (h : q_in v 0 (nI cm - 1) = true) : ∃ j : Nat, j < cm ∧ v = nI j := by
  rw [show (1 : Int32) = nI 1 from rfl, pk_sub hcm.1] at h
  obtain ⟨j, hj, e⟩ := q_in_N (by omega) h
  exact ⟨j, by omega, e⟩
theorem q_node_J {cm : Nat} {ar : rA} {v : Int32} (hcm : 1 ≤ cm ∧ cm ≤ 40) (h : q_node cm ar v = true) : ∃ j : Nat, j < cm ∧ v = nI j ∧ ¬ ar 2 j = 0 := by
  unfold q_node at h
  rw [Bool.and_eq_true, decide_eq_true_eq] at h
  obtain ⟨j, hj, rfl⟩ := q_node_N (ar := ar) hcm h.1
  rw [nI_clamp (by omega)] at h
  exact ⟨j, hj, rfl, h.2⟩
/-- the way up from a node -/
def q_at : List Nat → Int32
  | [] => -1
  | a :: _ => nI a
def CH (ar : rA) : List Nat → Prop
  | [] => True
  | a :: t => a < 40 ∧ (t = [] ↔ a = 0) ∧ ar 4 a = q_at t ∧ CH ar t
/-- where a node is among the children of its parent -/
def q_pl (ar : rA) (p n : Nat) : Nat → Nat
  | 0 => 0
  | m + 1 => if q_pl ar p n m < m then q_pl ar p n m else if ar 6 (40 * p + m) = nI n then m else m + 1
def q_ins (ar : rA) (n p pl m : Nat) : rA := upA (upA (upA ar 6 (upd (va_cpy (ar 6) (ar 6) (40 * p + pl) (40 * p + pl + 1) (m - pl)) (40 * p + pl) (nI n))) 5 (upd (ar 5) p (nI (m + 1)))) 4 (upd (ar 4) n (nI p))
def q_out (ar : rA) (p pl m : Nat) : rA := upA (upA ar 5 (upd (ar 5) p (nI m))) 6 (va_cpy (ar 6) (ar 6) (40 * p + pl + 1) (40 * p + pl) (m - pl))
def q_new (ar : rA) (n : Nat) (sort : Int32) (sh : Nat → Int32) (w : Nat) : rA := upA (upA (upA (upA (upA ar 2 (upd (ar 2) n 1)) 3 (upd (ar 3) n sort)) 7 (va_cpy sh (ar 7) 0 (6 * n) w)) 10 (upd (ar 10) n (-1))) 11 (upd (ar 11) n 8)
/-- a node and all below it, the lower ones first -/
def q_pre (ar : rA) : Nat → Nat → List Nat
  | 0, _ => []
  | d + 1, n => n :: ((List.range (ar 5 n).toNatClampNeg).map (fun k => (ar 6 (40 * n + k)).toNatClampNeg)).flatMap (q_pre ar d)
def TR (ar : rA) : Nat → Nat → Prop
  | 0, _ => False
  | d + 1, n => n < 40 ∧ ∃ m : Nat, m ≤ 39 ∧ ar 5 n = nI m ∧ ∀ k, k < m → ∃ c : Nat, ar 6 (40 * n + k) = nI c ∧ c < 40 ∧ TR ar d c
def q_fill (ar : rA) : List Nat → Int32
  | [] => 255
  | a :: t => if ar 10 a = -1 then q_fill ar t else ar 10 a
def q_str (ar : rA) : List Nat → Int32
  | [] => 8
  | a :: t => q_str ar t * ar 11 a / 8
def q_hid (ar : rA) : List Nat → Bool
  | [] => false
  | a :: t => decide (¬ ar 12 a = 0) || q_hid ar t
def q_off (ar : rA) (f : Nat) (l : List Nat) (x : Int32) : Int32 := l.foldl (fun acc a => acc + ar f a) x
def q_cnt (ar : rA) : Nat → Nat
  | 0 => 0
  | n + 1 => q_cnt ar n + (if ar 2 n = 0 then 0 else 1)
def q_addk (cm : Nat) (ar : rA) (v so : Int32) (ok : Bool) : Int32 := if q_node cm ar v = false then 1 else if ok = false then 2 else if ¬ ar 3 v.toNatClampNeg = 0 ∨ nI cm = 40 then (if so = 0 then 2 else 3) else 0
def q_addS (cm : Nat) (ar : rA) (v so : Int32) (sh : Nat → Int32) (w : Nat) : rA := q_ins (q_new ar cm so sh w) cm v.toNatClampNeg (ar 5 v.toNatClampNeg).toNatClampNeg (ar 5 v.toNatClampNeg).toNatClampNeg
def q_clr (f : Nat → Int32) (l : List Nat) : Nat → Int32 := l.foldl (fun f a => upd f a 0) f
def q_tld (ar : rA) (l : List Nat) (k9 n w : Nat) : Int32 := if w = 0 then ar 3 n else if w = 1 then ar 4 n else if w = 2 then nI (if n = 0 then 0 else k9) else if w = 3 then ar 5 n else if w = 4 then ar 8 n else if w = 5 then ar 9 n else if w = 6 then ar 10 n else if w = 7 then q_fill ar l else if w = 8 then ar 11 n else if w = 9 then q_str ar l else if w = 10 then (if ¬ ar 12 n = 0 then 1 else if q_hid ar l.tail = true then 2 else 0) else if w = 11 then (if 0 < ar 14 (4 * n + 2) then 1 else 0) else if ¬ ar 13 n = 0 then 1 else 0

