/-! ===== the class's state: what its world holds, in the reference's arrays. fi: x, y, fill, strength, hiding; nl: covered, open, shown; L: the order; rw: the row ===== -/
def kids (ar : rA) (n : Nat) : List Nat := (List.range (mny ar n)).map (kid ar n)
theorem kids_len (ar : rA) (n : Nat) : (kids ar n).length = mny ar n := by simp [kids]
theorem kids_at {ar : rA} {n k : Nat} (h : k < mny ar n) : (kids ar n).getD k 0 = kid ar n k := by
  rw [List.getD_eq_getElem?_getD, kids, List.getElem?_map, List.getElem?_range h]
  rfl
def cP (ar : rA) (cm n : Nat) : Prop := n < cm ∧ ¬ ar 2 n = 0
def nSh (Z : Nat → Nat) (ar : rA) (n : Nat) : Option Nat := if ar 3 n = 0 then none else some (Z (400 + n))
def nPa (Z : Nat → Nat) (ar : rA) (n : Nat) : Option Nat := if n = 0 then none else some (Z (100 + par9 ar n))
def nCl (Z : Nat → Nat) (ar : rA) (n : Nat) : Option Nat := if 0 < ar 14 (4 * n + 2) then some (Z (900 + n)) else none
def nF (Z : Nat → Nat) (ar : rA) (fi : Nat → Nat → Int32) (nl : Nat → Nat → Int64) (n : Nat) : List Value := [.int (nI n), va_rf (nSh Z ar n), .ref (Z (200 + n)), va_rf (nPa Z ar n), .int (ar 8 n), .int (ar 9 n), .int (ar 10 n), .int (ar 11 n), .int (ar 12 n), .int (ar 13 n), va_rf (nCl Z ar n), .int (fi 0 n), .int (fi 1 n), .int (fi 2 n), .int (fi 3 n), .int (fi 4 n), .long (nl 0 n), .long (nl 1 n), .long (nl 2 n)]
def naF (Z : Nat → Nat) (cm : Nat) (ar : rA) : Nat → Option Nat := fun n => if n < cm ∧ ¬ ar 2 n = 0 then some (Z (100 + n)) else none
def mfF (Z : Nat → Nat) (cm : Nat) (g : Int32) : List Value := [.ref (Z 1), .ref (Z 100), .ref (Z 240), .ref (Z 2), .ref (Z 3), .int (nI cm), .int g]
def lsF (ar : rA) (L : List Nat) : Nat → List Nat := fun i => if i = 40 then L else kids ar i
/-- a node's shape, its box and corners, and its clip's box: none of them ever changes -/
def sFx (Z : Nat → Nat) (ar : rA) (n : Nat) (F : Mm) : Prop :=
  (ar 3 n = 1 → F (Z (400 + n)) = some (.inr (7, [.int 1, .ref (Z (500 + n))])) ∧ F (Z (500 + n)) = some (.inr (3, [.int (ar 7 (6 * n)), .int (ar 7 (6 * n + 1)), .int (ar 7 (6 * n) + ar 7 (6 * n + 2)), .int (ar 7 (6 * n + 1) + ar 7 (6 * n + 3))]))) ∧
  (ar 3 n = 2 → F (Z (400 + n)) = some (.inr (5, [.int 2, .ref (Z (500 + n)), .int (ar 7 (6 * n)), .int (ar 7 (6 * n + 1)), .int (ar 7 (6 * n + 2))])) ∧ ∃ lf tp rt bt : Int32, F (Z (500 + n)) = some (.inr (3, [.int lf, .int tp, .int rt, .int bt])) ∧ lf = ar 7 (6 * n) - ar 7 (6 * n + 2) ∧ tp = ar 7 (6 * n + 1) - ar 7 (6 * n + 2) ∧ rt = ar 7 (6 * n) + ar 7 (6 * n + 2) ∧ bt = ar 7 (6 * n + 1) + ar 7 (6 * n + 2)) ∧
  (ar 3 n = 3 → F (Z (400 + n)) = some (.inr (8, [.int 3, .ref (Z (500 + n)), .ref (Z (600 + n)), .ref (Z (700 + n)), .ref (Z (800 + n))])) ∧ F (Z (600 + n)) = some (.inr (4, [.int (ar 7 (6 * n)), .int (ar 7 (6 * n + 1))])) ∧ F (Z (700 + n)) = some (.inr (4, [.int (ar 7 (6 * n + 2)), .int (ar 7 (6 * n + 3))])) ∧ F (Z (800 + n)) = some (.inr (4, [.int (ar 7 (6 * n + 4)), .int (ar 7 (6 * n + 5))])) ∧
    ∃ lf tp rt bt : Int32, F (Z (500 + n)) = some (.inr (3, [.int lf, .int tp, .int rt, .int bt])) ∧ lf.toInt = min (ar 7 (6 * n)).toInt (min (ar 7 (6 * n + 2)).toInt (ar 7 (6 * n + 4)).toInt) ∧ tp.toInt = min (ar 7 (6 * n + 1)).toInt (min (ar 7 (6 * n + 3)).toInt (ar 7 (6 * n + 5)).toInt) ∧ rt.toInt = max (ar 7 (6 * n)).toInt (max (ar 7 (6 * n + 2)).toInt (ar 7 (6 * n + 4)).toInt) ∧ bt.toInt = max (ar 7 (6 * n + 1)).toInt (max (ar 7 (6 * n + 3)).toInt (ar 7 (6 * n + 5)).toInt)) ∧
  (0 < ar 14 (4 * n + 2) → F (Z (900 + n)) = some (.inr (3, [.int (ar 14 (4 * n)), .int (ar 14 (4 * n + 1)), .int (ar 14 (4 * n) + ar 14 (4 * n + 2)), .int (ar 14 (4 * n + 1) + ar 14 (4 * n + 3))])))
def cS (D : mD) (Z : Nat → Nat) (F : Mm) (cm : Nat) (g : Int32) (ar : rA) (fi : Nat → Nat → Int32) (nl : Nat → Nat → Int64) (L : List Nat) (rw : Nat → Int32) (M : Mm) : Prop :=
  cW D Z (cP ar cm) (nF Z ar fi nl) (lsF ar L) (naF Z cm ar) (ar 16) rw (mfF Z cm g) F M ∧ ∀ n, cP ar cm n → sFx Z ar n F
section CS
variable {D : mD} {Z : Nat → Nat} {F : Mm} {cm : Nat} {g : Int32} {ar : rA} {fi : Nat → Nat → Int32} {nl : Nat → Nat → Int64} {L : List Nat} {rw : Nat → Int32} {M : Mm}
/-- fields x .. hiding of one node, set -/
def fi1 (fi : Nat → Nat → Int32) (j n : Nat) (v : Int32) : Nat → Nat → Int32 := upA fi j (upA (fi j) n v)
def nl1 (nl : Nat → Nat → Int64) (j n : Nat) (v : Int64) : Nat → Nat → Int64 := upA nl j (upA (nl j) n v)
theorem fi1_o {j n m i : Nat} {v : Int32} (h : m ≠ n) : fi1 fi j n v i m = fi i m := by
  unfold fi1
  by_cases z : i = j
  · rw [z, upA_s, upA_n h]
  · rw [upA_n z]
theorem nl1_o {j n m i : Nat} {v : Int64} (h : m ≠ n) : nl1 nl j n v i m = nl i m := by
  unfold nl1
  by_cases z : i = j
  · rw [z, upA_s, upA_n h]
  · rw [upA_n z]
theorem nF_fi {j n : Nat} {v : Int32} : upA (nF Z ar fi nl) n (nF Z ar (fi1 fi j n v) nl n) = nF Z ar (fi1 fi j n v) nl := by
  funext m
  by_cases z : m = n
  · rw [z, upA_s]
  · rw [upA_n z]
    unfold nF
    rw [fi1_o z, fi1_o z, fi1_o z, fi1_o z, fi1_o z]
theorem nF_nl {j n : Nat} {v : Int64} : upA (nF Z ar fi nl) n (nF Z ar fi (nl1 nl j n v) n) = nF Z ar fi (nl1 nl j n v) := by
  funext m
  by_cases z : m = n
  · rw [z, upA_s]
  · rw [upA_n z]
    unfold nF
    rw [nl1_o z, nl1_o z, nl1_o z]
theorem cS.sfi (h : cS D Z F cm g ar fi nl L rw M) {n : Nat} (hn : cP ar cm n) (j : Nat) (v : Int32) : cS D Z F cm g ar (fi1 fi j n v) nl L rw (m_up M (Z (100 + n)) (.inr (6, nF Z ar (fi1 fi j n v) nl n))) := ⟨by
  have := h.1.node hn (nF Z ar (fi1 fi j n v) nl n)
  rw [nF_fi] at this
  exact this, h.2⟩
theorem cS.snl (h : cS D Z F cm g ar fi nl L rw M) {n : Nat} (hn : cP ar cm n) (j : Nat) (v : Int64) : cS D Z F cm g ar fi (nl1 nl j n v) L rw (m_up M (Z (100 + n)) (.inr (6, nF Z ar fi (nl1 nl j n v) n))) := ⟨by
  have := h.1.node hn (nF Z ar fi (nl1 nl j n v) n)
  rw [nF_nl] at this
  exact this, h.2⟩
end CS
