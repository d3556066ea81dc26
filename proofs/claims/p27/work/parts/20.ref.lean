/-! ===== the reference: its world; t, c, g, u: what it threw, how many came, the ground, how many are ordered; ar: its arrays by field ===== -/
def upA {α : Type} (f : Nat → α) (k : Nat) (v : α) : Nat → α := fun j => if j = k then v else f j
theorem upA_s {α : Type} {f : Nat → α} {k : Nat} {v : α} : upA f k v k = v := if_pos rfl
theorem upA_n {α : Type} {f : Nat → α} {k j : Nat} {v : α} (h : j ≠ k) : upA f k v j = f j := if_neg h
theorem upA_upA {α : Type} {f : Nat → α} {k : Nat} {v w : α} : upA (upA f k v) k w = upA f k w := by
  funext j
  unfold upA
  by_cases h : j = k
  · rw [if_pos h, if_pos h]
  · rw [if_neg h, if_neg h, if_neg h]
def r_fs (G : Nat → Nat) (t c g u : Int32) : List Value := [.int t, .int c, .ref (G 2), .ref (G 3), .ref (G 4), .ref (G 5), .ref (G 6), .ref (G 7), .ref (G 8), .ref (G 9), .ref (G 10), .ref (G 11), .ref (G 12), .ref (G 13), .ref (G 14), .int g, .ref (G 16), .ref (G 17), .int u]
def r_isA (f : Nat) : Bool := !(f == 0) && !(f == 1) && !(f == 15) && Nat.blt f 18
def r_ty (f : Nat) : Nat := if f = 2 then 1 else if f = 12 then 1 else if f = 13 then 1 else 0
def r_len (f : Nat) : Nat := if f = 6 then 1600 else if f = 7 then 240 else if f = 14 then 160 else if f = 16 then 3072 else 40
abbrev rA : Type := Nat → Nat → Int32
section RW0
variable {D : mD} {G : Nat → Nat} {o : Nat} {F : Mm} {t c g u : Int32} {ar : rA} {M : Mm}
end RW0
section REF
variable {p : Program} {l : Launch} {e : Env} {R : Room} {s : State} {m : MethodId} {args : Array Value} {below : List Frame} {meth : Method} {c : Code} {nL : Nat} {D : mD} {A : Nat → Prop} {Q : State → Prop} {M : Mm} {k n : Nat} {L : List (Nat × Value)} {st : List Value} {pc : Nat} {cc : ByteArray} {Ts : List Cond} {own : String} {y0 : MethodName} {ret0 : Option FieldType} {G : Nat → Nat} {o : Nat} {F : Mm} {t cm g u : Int32} {ar : rA}
end REF
