/-! ===== the class: what a node has from above ===== -/
section FI
variable {Z : Nat → Nat} {ar : rA} {fi : Nat → Nat → Int32} {nl : Nat → Nat → Int64} {n : Nat} {v : Int32} {w : Int64}
theorem nF_sf0 : (nF Z ar fi nl n).set 11 (.int v) = nF Z ar (fi1 fi 0 n v) nl n := by simp [nF, fi1, upA]
theorem nF_sf1 : (nF Z ar fi nl n).set 12 (.int v) = nF Z ar (fi1 fi 1 n v) nl n := by simp [nF, fi1, upA]
theorem nF_sf2 : (nF Z ar fi nl n).set 13 (.int v) = nF Z ar (fi1 fi 2 n v) nl n := by simp [nF, fi1, upA]
theorem nF_sf3 : (nF Z ar fi nl n).set 14 (.int v) = nF Z ar (fi1 fi 3 n v) nl n := by simp [nF, fi1, upA]
theorem nF_sf4 : (nF Z ar fi nl n).set 15 (.int v) = nF Z ar (fi1 fi 4 n v) nl n := by simp [nF, fi1, upA]
theorem nF_sn0 : (nF Z ar fi nl n).set 16 (.long w) = nF Z ar fi (nl1 nl 0 n w) n := by simp [nF, nl1, upA]
theorem nF_sn1 : (nF Z ar fi nl n).set 17 (.long w) = nF Z ar fi (nl1 nl 1 n w) n := by simp [nF, nl1, upA]
theorem nF_sn2 : (nF Z ar fi nl n).set 18 (.long w) = nF Z ar fi (nl1 nl 2 n w) n := by simp [nF, nl1, upA]
theorem fi1_s {j : Nat} : fi1 fi j n v j n = v := by unfold fi1; rw [upA_s, upA_s]
theorem fi1_j {i j m : Nat} (h : i ≠ j) : fi1 fi j n v i m = fi i m := by unfold fi1; rw [upA_n h]
theorem nl1_s {j : Nat} : nl1 nl j n w j n = w := by unfold nl1; rw [upA_s, upA_s]
theorem nl1_j {i j m : Nat} (h : i ≠ j) : nl1 nl j n w i m = nl i m := by unfold nl1; rw [upA_n h]
end FI
/-- what inherit gives a node, out of its parent's -/
def q_inh (ar : rA) (fi : Nat → Nat → Int32) (n : Nat) : Nat → Int32
  | 0 => if n = 0 then ar 8 n else fi 0 (par9 ar n) + ar 8 n
  | 1 => if n = 0 then ar 9 n else fi 1 (par9 ar n) + ar 9 n
  | 2 => if ar 10 n = -1 then (if n = 0 then 255 else fi 2 (par9 ar n)) else ar 10 n
  | 3 => (if n = 0 then 8 else fi 3 (par9 ar n)) * ar 11 n / 8
  | 4 => if ar 12 n = 0 then (if n = 0 then 0 else if fi 4 (par9 ar n) = 0 then 0 else 2) else 1
  | _ + 5 => 0

