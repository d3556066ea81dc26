/-! ===== rows for the law: handlers, calls of methods with handlers, the script ===== -/
/-- who takes an exception E at pc: the row h of this method's table -/
def mK (c : Code) (s : State) (args : Array Value) (own : String) (pc : Nat) (E : String) (h : Nat) : Prop := ∃ (pre : List ExceptionTableEntry) (x : ExceptionTableEntry) (suf : List ExceptionTableEntry), c.exceptionTable.toList = pre ++ x :: suf ∧ (∀ z ∈ pre, covers z pc = false ∨ (z.catchType ≠ 0 ∧ ∃ nm : String, (Cond.classLink own z.catchType nm).before args s = true ∧ va_Nc E nm s)) ∧ covers x pc = true ∧ x.catchType ≠ 0 ∧ (∃ name : String, (Cond.classLink own x.catchType name).before args s = true ∧ (Cond.castable E name).before args s = true) ∧ x.handlerPc = h
section MEMH
variable {p : Program} {l : Launch} {e : Env} {R : Room} {s : State} {m : MethodId} {args : Array Value} {below : List Frame} {meth : Method} {c : Code} {nL : Nat} {D : mD} {A : Nat → Prop} {Q : State → Prop} {M : Mm} {k n : Nat} {L : List (Nat × Value)} {st : List Value} {pc : Nat} {cc : ByteArray} {Ts : List Cond} {own : String} {y0 : MethodName} {ret0 : Option FieldType}
theorem m_callVXiH (C : mC p m meth c cc nL s args Ts own D A y0 ret0) {y1 : MethodName} {ws1 : List Cond} {rm : Room} {bytes1 : ByteArray} {maxL1 mc ms nA index : Nat} {ret1 : Option FieldType} {px1 : String → Mm → Prop} {post : Int32 → Mm → Prop} {As : List Value} {b ci : Nat} {fs : List Value} {qc : vw_C} (hb : M b = some (.inr (ci, fs))) (hc : vwCl[ci]? = some qc) (hM : vx_Met l y1 ws1 rm (mPc D A (.ref b :: As) M) (va_Qi post (mB D A) A) (mXC D A px1) mc ms A) (cw : CallW R s args own qc.1 index y1 bytes1 maxL1 ret1 ws1 rm mc ms nA) (hn : As.length = nA) {st0 : List Value} (hst : st0 = As.reverse ++ .ref b :: st) (hsm : (st.map fun v => v.category).sum ≤ 8) (d : decode cc pc = .ok (.invokevirtual index, 3)) (hf : k + mc ≤ R.cells ∧ n + ms ≤ R.slots)
    (kx : ∀ (E : String) (M' : Mm), px1 E M' → ∃ h : Nat, mK c s args own pc E h ∧ ∀ q : Nat, mV p l e R s m args below meth c nL D A Q M' (k + mc) (n + ms) L [.ref q] h)
    (kk : ∀ (r : Int32) (M' : Mm), post r M' → mV p l e R s m args below meth c nL D A Q M' (k + mc) (n + ms) L (.int r :: st) (pc + 3)) : mV p l e R s m args below meth c nL D A Q M k n L st0 pc := by
  intro H locs ls hW hS hl
  subst hst
  exact vx_calli (vx_runV (As := As) (rest := st) C.1 hM cw ⟨mP_blind, m_recv C hW hb hc, fun U hU hw => mP_at C hW hS U hU hw⟩ rfl hn hl.1 rfl (lv_room hsm) d hf) hS (fun q _ h => h) (fun q h => h) (fun q _ h => h) (fun E ce q9 u t H1 locs1 ht hvm hp hB hz hk hS1 h9 hv9 hc9 => by
      obtain ⟨h, ⟨pre, x, suf, e1, e2, e3, e4, ⟨nm, e5, e6⟩, e7⟩, kv⟩ := kx E u hB.1
      refine vx_catch C.1.2.2.2.1 pre x suf e1 e2 e3 e4 e5 e6 h9 hv9 hc9 ?_
      rw [e7]
      exact kv q9 H1 locs1 ls (by rw [← ht]; exact hB.2) hS1 hl) (fun r u t H1 locs1 ht hvm hp hB hz hk hS1 => kk r u hp H1 locs1 ls (by rw [← ht]; exact hB) hS1 hl)
/-- the script's ints, and its length -/
theorem m_sld (C : mC p m meth c cc nL s args Ts own D A y0 ret0) {b N : Nat} {xs : Nat → Int32} (hX : va_X b N xs s s.heap) (hbl : b < s.heap.size) (hbA : ¬ A b) {i : Int32} (hin : vp_in i N) (d : decode cc pc = .ok (.iaload, 1)) (kk : mV p l e R s m args below meth c nL D A Q M k n L (.int (xs i.toNatClampNeg) :: st) (pc + 1)) : mV p l e R s m args below meth c nL D A Q M k n L (.int i :: .ref b :: st) pc := by
  intro H locs ls hW hS hl
  exact va_sld C.1.1 C.1.2.1 hX hbl hbA hS hin d (kk H locs ls hW hS hl)
theorem m_slen (C : mC p m meth c cc nL s args Ts own D A y0 ret0) {b N : Nat} {xs : Nat → Int32} (hX : va_X b N xs s s.heap) (hbl : b < s.heap.size) (hbA : ¬ A b) (d : decode cc pc = .ok (.arraylength, 1)) (kk : mV p l e R s m args below meth c nL D A Q M k n L (.int (Int32.ofNat N) :: st) (pc + 1)) : mV p l e R s m args below meth c nL D A Q M k n L (.ref b :: st) pc := by
  intro H locs ls hW hS hl
  exact va_slen C.1.1 C.1.2.1 hX hbl hbA hS d (kk H locs ls hW hS hl)
end MEMH
