/-! ===== rows for the law: handlers, calls of methods with handlers, the script ===== -/
/-- who takes an exception E at pc: the row h of this method's table -/
def mK (c : Code) (s : State) (args : Array Value) (own : String) (pc : Nat) (E : String) (h : Nat) : Prop := ∃ (pre : List ExceptionTableEntry) (x : ExceptionTableEntry) (suf : List ExceptionTableEntry), c.exceptionTable.toList = pre ++ x :: suf ∧ (∀ z ∈ pre, covers z pc = false ∨ (z.catchType ≠ 0 ∧ ∃ nm : String, (Cond.classLink own z.catchType nm).before args s = true ∧ va_Nc E nm s)) ∧ covers x pc = true ∧ x.catchType ≠ 0 ∧ (∃ name : String, (Cond.classLink own x.catchType name).before args s = true ∧ (Cond.castable E name).before args s = true) ∧ x.handlerPc = h
theorem m_startH {D : mD} {A : Nat → Prop} {l : Launch} {y : MethodName} {ws ws' : List Cond} {rm : Room} {As : List Value} {M : Mm} {Qc : Array Value → State → Outcome → State → Prop} {px : String → Mm → Prop} {mc ms : Nat} {cc : ByteArray} {maxL : Nat} {ret : Option FieldType} {hh : List (Nat × Nat × Nat × Nat)}
    (hy : plainName y.cls = true) (hw : ws = Cond.codeWith y cc maxL ret hh :: ws') (hn : (lg_sl As).length ≤ maxL)
    (body : ∀ (p : Program) (e : Env) (s : State) (m : MethodId) (args : Array Value) (below : List Frame) (meth : Method) (c : Code), mC p m meth c cc maxL s args ws y.cls D A y ret → c.exceptionTable.toList = tableOf hh → mV p l e rm s m args below meth c maxL D A (vx_MQ below Qc (mXC D A px) args s mc ms A) M 0 0 (lv_args 0 As) [] 0) : mMetX D A l y ws rm As M Qc px mc ms := by
  refine vx_ofWH (cc := cc) (maxL := maxL) (ret := ret) (hh := hh) hy hw ?_
  intro p e s m args below meth c s₁ B hml hv
  obtain ⟨rfl, hW, hG⟩ := hv
  have C : mC p m meth c cc maxL s As.toArray ws y.cls D A y ret := ⟨⟨B.exec, B.bytes, hml, findClass_of_methodNamed B.named, atoms_spec (ws := ws) B.pre⟩, hG, B.notSynchronized, (name_of_methodNamed B.named B.method).1, B.returns⟩
  have hT : c.exceptionTable.toList = tableOf hh := vx_table (x := y) (bytes := cc) (maxL' := maxL) (ret' := ret) B (atoms_spec (ws := ws) B.pre _ (by rw [hw]; exact List.mem_cons_self))
  have hl := lv_entry As (n := maxL) hn
  rw [lg_entry_eq]
  exact body p e s m As.toArray below meth c C hT s.heap [] _ hW va_S.rf hl
section MEMH
variable {p : Program} {l : Launch} {e : Env} {R : Room} {s : State} {m : MethodId} {args : Array Value} {below : List Frame} {meth : Method} {c : Code} {nL : Nat} {D : mD} {A : Nat → Prop} {Q : State → Prop} {M : Mm} {k n : Nat} {L : List (Nat × Value)} {st : List Value} {pc : Nat} {cc : ByteArray} {Ts : List Cond} {own : String} {y0 : MethodName} {ret0 : Option FieldType}
theorem m_callVXiH (C : mC p m meth c cc nL s args Ts own D A y0 ret0) {y1 : MethodName} {ws1 : List Cond} {rm : Room} {bytes1 : ByteArray} {maxL1 mc ms nA index : Nat} {ret1 : Option FieldType} {px1 : String → Mm → Prop} {post : Int32 → Mm → Prop} {As : List Value} {b ci : Nat} {fs : List Value} {qc : vw_C} (hb : M b = some (.inr (ci, fs))) (hc : vwCl[ci]? = some qc) (hM : vx_Met l y1 ws1 rm (mPc D A (.ref b :: As) M) (va_Qi post (mB D A) A) (mXC D A px1) mc ms A) (cw : CallW R s args own qc.1 index y1 bytes1 maxL1 ret1 ws1 rm mc ms nA) (hn : As.length = nA) {st0 : List Value} (hst : st0 = As.reverse ++ .ref b :: st) (hsm : (st.map fun v => v.category).sum ≤ 8) (d : decode cc pc = .ok (.invokevirtual index, 3)) (hf : k + mc ≤ R.cells ∧ n + ms ≤ R.slots)
    (kx : ∀ (E : String) (M' : Mm), px1 E M' → ∃ h : Nat, mK c s args own pc E h ∧ ∀ q : Nat, mV p l e R s m args below meth c nL D A Q M' (k + mc) (n + ms) L [.ref q] h)
    (kk : ∀ (r : Int32) (M' : Mm), post r M' → mV p l e R s m args below meth c nL D A Q M' (k + mc) (n + ms) L (.int r :: st) (pc + 3)) : mV p l e R s m args below meth c nL D A Q M k n L st0 pc := by
  intro H locs ls hW hS hl
  subst hst
  exact vx_calli (vx_runV (As := As) (rest := st) C.1 hM cw ⟨mP_blind, m_recv C hW hb hc, fun U hU hw => mP_at C hW hS U hU hw⟩ rfl hn hl.1 rfl (lv_room hsm) d hf) hS (fun q _ h => h) (fun q h => h) (fun q _ h => h) (fun E ce q9 u t H1 locs1 ht hvm hp hB hz hk hS1 h9 hv9 hc9 => by
      obtain ⟨h, ⟨pre, x, suf, e1, e2, e3, e4, ⟨nm, e5, e6⟩, e7⟩, kv⟩ := kx E u hB.1
      refine vx_catch C.1.2.2.2.1 pre x suf e1 e2 e3 e4 e5 e6 h9 hv9 hc9 ?_
      rw [e7]
      exact kv q9 H1 locs1 ls (by rw [← ht]; exact hB.2) hS1 hl) (fun r u t H1 locs1 ht hvm hp hB hz hk hS1 => kk r u hp H1 locs1 ls (by rw [← ht]; exact hB) hS1 hl)
theorem m_callSHi (C : mC p m meth c cc nL s args Ts own D A y0 ret0) {y1 : MethodName} {ws1 : List Cond} {rm : Room} {bytes1 : ByteArray} {maxL1 mc ms nA index : Nat} {ret1 : Option FieldType} {hh : List (Nat × Nat × Nat × Nat)} {post : Int32 → Mm → Prop} {As : List Value} (hM : vx_Met l y1 ws1 rm (mPc D A As M) (va_Qi post (mB D A) A) (mXC D A (fun _ _ => False)) mc ms A) (cw : vx_CSW R s args own index y1 bytes1 maxL1 ret1 hh ws1 rm mc ms nA) (hn : As.length = nA) {st0 : List Value} (hst : st0 = As.reverse ++ st) (hsm : (st.map fun v => v.category).sum ≤ 8) (d : decode cc pc = .ok (.invokestatic index, 3)) (hf : k + mc ≤ R.cells ∧ n + ms ≤ R.slots)
    (kk : ∀ (r : Int32) (M' : Mm), post r M' → mV p l e R s m args below meth c nL D A Q M' (k + mc) (n + ms) L (.int r :: st) (pc + 3)) : mV p l e R s m args below meth c nL D A Q M k n L st0 pc := by
  intro H locs ls hW hS hl
  subst hst
  exact vx_calli (vx_runSX (As := As) (rest := st) C.1 hM cw ⟨mP_blind, fun U hU hw => mP_at C hW hS U hU hw⟩ rfl hn hl.1 rfl (lv_room hsm) d hf) hS (fun q _ h => h) (fun q h => h) (fun q _ h => h) (fun E ce q9 u t H1 locs1 ht hvm hp hB hz hk hS1 h9 hv9 hc9 => hB.1.elim) (fun r u t H1 locs1 ht hvm hp hB hz hk hS1 => kk r u hp H1 locs1 ls (by rw [← ht]; exact hB) hS1 hl)
/-- the script's ints, and its length -/
theorem m_sld (C : mC p m meth c cc nL s args Ts own D A y0 ret0) {b N : Nat} {xs : Nat → Int32} (hX : va_X b N xs s s.heap) (hbl : b < s.heap.size) (hbA : ¬ A b) {i : Int32} (hin : vp_in i N) (d : decode cc pc = .ok (.iaload, 1)) (kk : mV p l e R s m args below meth c nL D A Q M k n L (.int (xs i.toNatClampNeg) :: st) (pc + 1)) : mV p l e R s m args below meth c nL D A Q M k n L (.int i :: .ref b :: st) pc := by
  intro H locs ls hW hS hl
  exact va_sld C.1.1 C.1.2.1 hX hbl hbA hS hin d (kk H locs ls hW hS hl)
theorem m_slen (C : mC p m meth c cc nL s args Ts own D A y0 ret0) {b N : Nat} {xs : Nat → Int32} (hX : va_X b N xs s s.heap) (hbl : b < s.heap.size) (hbA : ¬ A b) (d : decode cc pc = .ok (.arraylength, 1)) (kk : mV p l e R s m args below meth c nL D A Q M k n L (.int (Int32.ofNat N) :: st) (pc + 1)) : mV p l e R s m args below meth c nL D A Q M k n L (.ref b :: st) pc := by
  intro H locs ls hW hS hl
  exact va_slen C.1.1 C.1.2.1 hX hbl hbA hS d (kk H locs ls hW hS hl)
theorem mC.E (C : mC p m meth c cc nL s args Ts own D A y0 ret0) : mE s := C.2.1.2.2.2.2.2.1.1.2
/-- a row of a table of handlers: those ahead name other classes -/
theorem mK_at (C : mC p m meth c cc nL s args Ts own D A y0 ret0) (pre : List (Nat × Nat × Nat × Nat)) {a b h1 i1 : Nat} (suf : List (Nat × Nat × Nat × Nat)) (hT : c.exceptionTable.toList = tableOf (pre ++ (a, b, h1, i1) :: suf)) {E : String} (hpre : ∀ z ∈ pre, ¬ z.2.2.2 = 0 ∧ ∃ nm : String, Cond.classLink own z.2.2.2 nm ∈ Ts ∧ (E, nm) ∈ m_ncs) (hp : a ≤ pc ∧ pc < b) (hi : ¬ i1 = 0) (h8 : Cond.classLink own i1 E ∈ Ts) (hE : Cond.castable E E ∈ m_bad) : mK c s args own pc E h1 := by
  refine ⟨tableOf pre, ⟨a, b, h1, i1⟩, tableOf suf, by rw [hT]; simp [tableOf], fun z hz => ?_, ?_, hi, ⟨E, C.1.2.2.2.2 _ h8, va_Nw.use rfl (C.E.1 _ hE)⟩, rfl⟩
  · obtain ⟨q, hq, rfl⟩ := List.mem_map.mp hz
    obtain ⟨h2, nm, h3, h4⟩ := hpre q hq
    exact Or.inr ⟨h2, nm, C.1.2.2.2.2 _ h3, C.E.2 _ h4⟩
  · simp [covers, hp.1, hp.2]
end MEMH
