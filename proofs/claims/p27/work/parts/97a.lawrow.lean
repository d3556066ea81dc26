/-! ===== rows for methods that read the script ===== -/
/-- the script lies where nothing is written -/
def eX (A : Nat → Prop) (b L : Nat) (xs : Nat → Int32) (U : State) : Prop := va_X b L xs U U.heap ∧ b < U.heap.size ∧ ¬ A b
abbrev ePc (D : mD) (A : Nat → Prop) (b L : Nat) (xs : Nat → Int32) (As : List Value) (M : Mm) : Array Value → State → Prop := fun a U => mPc D A As M a U ∧ eX A b L xs U
theorem eP_blind {D : mD} {A : Nat → Prop} {b L : Nat} {xs : Nat → Int32} {As : List Value} {M : Mm} : FrameBlind (ePc D A b L xs As M) := fun a U g mk h => ⟨mP_blind a U g mk h.1, va_X.moved (u := U) (U := U.calling g mk a) (Vm.Alike.refl _) h.2.1, h.2.2⟩
abbrev eMi (D : mD) (A : Nat → Prop) (b L : Nat) (xs : Nat → Int32) (l : Launch) (y : MethodName) (ws : List Cond) (rm : Room) (As : List Value) (M : Mm) (post : Int32 → Mm → Prop) (mc ms : Nat) : Prop := Met l y ws rm (ePc D A b L xs As M) (va_Qi post (mB D A) A) mc ms A
theorem e_start {D : mD} {A : Nat → Prop} {b L : Nat} {xs : Nat → Int32} {l : Launch} {y : MethodName} {ws ws' : List Cond} {rm : Room} {As : List Value} {M : Mm} {Qc : Array Value → State → Outcome → State → Prop} {mc ms : Nat} {cc : ByteArray} {maxL : Nat} {ret : Option FieldType}
    (hy : plainName y.cls = true) (hw : ws = Cond.code y cc maxL ret :: ws') (hn : (lg_sl As).length ≤ maxL)
    (body : ∀ (p : Program) (e : Env) (s : State) (m : MethodId) (args : Array Value) (below : List Frame) (meth : Method) (c : Code), mC p m meth c cc maxL s args ws y.cls D A y ret → eX A b L xs s → mV p l e rm s m args below meth c maxL D A (MQ below Qc args s mc ms A) M 0 0 (lv_args 0 As) [] 0) : Met l y ws rm (ePc D A b L xs As M) Qc mc ms A := by
  refine Met.ofW (cc := cc) (maxL := maxL) (ret := ret) hy hw ?_
  intro p e s m args below meth c s₁ B hml hv
  obtain ⟨⟨rfl, hW, hG⟩, hE⟩ := hv
  have C : mC p m meth c cc maxL s As.toArray ws y.cls D A y ret := ⟨⟨B.exec, B.bytes, hml, findClass_of_methodNamed B.named, atoms_spec (ws := ws) B.pre⟩, hG, B.notSynchronized, (name_of_methodNamed B.named B.method).1, B.returns⟩
  have hl := lv_entry As (n := maxL) hn
  rw [lg_entry_eq]
  exact body p e s m As.toArray below meth c C hE s.heap [] _ hW va_S.rf hl
section MEME
variable {p : Program} {l : Launch} {e : Env} {R : Room} {s : State} {m : MethodId} {args : Array Value} {below : List Frame} {meth : Method} {c : Code} {nL : Nat} {D : mD} {A : Nat → Prop} {Q : State → Prop} {M : Mm} {k n : Nat} {L : List (Nat × Value)} {st : List Value} {pc : Nat} {cc : ByteArray} {Ts : List Cond} {own : String} {y0 : MethodName} {ret0 : Option FieldType}
theorem e_callSi (C : mC p m meth c cc nL s args Ts own D A y0 ret0) {b N : Nat} {xs : Nat → Int32} (hE : eX A b N xs s) {y1 : MethodName} {ws1 : List Cond} {rm : Room} {bytes1 : ByteArray} {maxL1 mc ms nA index : Nat} {ret1 : Option FieldType} {post : Int32 → Mm → Prop} {As : List Value} (hM : eMi D A b N xs l y1 ws1 rm As M post mc ms) (cw : CallB R s args own index y1 bytes1 maxL1 ret1 ws1 rm mc ms nA ∧ (Cond.static y1).before args s = true) (hn : As.length = nA) {st0 : List Value} (hst : st0 = As.reverse ++ st) (hsm : (st.map fun v => v.category).sum ≤ 8) (d : decode cc pc = .ok (.invokestatic index, 3)) (hf : k + mc ≤ R.cells ∧ n + ms ≤ R.slots) (kk : ∀ (r : Int32) (M' : Mm), post r M' → mV p l e R s m args below meth c nL D A Q M' (k + mc) (n + ms) L (.int r :: st) (pc + 3)) : mV p l e R s m args below meth c nL D A Q M k n L st0 pc := by
  intro H locs ls hW hS hl
  subst hst
  refine va_calli (va_runS (As := As) (rest := st) C.1 hM cw ⟨eP_blind, fun U hU hw => ⟨mP_at C hW hS U hU hw, ?_⟩⟩ rfl hn hl.1 rfl (lv_room hsm) d hf) hS (fun q _ h => h) (fun q h => h) (fun r u t H1 locs1 ht hvm hp hB hz hk hS1 => kk r u hp H1 locs1 ls (by rw [← ht]; exact hB) hS1 hl)
  refine ⟨va_X.moved hw.alike ?_, ?_, hE.2.2⟩
  · rw [hU]
    exact va_X.kept hE.1 (hS.2.1 b hE.2.1 hE.2.2)
  · rw [hU]
    exact Nat.lt_of_lt_of_le hE.2.1 hS.1
end MEME
