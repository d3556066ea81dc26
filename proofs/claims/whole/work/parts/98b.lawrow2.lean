/-! ===== the law's own rows: its script, its comparisons ===== -/
def sX (xs : Nat → Int32) (i j : Nat) : Int32 := xs (nI i + nI j).toNatClampNeg
/-- what the law's walk stands on -/
def lX (p : Program) (m : MethodId) (meth : Method) (c : Code) (s : State) (args : Array Value) (D : mD) (A : Nat → Prop) (y0 : MethodName) (ret0 : Option FieldType) (b N : Nat) (xs : Nat → Int32) (l : Launch) : Prop := mC p m meth c cL_law 9 s args wsL_law RL D A y0 ret0 ∧ va_X b N xs s s.heap ∧ b < s.heap.size ∧ ¬ A b ∧ N ≤ 4096 ∧ l.stackTraces = false
/-- between two calls of the script -/
def lJ (D : mD) (o1 : Nat) (G : Nat → Nat) (o2 q3 : Nat) (M : Mm) : Prop := ∃ (Z : Nat → Nat) (cm : Nat) (g : Int32) (ar : rA) (aw : Nat → Int64), Z 0 = o1 ∧ lI D Z G o2 q3 cm g ar cm g ar aw M ∧ lP cm ar
section LAWR
variable {p : Program} {l : Launch} {e : Env} {R : Room} {s : State} {m : MethodId} {args : Array Value} {below : List Frame} {meth : Method} {c : Code} {nL : Nat} {D : mD} {A : Nat → Prop} {Q : State → Prop} {M : Mm} {k n : Nat} {L : List (Nat × Value)} {st : List Value} {pc : Nat} {cc : ByteArray} {Ts : List Cond} {own : String} {y0 : MethodName} {ret0 : Option FieldType}
theorem m_callVd (C : mC p m meth c cc nL s args Ts own D A y0 ret0) {y1 : MethodName} {ws1 : List Cond} {rm : Room} {bytes1 : ByteArray} {maxL1 mc ms nA index : Nat} {ret1 : Option FieldType} {post : UInt64 → Mm → Prop} {As : List Value} {b ci : Nat} {fs : List Value} {qc : vw_C} (hb : M b = some (.inr (ci, fs))) (hc : vwCl[ci]? = some qc) (hM : mMet D A l y1 ws1 rm (.ref b :: As) M (va_Qd post (mB D A) A) mc ms) (cw : CallW R s args own qc.1 index y1 bytes1 maxL1 ret1 ws1 rm mc ms nA) (hn : As.length = nA) {st0 : List Value} (hst : st0 = As.reverse ++ .ref b :: st) (hsm : (st.map fun v => v.category).sum ≤ 8) (d : decode cc pc = .ok (.invokevirtual index, 3)) (hf : k + mc ≤ R.cells ∧ n + ms ≤ R.slots) (kk : ∀ (r : UInt64) (M' : Mm), post r M' → mV p l e R s m args below meth c nL D A Q M' (k + mc) (n + ms) L (.double r :: st) (pc + 3)) : mV p l e R s m args below meth c nL D A Q M k n L st0 pc := by
  intro H locs ls hW hS hl
  subst hst
  exact va_calld (va_runV (As := As) (rest := st) C.1 hM cw ⟨mP_blind, m_recv C hW hb hc, fun U hU hw => mP_at C hW hS U hU hw⟩ rfl hn hl.1 rfl (lv_room hsm) d hf) hS (fun q _ h => h) (fun q h => h) (fun r u t H1 locs1 ht hvm hp hB hz hk hS1 => kk r u hp H1 locs1 ls (by rw [← ht]; exact hB) hS1 hl)
theorem m_dload (C : mC p m meth c cc nL s args Ts own D A y0 ret0) {i : Nat} {x : UInt64} (d : decode cc pc = .ok (.dload i, 2)) (q : Nat) (hq : L[q]? = some (i, .double x)) (kk : mV p l e R s m args below meth c nL D A Q M k n L (.double x :: st) (pc + 2)) : mV p l e R s m args below meth c nL D A Q M k n L st pc := fun H locs ls hW hS hl => lv_dload C.1.1 C.1.2.1 d (lv_at hl q hq) (kk H locs ls hW hS hl)
theorem m_dcmp (C : mC p m meth c cc nL s args Ts own D A y0 ret0) {x y : UInt64} {op : CmpOp} (d : decode cc pc = .ok (.dcmp op, 1)) (kk : mV p l e R s m args below meth c nL D A Q M k n L (.int (Op.cmpValue (FP.dcmp x y) op) :: st) (pc + 1)) : mV p l e R s m args below meth c nL D A Q M k n L (.double y :: .double x :: st) pc := fun H locs ls hW hS hl => lv_dcmp C.1.1 C.1.2.1 d (kk H locs ls hW hS hl)
theorem m_nz (C : mC p m meth c cc nL s args Ts own D A y0 ret0) {x : Int32} (d0 : decode cc pc = .ok (.ifCond .eq 7, 3)) (d1 : decode cc (pc + 3) = .ok (.iconst 1, 1)) (d2 : decode cc (pc + 4) = .ok (.goto 4, 3)) (d3 : decode cc (pc + 7) = .ok (.iconst 0, 1)) (kk : mV p l e R s m args below meth c nL D A Q M k n L (.int (bI (!decide (x = 0))) :: st) (pc + 8)) : mV p l e R s m args below meth c nL D A Q M k n L (.int x :: st) pc := by
  refine m_if_eq (tgt := pc + 7) C d0 (by omega) (fun h => ?_) (fun h => ?_)
  · rw [decide_eq_true h] at kk
    exact m_iconst (v := bI (!true)) C d3 (by decide) kk
  · rw [decide_eq_false h] at kk
    refine m_iconst (v := bI (!false)) C d1 (by decide) ?_
    exact m_goto (tgt := pc + 8) C d2 (by omega) kk
theorem s_in {i j N : Nat} (hi : i + 8 ≤ N) (hN : N ≤ 4096) (hj : j < 8) : vp_in (nI i + nI j) N := by
  rw [nI_add]
  exact vp_in_nI (by omega) (by omega)
theorem m_S {b N : Nat} {xs : Nat → Int32} (hC : lX p m meth c s args D A y0 ret0 b N xs l) {i : Nat} (hi : i + 8 ≤ N) (j : Nat) {jz : Int} (hj : j < 8) (hv : Int32.ofInt jz = nI j) (q0 q4 : Nat) (h0 : L[q0]? = some (0, .ref b)) (h4 : L[q4]? = some (4, .int (nI i))) (d0 : decode cL_law pc = .ok (.aload_n 0, 1)) (d1 : decode cL_law (pc + 1) = .ok (.iload 4, 2)) (d3 : decode cL_law (pc + 3) = .ok (.iconst jz, 1)) (d4 : decode cL_law (pc + 4) = .ok (.iadd, 1)) (d5 : decode cL_law (pc + 5) = .ok (.iaload, 1)) (kk : mV p l e R s m args below meth c 9 D A Q M k n L (.int (sX xs i j) :: st) (pc + 6)) : mV p l e R s m args below meth c 9 D A Q M k n L st pc := by
  obtain ⟨C, hX, hbl, hbA, hN, -⟩ := hC
  refine m_aload_n C d0 rfl q0 h0 ?_
  refine m_iload C d1 q4 h4 ?_
  refine m_iconst (v := nI j) C d3 hv ?_
  refine m_iadd C d4 ?_
  exact m_sld C hX hbl hbA (s_in hi hN hj) d5 kk
theorem m_S7 {b N : Nat} {xs : Nat → Int32} (hC : lX p m meth c s args D A y0 ret0 b N xs l) {i : Nat} (hi : i + 8 ≤ N) (j : Nat) {jz : Int} (hj : j < 8) (hv : (Int8.ofInt jz).toInt32 = nI j) (q0 q4 : Nat) (h0 : L[q0]? = some (0, .ref b)) (h4 : L[q4]? = some (4, .int (nI i))) (d0 : decode cL_law pc = .ok (.aload_n 0, 1)) (d1 : decode cL_law (pc + 1) = .ok (.iload 4, 2)) (d3 : decode cL_law (pc + 3) = .ok (.bipush jz, 2)) (d4 : decode cL_law (pc + 5) = .ok (.iadd, 1)) (d5 : decode cL_law (pc + 6) = .ok (.iaload, 1)) (kk : mV p l e R s m args below meth c 9 D A Q M k n L (.int (sX xs i j) :: st) (pc + 7)) : mV p l e R s m args below meth c 9 D A Q M k n L st pc := by
  obtain ⟨C, hX, hbl, hbA, hN, -⟩ := hC
  refine m_aload_n C d0 rfl q0 h0 ?_
  refine m_iload C d1 q4 h4 ?_
  refine m_bipush (v := nI j) C d3 hv ?_
  refine m_iadd C d4 ?_
  exact m_sld C hX hbl hbA (s_in hi hN hj) d5 kk
end LAWR
