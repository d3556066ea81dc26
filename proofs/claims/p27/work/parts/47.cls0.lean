/-! ===== the class: throws, casts, plain helpers ===== -/
section TH
variable {p : Program} {l : Launch} {e : Env} {R : Room} {s : State} {m : MethodId} {args : Array Value} {below : List Frame} {meth : Method} {c : Code} {nL : Nat} {D : mD} {A : Nat → Prop} {Q : State → Prop} {M : Mm} {k n : Nat} {L : List (Nat × Value)} {st : List Value} {pc : Nat} {cc : ByteArray} {Ts : List Cond} {own : String} {y0 : MethodName} {ret0 : Option FieldType}
theorem vx_hat7 {args : Array Value} {s : State} {E : String} {ic : Nat} {Ts : List Cond} (hts : ∀ w ∈ Ts, w.before args s = true) (hE : mE s) (hm : E ∈ m_exn) (hg : ∀ w ∈ (vx_atS RX7 ic E ["java/lang/RuntimeException", "java/lang/Exception"]).filter goodWord, w ∈ Ts) (hb : ∀ w ∈ (vx_atS RX7 ic E ["java/lang/RuntimeException", "java/lang/Exception"]).filter (fun w => !goodWord w), w ∈ m_bad) : ∀ w ∈ vx_atS RX7 ic E ["java/lang/RuntimeException", "java/lang/Exception"], w.before args s = true :=
  vx_hat (fun w hw => hts w (hg w hw)) hb (fun w hw => by
    rcases m_bad_k w hw with ⟨C, T, rfl⟩ | ⟨x, rfl⟩
    · exact va_Nw.use rfl (hE.1 _ hw)
    · exact va_Nw.use rfl (hE.1 _ hw))
theorem m_throwS (C : mC p m meth c cc nL s args Ts RX7 D A y0 ret0) (hst : l.stackTraces = false) (hex : ∀ x ∈ c.exceptionTable.toList, False) {E text : String} {ik is ic mc ms : Nat} {Qc : Array Value → State → Outcome → State → Prop} {px : String → Mm → Prop} (hm : E ∈ m_exn) (hfit : Bundle.fit E = true) (hk : Cond.classLink RX7 ik E ∈ Ts) (hini : Cond.initialized E ∈ Ts) (htx : (is, text) ∈ m_txt)
    (hg : ∀ w ∈ (vx_atS RX7 ic E ["java/lang/RuntimeException", "java/lang/Exception"]).filter goodWord, w ∈ Ts) (hb : ∀ w ∈ (vx_atS RX7 ic E ["java/lang/RuntimeException", "java/lang/Exception"]).filter (fun w => !goodWord w), w ∈ m_bad)
    (hot : ∀ w ∈ Cond.classLink RX7 ik E :: Cond.initialized E :: vx_atS RX7 ic E ["java/lang/RuntimeException", "java/lang/Exception"], vx_ot w = true)
    (d0 : decode cc pc = .ok (.new ik, 3)) (d3 : decode cc (pc + 3) = .ok (.dup, 1)) (d4 : decode cc (pc + 4) = .ok (.ldc is, 2)) (d6 : decode cc (pc + 6) = .ok (.invokespecial ic, 3)) (d9 : decode cc (pc + 9) = .ok (.athrow, 1))
    (hRf : 5 < R.frames) (hRl : (st.map fun v => v.category).sum + 82 ≤ R.locals) (hRc : k + 1 ≤ R.cells) (hRs : n + 6 ≤ R.slots) (hc : k + 1 ≤ mc) (hs : n + 6 ≤ ms) (hp : px E M) :
    mV p l e R s m args below meth c nL D A (vx_MQ below Qc (mXC D A px) args s mc ms A) M k n L st pc := by
  intro H locs ls hW hS hl0
  have T := C.2.1.2.2
  obtain ⟨sa, hsa⟩ := T.2.2.1.2 _ htx
  refine vx_throwS C.1.1 C.1.2.1 hst C.1.2.2.2.1 hfit (by decide +kernel) (C.1.2.2.2.2 _ hk) (C.1.2.2.2.2 _ hini) hsa (vx_hat7 C.1.2.2.2.2 T.2.2.2.1.1.2 hm hg hb) hot T.1.1 T.1.2 hS (by rw [C.1.2.2.1]; exact hl0.1) d0 d3 d4 d6 d9 (fun x hx => (hex x hx).elim) hRf hRl hRc hRs C.2.2.1 (fun t ha hsz hsame => ?_) hS.2.2 hc hs
  obtain ⟨ws, hP, hD, h3⟩ := hW
  exact ⟨M, trivial, ⟨hp, ws, hP.kept (fun k q hk => hsame q.1 (hP k q hk).lt), hD, h3⟩, Nat.le_trans hS.1 hsz, fun q h1 h2 => (hsame q (Nat.lt_of_lt_of_le h1 hS.1)).trans (hS.2.1 q h1 h2)⟩
theorem m_castN (C : mC p m meth c cc nL s args Ts own D A y0 ret0) {index a : Nat} {fs : List Value} (hM : M a = some (.inr (6, fs))) (hlink : Cond.classLink own index RX3 ∈ Ts) (d : decode cc pc = .ok (.checkcast index, 3)) (kk : mV p l e R s m args below meth c nL D A Q M k n L (.ref a :: st) (pc + 3)) : mV p l e R s m args below meth c nL D A Q M k n L (.ref a :: st) pc := by
  intro H locs ls hW hS hl
  obtain ⟨cell, h1, h2, h3⟩ := m_recv C hW hM (q := (RX3, TX3, 19)) rfl
  exact va_castS C.1.1 C.1.2.1 C.1.2.2.2.1 (C.1.2.2.2.2 _ hlink) (cC := D.1.1 6) (C.2.1.2.1.1 6 _ rfl).2 ⟨cell, h1, h2, h3⟩ d (kk H locs ls hW hS hl)
end TH
