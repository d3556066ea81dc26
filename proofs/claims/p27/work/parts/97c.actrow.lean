/-! ===== rows for act ===== -/
theorem cI.me {D : mD} {Z : Nat → Nat} {F : Mm} {cm : Nat} {g : Int32} {ar : rA} {M : Mm} (h : cI D Z F cm g ar M) : ∃ mf : List Value, M (Z 0) = some (.inr (9, mf)) := by
  obtain ⟨fi, nl, rw, -, ⟨h1, -⟩⟩ := h
  exact ⟨_, h1.me⟩
theorem cI.F0 {D : mD} {Z : Nat → Nat} {F : Mm} {cm : Nat} {g : Int32} {ar : rA} {M : Mm} (h : cI D Z F cm g ar M) {a : Nat} {x : va_E} (hx : F a = some x) : M a = some x := by
  obtain ⟨fi, nl, rw, -, ⟨bf, cp, el, mc, -, -, -, -, k8⟩, -⟩ := h
  exact (k8 a x hx).1
theorem upA_self {α : Type} (f : Nat → α) (n : Nat) : upA f n (f n) = f := by
  funext j
  unfold upA
  by_cases h : j = n
  · rw [if_pos h, h]
  · rw [if_neg h]
theorem cI.mono {D : mD} {Z : Nat → Nat} {F : Mm} {cm : Nat} {g : Int32} {ar : rA} {M M' : Mm} (h : cI D Z F cm g ar M) (hm : mS M M') : cI D Z F cm g ar M' := by
  obtain ⟨fi, nl, rw, h1, h2, h3⟩ := h
  exact ⟨fi, nl, rw, h1, h2.mono hm, h3⟩
theorem hW.rowU {D : mD} {o qn qc qp : Nat} {nr cr : Nat → Option Nat} {c : Nat} {g : Int32} {N : Nat → Nat → Int32} {K : Nat → List Nat} {M : Mm} {n a : Nat} {r : Nat → Int32} (h : hW D o qn qc qp nr cr c g (upA N n r) K M) (hn : n < 40) (ha : nr n = some a) : M a = some (jI D 18 r) := by
  have := h.nrow hn ha
  rw [upA_s] at this
  exact this
section MEMR
variable {p : Program} {l : Launch} {e : Env} {R : Room} {s : State} {m : MethodId} {args : Array Value} {below : List Frame} {meth : Method} {c : Code} {nL : Nat} {D : mD} {A : Nat → Prop} {Q : State → Prop} {M : Mm} {k n : Nat} {L : List (Nat × Value)} {st : List Value} {pc : Nat} {cc : ByteArray} {Ts : List Cond} {own : String} {y0 : MethodName} {ret0 : Option FieldType}
theorem m_ialdN (C : mC p m meth c cc nL s args Ts own D A y0 ret0) {a N j : Nat} {f : Nat → Int32} {i v : Int32} (hM : M a = some (jI D N f)) (hin : vp_in i N) (hj : i.toNatClampNeg = j) (hv : f j = v) (d : decode cc pc = .ok (.iaload, 1)) (kk : mV p l e R s m args below meth c nL D A Q M k n L (.int v :: st) (pc + 1)) : mV p l e R s m args below meth c nL D A Q M k n L (.int i :: .ref a :: st) pc := by
  refine m_iald C hM hin d ?_
  rw [hj, hv]
  exact kk
theorem m_iastH (C : mC p m meth c cc nL s args Ts own D A y0 ret0) {o qn qc qp c1 x an j : Nat} {nr cr : Nat → Option Nat} {g1 : Int32} {B : Nat → Nat → Int32} {K : Nat → List Nat} {r : Nat → Int32} {M0 : Mm} {i v : Int32} (hR : hW D o qn qc qp nr cr c1 g1 (upA B x r) K M) (hk : hK o qn qc nr nr cr cr M0 M) (hx : x < 40) (ha : nr x = some an) (hin : vp_in i 18) (hj : i.toNatClampNeg = j) (d : decode cc pc = .ok (.iastore, 1)) (kk : ∀ M' : Mm, hW D o qn qc qp nr cr c1 g1 (upA B x (upd r j v)) K M' → hK o qn qc nr nr cr cr M0 M' → mV p l e R s m args below meth c nL D A Q M' k n L st (pc + 1)) : mV p l e R s m args below meth c nL D A Q M k n L (.int v :: .int i :: .ref an :: st) pc := by
  refine m_iast C (hR.rowU hx ha) hin d ?_
  rw [hj]
  have h1 := hR.setn hx ha (upd r j v)
  rw [upA_upA] at h1
  exact kk _ h1 (hk.up (Or.inr (Or.inr (Or.inr ⟨x, hx, ha⟩))))
theorem m_iastHq (C : mC p m meth c cc nL s args Ts own D A y0 ret0) {o qn qc qp c1 x an j sq : Nat} {nr cr : Nat → Option Nat} {g1 : Int32} {B : Nat → Nat → Int32} {K : Nat → List Nat} {r : Nat → Int32} {M0 : Mm} {i v : Int32} {e2 : va_E} (hR : hW D o qn qc qp nr cr c1 g1 (upA B x r) K M) (hk : hK o qn qc nr nr cr cr M0 M) (hx : x < 40) (ha : nr x = some an) (hq : M sq = some e2) (hne : an ≠ sq) (hin : vp_in i 18) (hj : i.toNatClampNeg = j) (d : decode cc pc = .ok (.iastore, 1)) (kk : ∀ M' : Mm, hW D o qn qc qp nr cr c1 g1 (upA B x (upd r j v)) K M' → hK o qn qc nr nr cr cr M0 M' → M' sq = some e2 → mV p l e R s m args below meth c nL D A Q M' k n L st (pc + 1)) : mV p l e R s m args below meth c nL D A Q M k n L (.int v :: .int i :: .ref an :: st) pc := by
  refine m_iast C (hR.rowU hx ha) hin d ?_
  rw [hj]
  have h1 := hR.setn hx ha (upd r j v)
  rw [upA_upA] at h1
  exact kk _ h1 (hk.up (Or.inr (Or.inr (Or.inr ⟨x, hx, ha⟩)))) ((m_up_n (Ne.symm hne)).trans hq)
end MEMR
