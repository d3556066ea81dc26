/-! ===== rows that make arrays, and copies between them ===== -/
def bI (b : Bool) : Int32 := if b = true then 1 else 0
theorem bI_t {b : Bool} (h : b = true) : bI b = 1 := if_pos h
theorem bI_f {b : Bool} (h : b = false) : bI b = 0 := if_neg (by rw [h]; decide)
theorem bI_z {b : Bool} (h : bI b = 0) : b = false := by
  cases b with
  | false => rfl
  | true => exact absurd h (by decide)
theorem bI_n {b : Bool} (h : ¬ bI b = 0) : b = true := by
  cases b with
  | false => exact absurd rfl h
  | true => rfl
theorem m_fresh {D : mD} {A : Nat → Prop} {M : Mm} {H : Heap} (h : mW D A M H) : M H.size = none := by
  cases hz : M H.size with
  | none => rfl
  | some e => exact absurd (h.lt hz) (Nat.lt_irrefl _)
section MKA
variable {p : Program} {l : Launch} {e : Env} {R : Room} {s : State} {m : MethodId} {args : Array Value} {below : List Frame} {meth : Method} {c : Code} {nL : Nat} {D : mD} {A : Nat → Prop} {Q : State → Prop} {M : Mm} {k n : Nat} {L : List (Nat × Value)} {st : List Value} {pc : Nat} {cc : ByteArray} {Ts : List Cond} {own : String} {y0 : MethodName} {ret0 : Option FieldType}
theorem m_newI (C : mC p m meth c cc nL s args Ts own D A y0 ret0) (harr : Cond.arrayClass .int ∈ Ts) {x : Int32} {N : Nat} (hx : x = nI N) (hN : N ≤ 60000000) (hk : k + 1 ≤ R.cells) (hn : n + N ≤ R.slots) (d : decode cc pc = .ok (.newarray .int, 2)) (kk : ∀ q : Nat, M q = none → mV p l e R s m args below meth c nL D A Q (m_up M q (.inl (D.2.1 0, N, .inl (fun _ => 0)))) (k + 1) (n + N) L (.ref q :: st) (pc + 2)) : mV p l e R s m args below meth c nL D A Q M k n L (.int x :: st) pc := by
  intro H locs ls hW hS hl
  subst hx
  have hfr := m_fresh hW
  obtain ⟨ws, hP, hD, h3⟩ := hW
  have hb : N < 2 ^ 31 := by omega
  have hby : N * componentBytes (newarray.typeOf .int) ≤ 536870912 := Nat.le_trans (Nat.mul_le_mul hN (show componentBytes (newarray.typeOf .int) ≤ 8 by decide)) (by decide)
  refine va_newaK (atype := .int) C.1.1 C.1.2.1 (C.1.2.2.2.2 _ harr) rfl d rfl (nI_pos hb) (nI_clamp hb) hby hk hn rfl fun H1 cA e1 z1 o1 hAr hNm => ?_
  have hcA : cA = D.2.1 0 := by
    have h1 := (C.2.1.2.1.2 0 _ rfl).2
    have h2 : s.vm.findClass _ = some (D.2.1 0) := h1
    have h4 : s.vm.findClass _ = some cA := hNm
    exact Option.some.inj (h4.symm.trans h2)
  subst hcA
  have hk : ∀ (k : Nat) (x : Nat × va_E), ws[k]? = some x → H1[x.1]? = H[x.1]? := fun k x hx => o1 x.1 ((hP k x hx).lt)
  refine kk H.size hfr H1 locs ls ⟨ws ++ [(H.size, .inl (D.2.1 0, N, .inl (fun _ => 0)))], (hP.kept hk).app (fun k x hx => ?_), hD.push hP rfl (C.2.1.1 _ hS.1), m_push h3⟩ ⟨Nat.le_trans hS.1 (by omega), fun x h1 h2 => (o1 x (Nat.lt_of_lt_of_le h1 hS.1)).trans (hS.2.1 x h1 h2), hS.2.2⟩ hl
  have hz : k < 1 := (List.getElem?_eq_some_iff.mp hx).1
  rw [show k = 0 by omega] at hx
  cases hx
  exact e1
theorem m_newq (C : mC p m meth c cc nL s args Ts own D A y0 ret0) {C1 : String} {index : Nat} (hcl : Cond.classLink own index C1 ∈ Ts) (hov : va_AO C1 s) (t0 : Nat) {cA0 : ClassId} (ht : (m_tys D)[t0]? = some (cA0, .object C1)) {x : Int32} {N : Nat} (hx : x = nI N) (hN : N ≤ 60000000) (hk : k + 1 ≤ R.cells) (hn : n + N ≤ R.slots) (d : decode cc pc = .ok (.anewarray index, 3)) (kk : ∀ q : Nat, M q = none → mV p l e R s m args below meth c nL D A Q (m_up M q (.inl (cA0, N, .inr (.inr (.inr (.inr (fun _ => none))))))) (k + 1) (n + N) L (.ref q :: st) (pc + 3)) : mV p l e R s m args below meth c nL D A Q M k n L (.int x :: st) pc := by
  intro H locs ls hW hS hl
  subst hx
  have hfr := m_fresh hW
  obtain ⟨ws, hP, hD, h3⟩ := hW
  have hb : N < 2 ^ 31 := by omega
  refine W.anew C.1.1 C.1.2.1 C.1.2.2.2.1 (C.1.2.2.2.2 _ hcl) (va_AO.use hov) rfl d rfl (nI_pos hb) (by rw [nI_clamp hb]; omega) hk (by rw [nI_clamp hb]; exact hn) fun cA kA comp f1 f2 f3 f4 => ?_
  rw [nI_clamp hb]
  have hcA : cA = cA0 := by
    obtain ⟨kA', comp', g1, g2, g3, g4⟩ := (C.2.1.2.1.2 t0 _ ht).2
    exact Option.some.inj (f1.symm.trans g4)
  subst hcA
  generalize hH1 : H.push ({ cls := cA, slots := Array.replicate N .null, vm := .none } : Cell) = H1
  have z1 : H1.size = H.size + 1 := by rw [← hH1, Array.size_push]
  have e1 : H1[H.size]? = some (arrV cA N (fun _ => .null)) := by rw [← hH1, Array.getElem?_push_size, ← arrV_new]
  have o1 : ∀ q : Nat, q < H.size → H1[q]? = H[q]? := fun q hq => by rw [← hH1, Array.getElem?_push, if_neg (Nat.ne_of_lt hq)]
  have hk : ∀ (k : Nat) (x : Nat × va_E), ws[k]? = some x → H1[x.1]? = H[x.1]? := fun k x hx => o1 x.1 ((hP k x hx).lt)
  refine kk H.size hfr H1 locs ls ⟨ws ++ [(H.size, .inl (cA, N, .inr (.inr (.inr (.inr (fun _ => none))))))], (hP.kept hk).app (fun k x hx => ?_), hD.push hP rfl (C.2.1.1 _ hS.1), m_push h3⟩ ⟨Nat.le_trans hS.1 (by omega), fun x h1 h2 => (o1 x (Nat.lt_of_lt_of_le h1 hS.1)).trans (hS.2.1 x h1 h2), hS.2.2⟩ hl
  have hz : k < 1 := (List.getElem?_eq_some_iff.mp hx).1
  rw [show k = 0 by omega] at hx
  cases hx
  show H1[H.size]? = some (vp_cell _ _)
  rw [vp_cell_q]
  exact e1
theorem m_copyq (C : mC p m meth c cc nL s args Ts own D A y0 ret0) {index : Nat} (hlink : Cond.methodLink own index arraycopyName ∈ Ts) (hnat : Cond.native arraycopyName ∈ Ts) (hstat : Cond.static arraycopyName ∈ Ts) (hini : Cond.initialized "java/lang/System" ∈ Ts)
    {a0 a n0 n1 t0 ci : Nat} {f g : Nat → Option Nat} {cA : ClassId} {E : String} {r : vw_C} (ht : (m_tys D)[t0]? = some (cA, .object E)) (hc : vwCl[ci]? = some r) (hca : va_Nw (.castable r.1 E) s) (hM0 : M a0 = some (.inl (cA, n0, .inr (.inr (.inr (.inr f)))))) (hM1 : M a = some (.inl (cA, n1, .inr (.inr (.inr (.inr g)))))) {x0 x1 x2 : Int32} {sp dp nn : Nat} (h0 : x0 = nI sp) (h1 : x1 = nI dp) (h2 : x2 = nI nn) (hb : sp < 2 ^ 31 ∧ dp < 2 ^ 31 ∧ nn < 2 ^ 31) (h4 : sp + nn ≤ n0) (h5 : dp + nn ≤ n1)
    (hel : ∀ i y : Nat, i < nn → f (sp + i) = some y → ∃ fs : List Value, M y = some (.inr (ci, fs)))
    (hframes : 1 ≤ R.frames) (hlocals : (st.map fun v => v.category).sum + (nativeFrameWords "java/lang/System" "arraycopy" 5 + 11) ≤ R.locals) (d : decode cc pc = .ok (.invokestatic index, 3))
    (kk : mV p l e R s m args below meth c nL D A Q (m_up M a (.inl (cA, n1, .inr (.inr (.inr (.inr (va_cpy f g sp dp nn))))))) k n L st (pc + 3)) : mV p l e R s m args below meth c nL D A Q M k n L (.int x2 :: .int x1 :: .ref a :: .int x0 :: .ref a0 :: st) pc := by
  intro H locs ls hW hS hl
  subst h0; subst h1; subst h2
  have hW0 := hW
  obtain ⟨ws, hP, hD, h3⟩ := hW
  obtain ⟨q0, g0⟩ := h3 _ _ hM0
  obtain ⟨q1, g1⟩ := h3 _ _ hM1
  refine va_copyq (C := r.1) C.1.1 C.1.2.1 (by rw [C.1.2.2.1]; exact hl.1.symm) C.1.2.2.2.1 (C.1.2.2.2.2 _ hlink) (C.1.2.2.2.2 _ hnat) (C.1.2.2.2.2 _ hstat) (C.1.2.2.2.2 _ hini) C.2.1.2.1 hP hD hS q0 q1 t0 t0 g0 g1 ht ht (nI_pos hb.1) (nI_pos hb.2.1) (nI_pos hb.2.2) (by rw [nI_clamp hb.1, nI_clamp hb.2.2]; exact h4) (by rw [nI_clamp hb.2.1, nI_clamp hb.2.2]; exact h5) (fun i hi y hy => ?_) (fun comp c0 e1 e2 => ?_) hframes hlocals d (fun H1 locs1 hP1 hD1 hS1 => ?_)
  · rw [nI_clamp hb.1] at hy
    rw [nI_clamp hb.2.2] at hi
    obtain ⟨fs, hy⟩ := hel i y hi hy
    exact m_recv C hW0 hy hc
  · obtain ⟨c3, c4, q1, q2, q3⟩ := Cond.castable_spec (va_Nw.use rfl (A := args) hca)
    cases q1.symm.trans e2
    cases q2.symm.trans e1
    exact q3
  · rw [nI_clamp hb.1, nI_clamp hb.2.1, nI_clamp hb.2.2] at hP1 hD1
    exact kk H1 locs1 ls ⟨_, hP1, hD1, m_set h3 g1⟩ hS1 hl
end MKA
