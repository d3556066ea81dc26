/-! ===== rows for arrays of arrays of ints ===== -/
abbrev jAA (D : mD) (n : Nat) (f : Nat → Option Nat) : va_E := .inl (D.2.1 1, n, .inr (.inr (.inr (.inr f))))
theorem m_assR {vm : Vm} {c : ClassId} : vm.assignable c c = true := by
  show Vm.assignableAux vm (255 + 1) c c = true
  rw [Vm.assignableAux, beq_self_eq_true, Bool.true_or]
section MEMA
variable {p : Program} {l : Launch} {e : Env} {R : Room} {s : State} {m : MethodId} {args : Array Value} {below : List Frame} {meth : Method} {c : Code} {nL : Nat} {D : mD} {A : Nat → Prop} {Q : State → Prop} {M : Mm} {k n : Nat} {L : List (Nat × Value)} {st : List Value} {pc : Nat} {cc : ByteArray} {Ts : List Cond} {own : String} {y0 : MethodName} {ret0 : Option FieldType}
theorem mC.aoa (C : mC p m meth c cc nL s args Ts own D A y0 ret0) : va_AOA .int s := C.2.1.2.2.2.2.2.1.1.2.2
theorem mC.c0 (C : mC p m meth c cc nL s args Ts own D A y0 ret0) : s.vm.findClass (FieldType.array .int).toString = some (D.2.1 0) := (C.2.1.2.1.2 0 _ rfl).2
theorem mC.c1 (C : mC p m meth c cc nL s args Ts own D A y0 ret0) : s.vm.findClass ("[" ++ (FieldType.array .int).toString) = some (D.2.1 1) := (C.2.1.2.1.2 1 _ rfl).2
theorem m_aaldA (C : mC p m meth c cc nL s args Ts own D A y0 ret0) {a N : Nat} {f : Nat → Option Nat} (hM : M a = some (jAA D N f)) {i : Int32} (hin : vp_in i N) (d : decode cc pc = .ok (.aaload, 1)) (kk : mV p l e R s m args below meth c nL D A Q M k n L (va_rf (f i.toNatClampNeg) :: st) (pc + 1)) : mV p l e R s m args below meth c nL D A Q M k n L (.int i :: .ref a :: st) pc := by
  intro H locs ls hW hS hl
  obtain ⟨ws, hP, hD, h3⟩ := id hW
  obtain ⟨q0, h0⟩ := h3 _ _ hM
  have hlt : i.toNatClampNeg < N := Nat.not_le.mp fun q => hin (Or.inr q)
  exact W.aald (v := va_rf (f i.toNatClampNeg)) (ty := .array .int) C.1.1 C.1.2.1 (hP q0 _ h0) ((C.2.1.2.1.2 1 _ rfl).1 N (fun j => va_rf (f j))) rfl (fun q => by cases q) (by show ¬ (i < 0 ∨ (arrV _ _ _).slots.size ≤ _); rw [arrV_size]; exact hin) (by show (arrV _ _ _).slots[_]? = _; rw [arrV_read _ _ hlt]) rfl rfl d (kk H locs ls hW hS hl)
theorem m_aastA (C : mC p m meth c cc nL s args Ts own D A y0 ret0) {a N v N2 : Nat} {f : Nat → Option Nat} {f2 : Nat → Int32} (hM : M a = some (jAA D N f)) (hv : M v = some (.inl (D.2.1 0, N2, .inl f2))) {i : Int32} (hin : vp_in i N) (d : decode cc pc = .ok (.aastore, 1)) (kk : mV p l e R s m args below meth c nL D A Q (m_up M a (jAA D N (va_up f i.toNatClampNeg (some v)))) k n L st (pc + 1)) : mV p l e R s m args below meth c nL D A Q M k n L (.ref v :: .int i :: .ref a :: st) pc := by
  intro H locs ls hW hS hl
  obtain ⟨ws, hP, hD, h3⟩ := hW
  obtain ⟨q0, h0⟩ := h3 _ _ hM
  obtain ⟨q1, h1⟩ := h3 _ _ hv
  have hlt : i.toNatClampNeg < N := Nat.not_le.mp fun q => hin (Or.inr q)
  have hi0 : ¬ i < 0 := fun q => hin (Or.inl q)
  obtain ⟨comp, cA, kA, f1, -, g1, g2, g3⟩ := arrayOverA_spec (va_AOA.use (A := args) C.aoa)
  have e0 : D.2.1 0 = comp := Option.some.inj (C.c0.symm.trans f1)
  have e1 : cA = D.2.1 1 := Option.some.inj (g3.symm.trans C.c1)
  subst e1
  obtain ⟨kE, hkE, -⟩ := Vm.findClass_spec f1
  refine W.aast (comp := comp) (kv := kE) C.1.1 C.1.2.1 (hP q0 _ h0) (fun q h => by cases h) (fun h => by cases h) g1 g2 rfl hkE ⟨hi0, by show _ < (arrV _ _ _).slots.size; rw [arrV_size]; exact hlt⟩ (hP q1 _ h1) (fun q h => by cases h) (by show s.vm.classes[D.2.1 0]? = some kE; rw [e0]; exact hkE) (by show s.vm.assignable (D.2.1 0) comp = true; rw [e0]; exact m_assR) rfl rfl d fun H1 e z oq => ?_
  refine kk H1 _ ls ⟨_, hP.set hD h0 ?_ oq, hD.set h0, m_set h3 h0⟩ (hS.put z oq (hD.2 q0 _ h0)) hl
  show H1[a]? = some (vp_cell _ _)
  rw [e]
  rw [vp_cell_q, vp_cell_q, arrV_store]
  congr 2
  funext q
  by_cases hq : q = i.toNatClampNeg
  · subst hq
    simp [updV, va_up, va_rf]
  · simp [updV, va_up, hq]
theorem m_newA (C : mC p m meth c cc nL s args Ts own D A y0 ret0) {index : Nat} (hcl : Cond.classLink own index (FieldType.array .int).toString ∈ Ts) {x : Int32} {N : Nat} (hx : x = nI N) (hN : N ≤ 60000000) (hk : k + 1 ≤ R.cells) (hn : n + N ≤ R.slots) (d : decode cc pc = .ok (.anewarray index, 3)) (kk : ∀ q : Nat, M q = none → mV p l e R s m args below meth c nL D A Q (m_up M q (jAA D N (fun _ => none))) (k + 1) (n + N) L (.ref q :: st) (pc + 3)) : mV p l e R s m args below meth c nL D A Q M k n L (.int x :: st) pc := by
  intro H locs ls hW hS hl
  subst hx
  have hfr := m_fresh hW
  obtain ⟨ws, hP, hD, h3⟩ := hW
  have hb : N < 2 ^ 31 := by omega
  refine W.anewA C.1.1 C.1.2.1 C.1.2.2.2.1 (C.1.2.2.2.2 _ hcl) (va_AOA.use C.aoa) rfl d rfl (nI_pos hb) (by rw [nI_clamp hb]; omega) hk (by rw [nI_clamp hb]; exact hn) fun cA kA comp f1 f2 f3 f4 => ?_
  rw [nI_clamp hb]
  have hcA : cA = D.2.1 1 := Option.some.inj (f1.symm.trans C.c1)
  subst hcA
  generalize hH1 : H.push ({ cls := D.2.1 1, slots := Array.replicate N .null, vm := .none } : Cell) = H1
  have z1 : H1.size = H.size + 1 := by rw [← hH1, Array.size_push]
  have e1 : H1[H.size]? = some (arrV (D.2.1 1) N (fun _ => .null)) := by rw [← hH1, Array.getElem?_push_size, ← arrV_new]
  have o1 : ∀ q : Nat, q < H.size → H1[q]? = H[q]? := fun q hq => by rw [← hH1, Array.getElem?_push, if_neg (Nat.ne_of_lt hq)]
  have hk : ∀ (k : Nat) (x : Nat × va_E), ws[k]? = some x → H1[x.1]? = H[x.1]? := fun k x hx => o1 x.1 ((hP k x hx).lt)
  refine kk H.size hfr H1 locs ls ⟨ws ++ [(H.size, jAA D N (fun _ => none))], (hP.kept hk).app (fun k x hx => ?_), hD.push hP rfl (C.2.1.1 _ hS.1), m_push h3⟩ ⟨Nat.le_trans hS.1 (by omega), fun x h1 h2 => (o1 x (Nat.lt_of_lt_of_le h1 hS.1)).trans (hS.2.1 x h1 h2), hS.2.2⟩ hl
  have hz : k < 1 := (List.getElem?_eq_some_iff.mp hx).1
  rw [show k = 0 by omega] at hx
  cases hx
  show H1[H.size]? = some (vp_cell _ _)
  rw [vp_cell_q]
  exact e1
/-- null into a place of an array of arrays -/
theorem m_aastAN (C : mC p m meth c cc nL s args Ts own D A y0 ret0) {a N : Nat} {f : Nat → Option Nat} (hM : M a = some (jAA D N f)) {i : Int32} (hin : vp_in i N) (d : decode cc pc = .ok (.aastore, 1)) (kk : mV p l e R s m args below meth c nL D A Q (m_up M a (jAA D N (va_up f i.toNatClampNeg none))) k n L st (pc + 1)) : mV p l e R s m args below meth c nL D A Q M k n L (.null :: .int i :: .ref a :: st) pc := by
  intro H locs ls hW hS hl
  obtain ⟨ws, hP, hD, h3⟩ := hW
  obtain ⟨q0, h0⟩ := h3 _ _ hM
  have hlt : i.toNatClampNeg < N := Nat.not_le.mp fun q => hin (Or.inr q)
  have harr := (C.2.1.2.1.2 1 _ rfl).1 N (fun j => va_rf (f j))
  have hH : H[a]? = some (arrV (D.2.1 1) N (fun j => va_rf (f j))) := hP q0 _ h0
  generalize hce : arrV (D.2.1 1) N (fun j => va_rf (f j)) = cell at harr hH
  have hknown : cell.vm ≠ .unknown := by rw [← hce]; intro q; cases q
  have hsz : cell.slots.size = N := by rw [← hce, arrV_size]
  intro T hT X
  have hcell : T.heap[a]? = some cell := by rw [hT]; exact hH
  have hTa := State.isArrayOf_alike X.warmed.alike harr
  have hfit : T.fitsSlot cell.cls cell.vm i.toNatClampNeg .null = true := by
    obtain ⟨hobj, k, hk, comp, hkind⟩ := hTa
    cases hvm : cell.vm <;> first | exact absurd hvm (hobj _) | simp [State.fitsSlot, State.slotType?, hk, hkind, fits]
  have hal : a < T.heap.size := (Array.getElem?_eq_some_iff.mp hcell).1
  have X' := X.stored hcell i.toNatClampNeg .null
  have hset : (T.setCell a (cell.setSlot i.toNatClampNeg .null)).heap[a]? = some (cell.setSlot i.toNatClampNeg .null) := heapAt_setCell_self _ hal
  have hoth : ∀ q, q ≠ a → (T.setCell a (cell.setSlot i.toNatClampNeg .null)).heap[q]? = H[q]? := fun q hq => by rw [heapAt_setCell_ne _ (Ne.symm hq), hT]
  have hnew : va_at D.1 vwCl (a, jAA D N (va_up f i.toNatClampNeg none)) (T.setCell a (cell.setSlot i.toNatClampNeg .null)).heap := by
    show (T.setCell a (cell.setSlot i.toNatClampNeg .null)).heap[a]? = some (vp_cell _ _)
    rw [hset, ← hce]
    rw [vp_cell_q, arrV_store]
    congr 2
    funext q
    by_cases hq : q = i.toNatClampNeg
    · subst hq
      simp [updV, va_up, va_rf]
    · simp [updV, va_up, hq]
  obtain ⟨t', a1, b1⟩ := kk _ (locs ++ [⟨a, i.toNatClampNeg⟩]) ls ⟨_, hP.set hD h0 hnew hoth, hD.set h0, m_set h3 h0⟩ (hS.put (by rw [size_setCell, hT]) hoth (hD.2 q0 _ h0)) hl _ rfl X'
  refine ⟨t', ?_, b1⟩
  jvm_step X.here [C.1.1, C.1.2.1, d]
  refine aastore.wp_of_null (c := cell) (t := .array .int) X.here.top rfl hcell hTa (by rw [hsz]; exact hin) hknown (by rw [hsz]; exact hlt) hfit ?_
  intro acts
  rw [afterInstr_ok]
  exact a1
/-- a memory with an array of arrays put into it, and its rows -/
def m_ups (M : Mm) (q : Nat) (x : va_E) (N : Nat) (r : Nat → Nat) (z : va_E) : Mm := fun a => if a = q then some x else if ∃ i, i < N ∧ a = r i then some z else M a
theorem m_newM (C : mC p m meth c cc nL s args Ts own D A y0 ret0) {index : Nat} (hcl : Cond.classLink own index ("[" ++ (FieldType.array .int).toString) ∈ Ts) (harr : Cond.arrayClass .int ∈ Ts) {x y : Int32} {N K : Nat} (hx : x = nI N) (hy : y = nI K) (hN : N ≤ 100000) (hK : K ≤ 100000) (hk : k + (1 + N) ≤ R.cells) (hn : n + (N + N * K) ≤ R.slots) (d : decode cc pc = .ok (.multianewarray index 2, 4)) (kk : ∀ (q : Nat) (r : Nat → Nat), M q = none → (∀ i, i < N → M (r i) = none ∧ r i ≠ q) → (∀ i j, i < N → j < N → r i = r j → i = j) → mV p l e R s m args below meth c nL D A Q (m_ups M q (jAA D N (fun i => if i < N then some (r i) else none)) N r (.inl (D.2.1 0, K, .inl (fun _ => 0)))) (k + 1 + N) (n + N + N * K) L (.ref q :: st) (pc + 4)) : mV p l e R s m args below meth c nL D A Q M k n L (.int y :: .int x :: st) pc := by
  intro H locs ls hW hS hl
  subst hx
  subst hy
  obtain ⟨ws, hP, hD, h3⟩ := hW
  have hbN : N < 2 ^ 31 := by omega
  have hbK : K < 2 ^ 31 := by omega
  have e0 : ∀ f : Nat → va_E, ws ++ va_pl [] f = ws := fun f => by unfold va_pl; exact List.append_nil _
  refine va_mna (X := ws) (L := []) (f := fun _ => jAA D 0 (fun _ => none)) (ty := .int) (cy := D.2.1 0) (N' := N) (K' := K) (z := (K, .inl (fun _ => 0))) C.1.1 C.1.2.1 C.1.2.2.2.1 (C.1.2.2.2.2 _ hcl) C.aoa (C.1.2.2.2.2 _ harr) C.c0 C.2.1.2.1 (by rw [e0]; exact hP) (by rw [e0]; exact hD) hS C.2.1.1 (nI_pos hbN) (nI_pos hbK) (nI_clamp hbN) (nI_clamp hbK) (by omega) (Nat.le_trans (Nat.mul_le_mul hK (show componentBytes FieldType.int ≤ 8 by decide)) (by decide)) (by omega) rfl rfl hk hn (fun c => ?_) d (fun q r cA H1 hr1 hr2 hK1 hP1 hD1 hS1 => ?_)
  · show _ = arrV c K (fun _ => .int 0)
    rw [← arrV_new]
    rfl
  have hcA : cA = D.2.1 1 := by
    have h1 := (hK1.2 (m_tys D).length (cA, .array .int) (by simp)).2
    exact Option.some.inj ((show s.vm.findClass ("[" ++ (FieldType.array .int).toString) = some cA from h1).symm.trans C.c1)
  subst hcA
  have hnew : ∀ (a : Nat) (x : va_E), M a = some x → a ≠ q ∧ ∀ i, i < N → a ≠ r i := fun a x ha => by
    obtain ⟨i0, h0⟩ := h3 a x ha
    have hl0 : i0 < ws.length := (List.getElem?_eq_some_iff.mp h0).1
    constructor
    · intro z
      have := hD1.1 i0 ws.length _ _ (by rw [List.append_assoc, List.getElem?_append_left hl0]; exact h0) (by rw [List.append_assoc, List.getElem?_append_right (Nat.le_refl _)]; simp; rfl) z
      omega
    · intro i hi z
      have := hD1.1 i0 (ws.length + 1 + i) _ _ (by rw [List.append_assoc, List.getElem?_append_left hl0]; exact h0) (show _ = some (r i, (.inl (D.2.1 0, K, .inl (fun _ => 0)) : va_E)) by
        rw [List.getElem?_append_right (by rw [List.length_append]; simp only [List.length_cons, List.length_nil]; omega)]
        unfold va_pl
        simp [show ws.length + 1 + i - (ws.length + 1) = i by omega, hi, vr_up]
        exact ⟨i, hi, rfl⟩) z
      omega
  refine kk q r ?_ ?_ hr1 H1 locs ls ⟨_, hP1, hD1, fun a x ha => ?_⟩ hS1 hl
  · cases hz : M q with
    | none => rfl
    | some x => exact absurd rfl (hnew q x hz).1
  · intro i hi
    refine ⟨?_, fun z => ?_⟩
    · cases hz : M (r i) with
      | none => rfl
      | some x => exact absurd rfl ((hnew _ x hz).2 i hi)
    · have := hD1.1 (ws.length + 1 + i) ws.length (r i, .inl (D.2.1 0, K, .inl (fun _ => 0))) (q, jAA D N (fun i => if i < N then some (r i) else none)) (by
        rw [List.getElem?_append_right (by rw [List.length_append]; simp only [List.length_cons, List.length_nil]; omega)]
        unfold va_pl
        simp [show ws.length + 1 + i - (ws.length + 1) = i by omega, hi, vr_up]
        exact ⟨i, hi, rfl⟩) (by rw [List.append_assoc, List.getElem?_append_right (Nat.le_refl _)]; simp) z
      omega
  · unfold m_ups at ha
    by_cases h1 : a = q
    · rw [if_pos h1] at ha
      cases ha
      exact ⟨ws.length, by rw [List.append_assoc, List.getElem?_append_right (Nat.le_refl _), h1]; simp⟩
    · rw [if_neg h1] at ha
      by_cases h2 : ∃ i, i < N ∧ a = r i
      · rw [if_pos h2] at ha
        cases ha
        obtain ⟨i, hi, rfl⟩ := h2
        refine ⟨ws.length + 1 + i, ?_⟩
        rw [List.getElem?_append_right (by rw [List.length_append]; simp only [List.length_cons, List.length_nil]; omega)]
        unfold va_pl
        simp [show ws.length + 1 + i - (ws.length + 1) = i by omega, hi, vr_up]
        exact ⟨i, hi, rfl⟩
      · rw [if_neg h2] at ha
        obtain ⟨i0, h0⟩ := h3 a x ha
        exact ⟨i0, by rw [List.append_assoc, List.getElem?_append_left (List.getElem?_eq_some_iff.mp h0).1]; exact h0⟩
end MEMA
