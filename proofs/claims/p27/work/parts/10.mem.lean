/-! ===== the memory of a world as a function of addresses; a walk's judgement mV over it; rows, calls, starts and ends ===== -/
abbrev Mm : Type := Nat → Option va_E
def m_up (M : Mm) (a : Nat) (e : va_E) : Mm := fun q => if q = a then some e else M q
theorem m_up_s {M : Mm} {a : Nat} {e : va_E} : m_up M a e a = some e := if_pos rfl
theorem m_up_n {M : Mm} {a b : Nat} {e : va_E} (h : b ≠ a) : m_up M a e b = M b := if_neg h
theorem m_up_up {M : Mm} {a : Nat} {e f : va_E} : m_up (m_up M a e) a f = m_up M a f := by
  funext q
  unfold m_up
  by_cases h : q = a
  · rw [if_pos h, if_pos h]
  · rw [if_neg h, if_neg h, if_neg h]
theorem m_up_eq {M : Mm} {a : Nat} {e : va_E} (h : M a = some e) : m_up M a e = M := by
  funext q
  unfold m_up
  by_cases z : q = a
  · rw [if_pos z, z, h]
  · rw [if_neg z]

abbrev mD : Type := va_G × (Nat → ClassId) × (Nat → Nat)
def m_tys (D : mD) : List (ClassId × FieldType) := [(D.2.1 0, .int), (D.2.1 1, .array .int), (D.2.1 2, .object "PaintLayers$Node"), (D.2.1 3, .object "java/lang/Object")]
def mW (D : mD) (A : Nat → Prop) (M : Mm) (H : Heap) : Prop := ∃ ws : va_W, va_P D.1 vwCl ws H ∧ va_D A ws ∧ ∀ (a : Nat) (e : va_E), M a = some e → ∃ i : Nat, ws[i]? = some (a, e)
theorem mW.sub {D : mD} {A : Nat → Prop} {M M' : Mm} {H : Heap} (h : mW D A M H) (hs : ∀ (a : Nat) (e : va_E), M' a = some e → M a = some e) : mW D A M' H := by
  obtain ⟨ws, h1, h2, h3⟩ := h
  exact ⟨ws, h1, h2, fun a e z => h3 a e (hs a e z)⟩
theorem mW.lt {D : mD} {A : Nat → Prop} {M : Mm} {H : Heap} (h : mW D A M H) {a : Nat} {e : va_E} (ha : M a = some e) : a < H.size := by
  obtain ⟨ws, h1, h2, h3⟩ := h
  obtain ⟨i, hi⟩ := h3 a e ha
  exact (h1 i _ hi).lt
theorem mW.at {D : mD} {A : Nat → Prop} {M : Mm} {H : Heap} (h : mW D A M H) {a : Nat} {e : va_E} (ha : M a = some e) : va_at D.1 vwCl (a, e) H := by
  obtain ⟨ws, h1, h2, h3⟩ := h
  obtain ⟨i, hi⟩ := h3 a e ha
  exact h1 i _ hi
theorem mW.own {D : mD} {A : Nat → Prop} {M : Mm} {H : Heap} (h : mW D A M H) {a : Nat} {e : va_E} (ha : M a = some e) : A a := by
  obtain ⟨ws, h1, h2, h3⟩ := h
  obtain ⟨i, hi⟩ := h3 a e ha
  exact h2.2 i _ hi
theorem m_set {ws : va_W} {M : Mm} {a q0 : Nat} {e0 e : va_E} (h3 : ∀ (b : Nat) (x : va_E), M b = some x → ∃ i : Nat, ws[i]? = some (b, x)) (h0 : ws[q0]? = some (a, e0)) :
    ∀ (b : Nat) (x : va_E), m_up M a e b = some x → ∃ i : Nat, (ws.set q0 (a, e))[i]? = some (b, x) := by
  intro b x hb
  have hl := (List.getElem?_eq_some_iff.mp h0).1
  unfold m_up at hb
  by_cases z : b = a
  · rw [if_pos z] at hb
    cases hb
    subst z
    exact ⟨q0, List.getElem?_set_self hl⟩
  · rw [if_neg z] at hb
    obtain ⟨i, hi⟩ := h3 b x hb
    refine ⟨i, ?_⟩
    rw [List.getElem?_set_ne]
    · exact hi
    · intro y
      subst y
      rw [h0] at hi
      cases hi
      exact z rfl
theorem m_push {ws : va_W} {M : Mm} {a : Nat} {e : va_E} (h3 : ∀ (b : Nat) (x : va_E), M b = some x → ∃ i : Nat, ws[i]? = some (b, x)) :
    ∀ (b : Nat) (x : va_E), m_up M a e b = some x → ∃ i : Nat, (ws ++ [(a, e)])[i]? = some (b, x) := by
  intro b x hb
  unfold m_up at hb
  by_cases z : b = a
  · rw [if_pos z] at hb
    cases hb
    subst z
    exact ⟨ws.length, by simp⟩
  · rw [if_neg z] at hb
    obtain ⟨i, hi⟩ := h3 b x hb
    refine ⟨i, ?_⟩
    have hl := (List.getElem?_eq_some_iff.mp hi).1
    rw [List.getElem?_append_left hl]
    exact hi
/-- texts of the class's throws: entry and text -/
def m_txt : List (Nat × String) := [(226, "no such number"), (223, "no such node"), (235, "no group, or too many nodes"), (232, "out of its range"), (107, "the root stays"), (124, "no parent for this node"), (133, "no such place"), (173, "no group"), (228, "no such pixel")]
def m_exn : List String := ["java/lang/IndexOutOfBoundsException", "java/lang/IllegalArgumentException", "java/lang/IllegalStateException"]
/-- words of the exceptions: what is castable, what is declared, what is not castable -/
def m_bad : List Cond := (m_exn.map fun E => Cond.castable E E) ++ [.declares (Bundle.initS "java/lang/RuntimeException"), .declares (Bundle.initS "java/lang/Exception"), .declares (Bundle.initS Bundle.tN)]
def mE (U : State) : Prop := (∀ w ∈ m_bad, va_Nw w U) ∧ va_AOA .int U
theorem m_bad_k : ∀ w ∈ m_bad, (∃ C T, w = .castable C T) ∨ ∃ x, w = .declares x := by
  intro w hw
  simp only [m_bad, m_exn, List.map, List.cons_append, List.nil_append, List.mem_cons, List.not_mem_nil, or_false] at hw
  rcases hw with h | h | h | h | h | h <;> subst h <;> first | exact Or.inl ⟨_, _, rfl⟩ | exact Or.inr ⟨_, rfl⟩
theorem mE.same {u U : State} (hv : U.vm = u.vm) (h : mE u) : mE U := ⟨fun w hw => by
  rcases m_bad_k w hw with ⟨C, T, rfl⟩ | ⟨x, rfl⟩
  · exact va_Nw.same rfl hv.symm (h.1 _ hw)
  · exact va_Nw.same rfl hv.symm (h.1 _ hw), h.2.moved (by rw [hv]; exact Vm.Alike.refl _)⟩
theorem mE.warm {u U : State} (hw0 : u.WarmedH U.vm) (h : mE u) : mE U := ⟨fun w hw => by
  rcases m_bad_k w hw with ⟨C, T, rfl⟩ | ⟨x, rfl⟩
  · exact va_Nw.warmC hw0 (h.1 _ hw)
  · exact va_Nw.warmD hw0 (h.1 _ hw), h.2.moved hw0.alike⟩
def mN (U : State) : Prop := ((va_AO "PaintLayers$Node" U ∧ mE U) ∧ va_AO "java/lang/Object" U) ∧ (va_Nw (.castable "PaintLayers$Node" "java/lang/Object") U ∧ va_Nw (.declares ⟨"PaintLayers$Shape", "holds", "(II)Z"⟩) U) ∧ (va_Nw (.methodLinkNest RX5 44 yX7_spanBits "PaintLayers") U ∧ va_Nw (.methodLinkNest RX0 26 yX7_spanBits "PaintLayers") U ∧ va_Nw (.methodLinkNest RX2 3 yX7_boxRound "PaintLayers") U) ∧ va_Dc U
theorem mN.same {u U : State} (hv : U.vm = u.vm) (h : mN u) : mN U := by
  have ha : u.vm.Alike U.vm := by rw [hv]; exact Vm.Alike.refl _
  obtain ⟨⟨⟨h1, h9⟩, h2⟩, ⟨h3, h4⟩, ⟨h5, h6, h7⟩, h8⟩ := h
  exact ⟨⟨⟨h1.moved ha, h9.same hv⟩, h2.moved ha⟩, ⟨va_Nw.same rfl hv.symm h3, va_Nw.same rfl hv.symm h4⟩, ⟨va_Nw.same rfl hv.symm h5, va_Nw.same rfl hv.symm h6, va_Nw.same rfl hv.symm h7⟩, va_Dc.moved ha h8⟩
theorem mN.warm {u U : State} (hw : u.WarmedH U.vm) (h : mN u) : mN U := by
  have ha : u.vm.Alike U.vm := hw.alike
  obtain ⟨⟨⟨h1, h9⟩, h2⟩, ⟨h3, h4⟩, ⟨h5, h6, h7⟩, h8⟩ := h
  exact ⟨⟨⟨h1.moved ha, h9.warm hw⟩, h2.moved ha⟩, ⟨va_Nw.warmC hw h3, va_Nw.warmD hw h4⟩, ⟨va_Nw.warmM hw h5, va_Nw.warmM hw h6, va_Nw.warmM hw h7⟩, va_Dc.moved ha h8⟩
def mT (D : mD) (A : Nat → Prop) (U : State) (H : Heap) : Prop :=
  (vx_Zq Bundle.tN "UNASSIGNED_STACK" Bundle.steD A U H ∧ vx_Zq Bundle.tN "SUPPRESSED_SENTINEL" Bundle.listD A U H) ∧
  (va_Z "java/util/ArrayList" "DEFAULTCAPACITY_EMPTY_ELEMENTDATA" "[Ljava/lang/Object;" (.ref (D.2.2 0)) A U H ∧ va_T (.object "java/lang/Object") (D.2.2 0) 0 (fun _ => .null) A U H) ∧
  (va_Mi "[Ljava/lang/Object;" (D.2.2 1) U ∧ ∀ q ∈ m_txt, ∃ sa : Nat, vk_R RX7 q.1 q.2 sa U) ∧ mN U
theorem mT.kept {D : mD} {A : Nat → Prop} {U : State} {H H1 : Heap} (h : mT D A U H) (hq : ∀ a : Nat, a < H.size → ¬ A a → H1[a]? = H[a]?) : mT D A U H1 :=
  ⟨⟨h.1.1.kept hq, h.1.2.kept hq⟩, ⟨h.2.1.1.kept hq, h.2.1.2.kept hq⟩, h.2.2⟩
theorem mT.same {D : mD} {A : Nat → Prop} {u U : State} {H : Heap} (hv : U.vm = u.vm) (h : mT D A u H) : mT D A U H := by
  have ha : u.vm.Alike U.vm := by rw [hv]; exact Vm.Alike.refl _
  exact ⟨⟨vx_Zq.moved ha h.1.1, vx_Zq.moved ha h.1.2⟩, ⟨va_Z.moved ha h.2.1.1, va_T.moved ha h.2.1.2⟩, ⟨va_Mi.moved ha h.2.2.1.1, fun q hq => by
    obtain ⟨sa, hs⟩ := h.2.2.1.2 q hq
    exact ⟨sa, vk_R.same hv hs⟩⟩, mN.same hv h.2.2.2⟩
theorem mT.warm {D : mD} {A : Nat → Prop} {u U : State} {H : Heap} (hw : u.WarmedH U.vm) (h : mT D A u H) : mT D A U H := by
  have ha : u.vm.Alike U.vm := hw.alike
  exact ⟨⟨vx_Zq.moved ha h.1.1, vx_Zq.moved ha h.1.2⟩, ⟨va_Z.moved ha h.2.1.1, va_T.moved ha h.2.1.2⟩, ⟨va_Mi.moved ha h.2.2.1.1, fun q hq => by
    obtain ⟨sa, hs⟩ := h.2.2.1.2 q hq
    exact ⟨sa, vk_R.warm hw hs⟩⟩, mN.warm hw h.2.2.2⟩
/-- what a method may count on at its start, beside its world -/
def mG (D : mD) (A : Nat → Prop) (U : State) : Prop := (∀ q : Nat, U.heap.size ≤ q → A q) ∧ va_K D.1 vwCl (m_tys D) U ∧ mT D A U U.heap
def mC (p : Program) (m : MethodId) (meth : Method) (c : Code) (cc : ByteArray) (nL : Nat) (s : State) (args : Array Value) (Ts : List Cond) (own : String) (D : mD) (A : Nat → Prop) (y : MethodName) (ret : Option FieldType) : Prop :=
  CallFix p m c cc nL s args Ts own ∧ mG D A s ∧ meth.locks = false ∧ meth.name = y.name ∧ meth.sig.returnType = ret
def mV (p : Program) (l : Launch) (e : Env) (R : Room) (s : State) (m : MethodId) (args : Array Value) (below : List Frame) (meth : Method) (c : Code) (nL : Nat) (D : mD) (A : Nat → Prop) (Q : State → Prop) (M : Mm) (k n : Nat) (L : List (Nat × Value)) (st : List Value) (pc : Nat) : Prop :=
  ∀ (H : Heap) (locs : List Loc) (ls : Array Slot), mW D A M H → va_S A s.heap H locs → lv_has ls nL L → W p l e R s m args below meth c H locs k n Q (F0 m pc ls st)
section MEM
variable {p : Program} {l : Launch} {e : Env} {R : Room} {s : State} {m : MethodId} {args : Array Value} {below : List Frame} {meth : Method} {c : Code} {nL : Nat} {D : mD} {A : Nat → Prop} {Q : State → Prop} {M : Mm} {k n : Nat} {L : List (Nat × Value)} {st : List Value} {pc : Nat} {cc : ByteArray} {Ts : List Cond} {own : String} {y0 : MethodName} {ret0 : Option FieldType}
theorem m_iconst (C : mC p m meth c cc nL s args Ts own D A y0 ret0) {i : Int} {v : Int32} (d : decode cc pc = .ok (.iconst i, 1)) (hv : Int32.ofInt i = v) (kk : mV p l e R s m args below meth c nL D A Q M k n L (.int v :: st) (pc + 1)) : mV p l e R s m args below meth c nL D A Q M k n L (st) pc := fun H locs ls hW hS hl => lv_iconst C.1.1 C.1.2.1 d hv (kk H locs ls hW hS hl)
theorem m_bipush (C : mC p m meth c cc nL s args Ts own D A y0 ret0) {i : Int} {v : Int32} (d : decode cc pc = .ok (.bipush i, 2)) (hv : (Int8.ofInt i).toInt32 = v) (kk : mV p l e R s m args below meth c nL D A Q M k n L (.int v :: st) (pc + 2)) : mV p l e R s m args below meth c nL D A Q M k n L (st) pc := fun H locs ls hW hS hl => lv_bipush C.1.1 C.1.2.1 d hv (kk H locs ls hW hS hl)
theorem m_sipush (C : mC p m meth c cc nL s args Ts own D A y0 ret0) {i : Int} {v : Int32} (d : decode cc pc = .ok (.sipush i, 3)) (hv : (Int16.ofInt i).toInt32 = v) (kk : mV p l e R s m args below meth c nL D A Q M k n L (.int v :: st) (pc + 3)) : mV p l e R s m args below meth c nL D A Q M k n L (st) pc := fun H locs ls hW hS hl => lv_sipush C.1.1 C.1.2.1 d hv (kk H locs ls hW hS hl)
theorem m_lconst (C : mC p m meth c cc nL s args Ts own D A y0 ret0) {i : Fin 2} {v : Int64} (d : decode cc pc = .ok (.lconst i, 1)) (hv : Int64.ofNat (i : Nat) = v) (kk : mV p l e R s m args below meth c nL D A Q M k n L (.long v :: st) (pc + 1)) : mV p l e R s m args below meth c nL D A Q M k n L (st) pc := fun H locs ls hW hS hl => lv_lconst C.1.1 C.1.2.1 d hv (kk H locs ls hW hS hl)
theorem m_null (C : mC p m meth c cc nL s args Ts own D A y0 ret0)  (d : decode cc pc = .ok (.aconst_null, 1))  (kk : mV p l e R s m args below meth c nL D A Q M k n L (.null :: st) (pc + 1)) : mV p l e R s m args below meth c nL D A Q M k n L (st) pc := fun H locs ls hW hS hl => lv_null C.1.1 C.1.2.1 d  (kk H locs ls hW hS hl)
theorem m_iload_n (C : mC p m meth c cc nL s args Ts own D A y0 ret0) {j : Fin 4} {i : Nat} {x : Int32} (d : decode cc pc = .ok (.iload_n j, 1)) (hi : (j : Nat) = i) (q : Nat) (hq : L[q]? = some (i, .int x)) (kk : mV p l e R s m args below meth c nL D A Q M k n L (.int x :: st) (pc + 1)) : mV p l e R s m args below meth c nL D A Q M k n L st pc := fun H locs ls hW hS hl => lv_iload_n C.1.1 C.1.2.1 d hi (lv_at hl q hq) (kk H locs ls hW hS hl)
theorem m_iload (C : mC p m meth c cc nL s args Ts own D A y0 ret0) {i : Nat} {x : Int32} (d : decode cc pc = .ok (.iload i, 2)) (q : Nat) (hq : L[q]? = some (i, .int x)) (kk : mV p l e R s m args below meth c nL D A Q M k n L (.int x :: st) (pc + 2)) : mV p l e R s m args below meth c nL D A Q M k n L st pc := fun H locs ls hW hS hl => lv_iload C.1.1 C.1.2.1 d (lv_at hl q hq) (kk H locs ls hW hS hl)
theorem m_lload_n (C : mC p m meth c cc nL s args Ts own D A y0 ret0) {j : Fin 4} {i : Nat} {x : Int64} (d : decode cc pc = .ok (.lload_n j, 1)) (hi : (j : Nat) = i) (q : Nat) (hq : L[q]? = some (i, .long x)) (kk : mV p l e R s m args below meth c nL D A Q M k n L (.long x :: st) (pc + 1)) : mV p l e R s m args below meth c nL D A Q M k n L st pc := fun H locs ls hW hS hl => lv_lload_n C.1.1 C.1.2.1 d hi (lv_at hl q hq) (kk H locs ls hW hS hl)
theorem m_aload_n (C : mC p m meth c cc nL s args Ts own D A y0 ret0) {j : Fin 4} {i x : Nat} (d : decode cc pc = .ok (.aload_n j, 1)) (hi : (j : Nat) = i) (q : Nat) (hq : L[q]? = some (i, .ref x)) (kk : mV p l e R s m args below meth c nL D A Q M k n L (.ref x :: st) (pc + 1)) : mV p l e R s m args below meth c nL D A Q M k n L st pc := fun H locs ls hW hS hl => lv_aload_n C.1.1 C.1.2.1 d hi (lv_at hl q hq) (kk H locs ls hW hS hl)
theorem m_aload (C : mC p m meth c cc nL s args Ts own D A y0 ret0) {i x : Nat} (d : decode cc pc = .ok (.aload i, 2)) (q : Nat) (hq : L[q]? = some (i, .ref x)) (kk : mV p l e R s m args below meth c nL D A Q M k n L (.ref x :: st) (pc + 2)) : mV p l e R s m args below meth c nL D A Q M k n L st pc := fun H locs ls hW hS hl => lv_aload C.1.1 C.1.2.1 d (lv_at hl q hq) (kk H locs ls hW hS hl)
theorem m_aload_nq (C : mC p m meth c cc nL s args Ts own D A y0 ret0) {j : Fin 4} {i : Nat} {x : Option Nat} (d : decode cc pc = .ok (.aload_n j, 1)) (hi : (j : Nat) = i) (q : Nat) (hq : L[q]? = some (i, va_rf x)) (kk : mV p l e R s m args below meth c nL D A Q M k n L (va_rf x :: st) (pc + 1)) : mV p l e R s m args below meth c nL D A Q M k n L st pc := by
  cases x with
  | none => exact fun H locs ls hW hS hl => lv_aload_nN C.1.1 C.1.2.1 d hi (lv_at hl q hq) (kk H locs ls hW hS hl)
  | some x => exact fun H locs ls hW hS hl => lv_aload_n C.1.1 C.1.2.1 d hi (lv_at hl q hq) (kk H locs ls hW hS hl)
theorem m_aloadq (C : mC p m meth c cc nL s args Ts own D A y0 ret0) {i : Nat} {x : Option Nat} (d : decode cc pc = .ok (.aload i, 2)) (q : Nat) (hq : L[q]? = some (i, va_rf x)) (kk : mV p l e R s m args below meth c nL D A Q M k n L (va_rf x :: st) (pc + 2)) : mV p l e R s m args below meth c nL D A Q M k n L st pc := by
  cases x with
  | none => exact fun H locs ls hW hS hl => lv_aloadN C.1.1 C.1.2.1 d (lv_at hl q hq) (kk H locs ls hW hS hl)
  | some x => exact fun H locs ls hW hS hl => lv_aload C.1.1 C.1.2.1 d (lv_at hl q hq) (kk H locs ls hW hS hl)
theorem m_istore_n (C : mC p m meth c cc nL s args Ts own D A y0 ret0) {j : Fin 4} {i : Nat} {x : Int32} {L' : List (Nat × Value)} (d : decode cc pc = .ok (.istore_n j, 1)) (hi : (j : Nat) = i) (hn : i < nL) (hL : (i, Value.int x) :: L.filter (fun q => !(q.1 == i) && !(q.1 + 1 == i && q.2.category == 2)) = L') (kk : mV p l e R s m args below meth c nL D A Q M k n L' st (pc + 1)) : mV p l e R s m args below meth c nL D A Q M k n L (.int x :: st) pc := fun H locs ls hW hS hl => lv_istore_n C.1.1 C.1.2.1 d hi hl hn hL (fun ls hl => kk H locs ls hW hS hl)
theorem m_istore (C : mC p m meth c cc nL s args Ts own D A y0 ret0) {i : Nat} {x : Int32} {L' : List (Nat × Value)} (d : decode cc pc = .ok (.istore i, 2)) (hn : i < nL) (hL : (i, Value.int x) :: L.filter (fun q => !(q.1 == i) && !(q.1 + 1 == i && q.2.category == 2)) = L') (kk : mV p l e R s m args below meth c nL D A Q M k n L' st (pc + 2)) : mV p l e R s m args below meth c nL D A Q M k n L (.int x :: st) pc := fun H locs ls hW hS hl => lv_istore C.1.1 C.1.2.1 d hl hn hL (fun ls hl => kk H locs ls hW hS hl)
theorem m_lstore_n (C : mC p m meth c cc nL s args Ts own D A y0 ret0) {j : Fin 4} {i : Nat} {x : Int64} {L' : List (Nat × Value)} (d : decode cc pc = .ok (.lstore_n j, 1)) (hi : (j : Nat) = i) (hn : i + 1 < nL) (hL : (i, Value.long x) :: L.filter (fun q => !(q.1 == i) && (!(q.1 == i + 1) && !(q.1 + 1 == i && q.2.category == 2))) = L') (kk : mV p l e R s m args below meth c nL D A Q M k n L' st (pc + 1)) : mV p l e R s m args below meth c nL D A Q M k n L (.long x :: st) pc := fun H locs ls hW hS hl => lv_lstore_n C.1.1 C.1.2.1 d hi hl hn hL (fun ls hl => kk H locs ls hW hS hl)
theorem m_astore_n (C : mC p m meth c cc nL s args Ts own D A y0 ret0) {j : Fin 4} {i : Nat} {x : Nat} {L' : List (Nat × Value)} (d : decode cc pc = .ok (.astore_n j, 1)) (hi : (j : Nat) = i) (hn : i < nL) (hL : (i, Value.ref x) :: L.filter (fun q => !(q.1 == i) && !(q.1 + 1 == i && q.2.category == 2)) = L') (kk : mV p l e R s m args below meth c nL D A Q M k n L' st (pc + 1)) : mV p l e R s m args below meth c nL D A Q M k n L (.ref x :: st) pc := fun H locs ls hW hS hl => lv_astore_n C.1.1 C.1.2.1 d hi hl hn hL (fun ls hl => kk H locs ls hW hS hl)
theorem m_astore (C : mC p m meth c cc nL s args Ts own D A y0 ret0) {i : Nat} {x : Nat} {L' : List (Nat × Value)} (d : decode cc pc = .ok (.astore i, 2)) (hn : i < nL) (hL : (i, Value.ref x) :: L.filter (fun q => !(q.1 == i) && !(q.1 + 1 == i && q.2.category == 2)) = L') (kk : mV p l e R s m args below meth c nL D A Q M k n L' st (pc + 2)) : mV p l e R s m args below meth c nL D A Q M k n L (.ref x :: st) pc := fun H locs ls hW hS hl => lv_astore C.1.1 C.1.2.1 d hl hn hL (fun ls hl => kk H locs ls hW hS hl)
theorem m_astore_nq (C : mC p m meth c cc nL s args Ts own D A y0 ret0) {j : Fin 4} {i : Nat} {x : Option Nat} {L' : List (Nat × Value)} (d : decode cc pc = .ok (.astore_n j, 1)) (hi : (j : Nat) = i) (hn : i < nL) (hL : (i, va_rf x) :: L.filter (fun q => !(q.1 == i) && !(q.1 + 1 == i && q.2.category == 2)) = L') (kk : mV p l e R s m args below meth c nL D A Q M k n L' st (pc + 1)) : mV p l e R s m args below meth c nL D A Q M k n L (va_rf x :: st) pc := by
  cases x with
  | none => exact fun H locs ls hW hS hl => lv_astore_nN C.1.1 C.1.2.1 d hi hl hn hL (fun ls hl => kk H locs ls hW hS hl)
  | some x => exact fun H locs ls hW hS hl => lv_astore_n C.1.1 C.1.2.1 d hi hl hn hL (fun ls hl => kk H locs ls hW hS hl)
theorem m_astoreq (C : mC p m meth c cc nL s args Ts own D A y0 ret0) {i : Nat} {x : Option Nat} {L' : List (Nat × Value)} (d : decode cc pc = .ok (.astore i, 2)) (hn : i < nL) (hL : (i, va_rf x) :: L.filter (fun q => !(q.1 == i) && !(q.1 + 1 == i && q.2.category == 2)) = L') (kk : mV p l e R s m args below meth c nL D A Q M k n L' st (pc + 2)) : mV p l e R s m args below meth c nL D A Q M k n L (va_rf x :: st) pc := by
  cases x with
  | none => exact fun H locs ls hW hS hl => lv_astoreN C.1.1 C.1.2.1 d hl hn hL (fun ls hl => kk H locs ls hW hS hl)
  | some x => exact fun H locs ls hW hS hl => lv_astore C.1.1 C.1.2.1 d hl hn hL (fun ls hl => kk H locs ls hW hS hl)
theorem m_iinc (C : mC p m meth c cc nL s args Ts own D A y0 ret0) {i q : Nat} {a : Int} {x v : Int32} {L' : List (Nat × Value)} (d : decode cc pc = .ok (.iinc i a, 3)) (hq : L[q]? = some (i, .int x)) (hv : x + Int32.ofInt a = v) (hn : i < nL) (hL : (i, Value.int v) :: L.filter (fun q => !(q.1 == i) && !(q.1 + 1 == i && q.2.category == 2)) = L') (kk : mV p l e R s m args below meth c nL D A Q M k n L' st (pc + 3)) : mV p l e R s m args below meth c nL D A Q M k n L st pc := fun H locs ls hW hS hl => lv_iinc C.1.1 C.1.2.1 d hl hq hv hn hL (fun ls hl => kk H locs ls hW hS hl)
theorem m_iadd (C : mC p m meth c cc nL s args Ts own D A y0 ret0) {x y : Int32} (d : decode cc pc = .ok (.iadd, 1))  (kk : mV p l e R s m args below meth c nL D A Q M k n L (.int (x + y) :: st) (pc + 1)) : mV p l e R s m args below meth c nL D A Q M k n L (.int y :: .int x :: st) pc := fun H locs ls hW hS hl => lv_iadd C.1.1 C.1.2.1 d  (kk H locs ls hW hS hl)
theorem m_isub (C : mC p m meth c cc nL s args Ts own D A y0 ret0) {x y : Int32} (d : decode cc pc = .ok (.isub, 1))  (kk : mV p l e R s m args below meth c nL D A Q M k n L (.int (x - y) :: st) (pc + 1)) : mV p l e R s m args below meth c nL D A Q M k n L (.int y :: .int x :: st) pc := fun H locs ls hW hS hl => lv_isub C.1.1 C.1.2.1 d  (kk H locs ls hW hS hl)
theorem m_imul (C : mC p m meth c cc nL s args Ts own D A y0 ret0) {x y : Int32} (d : decode cc pc = .ok (.imul, 1))  (kk : mV p l e R s m args below meth c nL D A Q M k n L (.int (x * y) :: st) (pc + 1)) : mV p l e R s m args below meth c nL D A Q M k n L (.int y :: .int x :: st) pc := fun H locs ls hW hS hl => lv_imul C.1.1 C.1.2.1 d  (kk H locs ls hW hS hl)
theorem m_iand (C : mC p m meth c cc nL s args Ts own D A y0 ret0) {x y : Int32} (d : decode cc pc = .ok (.iand, 1))  (kk : mV p l e R s m args below meth c nL D A Q M k n L (.int (x &&& y) :: st) (pc + 1)) : mV p l e R s m args below meth c nL D A Q M k n L (.int y :: .int x :: st) pc := fun H locs ls hW hS hl => lv_iand C.1.1 C.1.2.1 d  (kk H locs ls hW hS hl)
theorem m_ladd (C : mC p m meth c cc nL s args Ts own D A y0 ret0) {x y : Int64} (d : decode cc pc = .ok (.ladd, 1))  (kk : mV p l e R s m args below meth c nL D A Q M k n L (.long (x + y) :: st) (pc + 1)) : mV p l e R s m args below meth c nL D A Q M k n L (.long y :: .long x :: st) pc := fun H locs ls hW hS hl => lv_ladd C.1.1 C.1.2.1 d  (kk H locs ls hW hS hl)
theorem m_lsub (C : mC p m meth c cc nL s args Ts own D A y0 ret0) {x y : Int64} (d : decode cc pc = .ok (.lsub, 1))  (kk : mV p l e R s m args below meth c nL D A Q M k n L (.long (x - y) :: st) (pc + 1)) : mV p l e R s m args below meth c nL D A Q M k n L (.long y :: .long x :: st) pc := fun H locs ls hW hS hl => lv_lsub C.1.1 C.1.2.1 d  (kk H locs ls hW hS hl)
theorem m_land (C : mC p m meth c cc nL s args Ts own D A y0 ret0) {x y : Int64} (d : decode cc pc = .ok (.land, 1))  (kk : mV p l e R s m args below meth c nL D A Q M k n L (.long (x &&& y) :: st) (pc + 1)) : mV p l e R s m args below meth c nL D A Q M k n L (.long y :: .long x :: st) pc := fun H locs ls hW hS hl => lv_land C.1.1 C.1.2.1 d  (kk H locs ls hW hS hl)
theorem m_lor (C : mC p m meth c cc nL s args Ts own D A y0 ret0) {x y : Int64} (d : decode cc pc = .ok (.lor, 1))  (kk : mV p l e R s m args below meth c nL D A Q M k n L (.long (x ||| y) :: st) (pc + 1)) : mV p l e R s m args below meth c nL D A Q M k n L (.long y :: .long x :: st) pc := fun H locs ls hW hS hl => lv_lor C.1.1 C.1.2.1 d  (kk H locs ls hW hS hl)
theorem m_idiv (C : mC p m meth c cc nL s args Ts own D A y0 ret0) {x y : Int32} (d : decode cc pc = .ok (.idiv, 1)) (h0 : ¬ y = 0) (kk : mV p l e R s m args below meth c nL D A Q M k n L (.int (x / y) :: st) (pc + 1)) : mV p l e R s m args below meth c nL D A Q M k n L (.int y :: .int x :: st) pc := fun H locs ls hW hS hl => lv_idiv C.1.1 C.1.2.1 d h0 (kk H locs ls hW hS hl)
theorem m_irem (C : mC p m meth c cc nL s args Ts own D A y0 ret0) {x y : Int32} (d : decode cc pc = .ok (.irem, 1)) (h0 : ¬ y = 0) (kk : mV p l e R s m args below meth c nL D A Q M k n L (.int (x - x / y * y) :: st) (pc + 1)) : mV p l e R s m args below meth c nL D A Q M k n L (.int y :: .int x :: st) pc := fun H locs ls hW hS hl => lv_irem C.1.1 C.1.2.1 d h0 (kk H locs ls hW hS hl)
theorem m_ishr (C : mC p m meth c cc nL s args Ts own D A y0 ret0) {x y : Int32} (d : decode cc pc = .ok (.ishr, 1))  (kk : mV p l e R s m args below meth c nL D A Q M k n L (.int (x >>> (y &&& 31)) :: st) (pc + 1)) : mV p l e R s m args below meth c nL D A Q M k n L (.int y :: .int x :: st) pc := fun H locs ls hW hS hl => lv_ishr C.1.1 C.1.2.1 d  (kk H locs ls hW hS hl)
theorem m_l2i (C : mC p m meth c cc nL s args Ts own D A y0 ret0) {x : Int64} {v : Int32} (d : decode cc pc = .ok (.l2i, 1)) (hv : x.toInt32 = v) (kk : mV p l e R s m args below meth c nL D A Q M k n L (.int v :: st) (pc + 1)) : mV p l e R s m args below meth c nL D A Q M k n L (.long x :: st) pc := fun H locs ls hW hS hl => lv_l2i C.1.1 C.1.2.1 d hv (kk H locs ls hW hS hl)
theorem m_lshl (C : mC p m meth c cc nL s args Ts own D A y0 ret0) {x v : Int64} {y : Int32} (d : decode cc pc = .ok (.lshl, 1)) (hv : x <<< (y.toInt64 &&& 63) = v) (kk : mV p l e R s m args below meth c nL D A Q M k n L (.long v :: st) (pc + 1)) : mV p l e R s m args below meth c nL D A Q M k n L (.int y :: .long x :: st) pc := fun H locs ls hW hS hl => lv_lshl C.1.1 C.1.2.1 d hv (kk H locs ls hW hS hl)
theorem m_lushr (C : mC p m meth c cc nL s args Ts own D A y0 ret0) {x v : Int64} {y : Int32} (d : decode cc pc = .ok (.lushr, 1)) (hv : (x.toUInt64 >>> (y.toInt64.toUInt64 &&& Int64.toUInt64 63)).toInt64 = v) (kk : mV p l e R s m args below meth c nL D A Q M k n L (.long v :: st) (pc + 1)) : mV p l e R s m args below meth c nL D A Q M k n L (.int y :: .long x :: st) pc := fun H locs ls hW hS hl => lv_lushr C.1.1 C.1.2.1 d hv (kk H locs ls hW hS hl)
theorem m_dup (C : mC p m meth c cc nL s args Ts own D A y0 ret0) {va : Value} (d : decode cc pc = .ok (.dup, 1)) (h1 : va.category = 1) (kk : mV p l e R s m args below meth c nL D A Q M k n L (va :: va :: st) (pc + 1)) : mV p l e R s m args below meth c nL D A Q M k n L (va :: st) pc := fun H locs ls hW hS hl => lv_dup C.1.1 C.1.2.1 d h1 (kk H locs ls hW hS hl)
theorem m_pop (C : mC p m meth c cc nL s args Ts own D A y0 ret0) {va : Value} (d : decode cc pc = .ok (.pop, 1)) (h1 : va.category = 1) (kk : mV p l e R s m args below meth c nL D A Q M k n L (st) (pc + 1)) : mV p l e R s m args below meth c nL D A Q M k n L (va :: st) pc := fun H locs ls hW hS hl => lv_pop C.1.1 C.1.2.1 d h1 (kk H locs ls hW hS hl)
theorem m_dup_x1 (C : mC p m meth c cc nL s args Ts own D A y0 ret0) {va vb : Value} (d : decode cc pc = .ok (.dup_x1, 1)) (h1 : va.category = 1) (h2 : vb.category = 1) (kk : mV p l e R s m args below meth c nL D A Q M k n L (va :: vb :: va :: st) (pc + 1)) : mV p l e R s m args below meth c nL D A Q M k n L (va :: vb :: st) pc := fun H locs ls hW hS hl => lv_dup_x1 C.1.1 C.1.2.1 d h1 h2 (kk H locs ls hW hS hl)
theorem m_if_eq (C : mC p m meth c cc nL s args Ts own D A y0 ret0) {x : Int32} {off : Int} {tgt : Nat} (d : decode cc pc = .ok (.ifCond .eq off, 3)) (ht : (pc : Int) + off = (tgt : Int)) (kt : x = 0 → mV p l e R s m args below meth c nL D A Q M k n L st tgt) (kf : ¬ x = 0 → mV p l e R s m args below meth c nL D A Q M k n L st (pc + 3)) : mV p l e R s m args below meth c nL D A Q M k n L (.int x :: st) pc := fun H locs ls hW hS hl => lv_if_eq C.1.1 C.1.2.1 d ht (fun h => kt h H locs ls hW hS hl) (fun h => kf h H locs ls hW hS hl)
theorem m_if_ne (C : mC p m meth c cc nL s args Ts own D A y0 ret0) {x : Int32} {off : Int} {tgt : Nat} (d : decode cc pc = .ok (.ifCond .ne off, 3)) (ht : (pc : Int) + off = (tgt : Int)) (kt : ¬ x = 0 → mV p l e R s m args below meth c nL D A Q M k n L st tgt) (kf : x = 0 → mV p l e R s m args below meth c nL D A Q M k n L st (pc + 3)) : mV p l e R s m args below meth c nL D A Q M k n L (.int x :: st) pc := fun H locs ls hW hS hl => lv_if_ne C.1.1 C.1.2.1 d ht (fun h => kt h H locs ls hW hS hl) (fun h => kf h H locs ls hW hS hl)
theorem m_if_lt (C : mC p m meth c cc nL s args Ts own D A y0 ret0) {x : Int32} {off : Int} {tgt : Nat} (d : decode cc pc = .ok (.ifCond .lt off, 3)) (ht : (pc : Int) + off = (tgt : Int)) (kt : x < 0 → mV p l e R s m args below meth c nL D A Q M k n L st tgt) (kf : ¬ x < 0 → mV p l e R s m args below meth c nL D A Q M k n L st (pc + 3)) : mV p l e R s m args below meth c nL D A Q M k n L (.int x :: st) pc := fun H locs ls hW hS hl => lv_if_lt C.1.1 C.1.2.1 d ht (fun h => kt h H locs ls hW hS hl) (fun h => kf h H locs ls hW hS hl)
theorem m_if_ge (C : mC p m meth c cc nL s args Ts own D A y0 ret0) {x : Int32} {off : Int} {tgt : Nat} (d : decode cc pc = .ok (.ifCond .ge off, 3)) (ht : (pc : Int) + off = (tgt : Int)) (kt : 0 ≤ x → mV p l e R s m args below meth c nL D A Q M k n L st tgt) (kf : ¬ 0 ≤ x → mV p l e R s m args below meth c nL D A Q M k n L st (pc + 3)) : mV p l e R s m args below meth c nL D A Q M k n L (.int x :: st) pc := fun H locs ls hW hS hl => lv_if_ge C.1.1 C.1.2.1 d ht (fun h => kt h H locs ls hW hS hl) (fun h => kf h H locs ls hW hS hl)
theorem m_if_gt (C : mC p m meth c cc nL s args Ts own D A y0 ret0) {x : Int32} {off : Int} {tgt : Nat} (d : decode cc pc = .ok (.ifCond .gt off, 3)) (ht : (pc : Int) + off = (tgt : Int)) (kt : 0 < x → mV p l e R s m args below meth c nL D A Q M k n L st tgt) (kf : ¬ 0 < x → mV p l e R s m args below meth c nL D A Q M k n L st (pc + 3)) : mV p l e R s m args below meth c nL D A Q M k n L (.int x :: st) pc := fun H locs ls hW hS hl => lv_if_gt C.1.1 C.1.2.1 d ht (fun h => kt h H locs ls hW hS hl) (fun h => kf h H locs ls hW hS hl)
theorem m_if_le (C : mC p m meth c cc nL s args Ts own D A y0 ret0) {x : Int32} {off : Int} {tgt : Nat} (d : decode cc pc = .ok (.ifCond .le off, 3)) (ht : (pc : Int) + off = (tgt : Int)) (kt : x ≤ 0 → mV p l e R s m args below meth c nL D A Q M k n L st tgt) (kf : ¬ x ≤ 0 → mV p l e R s m args below meth c nL D A Q M k n L st (pc + 3)) : mV p l e R s m args below meth c nL D A Q M k n L (.int x :: st) pc := fun H locs ls hW hS hl => lv_if_le C.1.1 C.1.2.1 d ht (fun h => kt h H locs ls hW hS hl) (fun h => kf h H locs ls hW hS hl)
theorem m_icmp_eq (C : mC p m meth c cc nL s args Ts own D A y0 ret0) {x y : Int32} {off : Int} {tgt : Nat} (d : decode cc pc = .ok (.if_icmp .eq off, 3)) (ht : (pc : Int) + off = (tgt : Int)) (kt : x = y → mV p l e R s m args below meth c nL D A Q M k n L st tgt) (kf : ¬ x = y → mV p l e R s m args below meth c nL D A Q M k n L st (pc + 3)) : mV p l e R s m args below meth c nL D A Q M k n L (.int y :: .int x :: st) pc := fun H locs ls hW hS hl => lv_icmp_eq C.1.1 C.1.2.1 d ht (fun h => kt h H locs ls hW hS hl) (fun h => kf h H locs ls hW hS hl)
theorem m_icmp_ne (C : mC p m meth c cc nL s args Ts own D A y0 ret0) {x y : Int32} {off : Int} {tgt : Nat} (d : decode cc pc = .ok (.if_icmp .ne off, 3)) (ht : (pc : Int) + off = (tgt : Int)) (kt : ¬ x = y → mV p l e R s m args below meth c nL D A Q M k n L st tgt) (kf : x = y → mV p l e R s m args below meth c nL D A Q M k n L st (pc + 3)) : mV p l e R s m args below meth c nL D A Q M k n L (.int y :: .int x :: st) pc := fun H locs ls hW hS hl => lv_icmp_ne C.1.1 C.1.2.1 d ht (fun h => kt h H locs ls hW hS hl) (fun h => kf h H locs ls hW hS hl)
theorem m_icmp_lt (C : mC p m meth c cc nL s args Ts own D A y0 ret0) {x y : Int32} {off : Int} {tgt : Nat} (d : decode cc pc = .ok (.if_icmp .lt off, 3)) (ht : (pc : Int) + off = (tgt : Int)) (kt : x < y → mV p l e R s m args below meth c nL D A Q M k n L st tgt) (kf : ¬ x < y → mV p l e R s m args below meth c nL D A Q M k n L st (pc + 3)) : mV p l e R s m args below meth c nL D A Q M k n L (.int y :: .int x :: st) pc := fun H locs ls hW hS hl => lv_icmp_lt C.1.1 C.1.2.1 d ht (fun h => kt h H locs ls hW hS hl) (fun h => kf h H locs ls hW hS hl)
theorem m_icmp_ge (C : mC p m meth c cc nL s args Ts own D A y0 ret0) {x y : Int32} {off : Int} {tgt : Nat} (d : decode cc pc = .ok (.if_icmp .ge off, 3)) (ht : (pc : Int) + off = (tgt : Int)) (kt : y ≤ x → mV p l e R s m args below meth c nL D A Q M k n L st tgt) (kf : ¬ y ≤ x → mV p l e R s m args below meth c nL D A Q M k n L st (pc + 3)) : mV p l e R s m args below meth c nL D A Q M k n L (.int y :: .int x :: st) pc := fun H locs ls hW hS hl => lv_icmp_ge C.1.1 C.1.2.1 d ht (fun h => kt h H locs ls hW hS hl) (fun h => kf h H locs ls hW hS hl)
theorem m_icmp_gt (C : mC p m meth c cc nL s args Ts own D A y0 ret0) {x y : Int32} {off : Int} {tgt : Nat} (d : decode cc pc = .ok (.if_icmp .gt off, 3)) (ht : (pc : Int) + off = (tgt : Int)) (kt : y < x → mV p l e R s m args below meth c nL D A Q M k n L st tgt) (kf : ¬ y < x → mV p l e R s m args below meth c nL D A Q M k n L st (pc + 3)) : mV p l e R s m args below meth c nL D A Q M k n L (.int y :: .int x :: st) pc := fun H locs ls hW hS hl => lv_icmp_gt C.1.1 C.1.2.1 d ht (fun h => kt h H locs ls hW hS hl) (fun h => kf h H locs ls hW hS hl)
theorem m_icmp_le (C : mC p m meth c cc nL s args Ts own D A y0 ret0) {x y : Int32} {off : Int} {tgt : Nat} (d : decode cc pc = .ok (.if_icmp .le off, 3)) (ht : (pc : Int) + off = (tgt : Int)) (kt : x ≤ y → mV p l e R s m args below meth c nL D A Q M k n L st tgt) (kf : ¬ x ≤ y → mV p l e R s m args below meth c nL D A Q M k n L st (pc + 3)) : mV p l e R s m args below meth c nL D A Q M k n L (.int y :: .int x :: st) pc := fun H locs ls hW hS hl => lv_icmp_le C.1.1 C.1.2.1 d ht (fun h => kt h H locs ls hW hS hl) (fun h => kf h H locs ls hW hS hl)
theorem m_goto (C : mC p m meth c cc nL s args Ts own D A y0 ret0) {off : Int} {tgt : Nat} (d : decode cc pc = .ok (.goto off, 3)) (ht : (pc : Int) + off = (tgt : Int)) (kk : mV p l e R s m args below meth c nL D A Q M k n L st tgt) : mV p l e R s m args below meth c nL D A Q M k n L st pc := fun H locs ls hW hS hl => lv_goto C.1.1 C.1.2.1 d ht (kk H locs ls hW hS hl)
theorem m_topi {x : Int32} (kk : ∀ y : Int32, y = x → mV p l e R s m args below meth c nL D A Q M k n L (.int y :: st) pc) : mV p l e R s m args below meth c nL D A Q M k n L (.int x :: st) pc := kk x rfl
theorem m_i {x y : Int32} (h : x = y) (kk : mV p l e R s m args below meth c nL D A Q M k n L (.int y :: st) pc) : mV p l e R s m args below meth c nL D A Q M k n L (.int x :: st) pc := by rw [h]; exact kk
theorem m_l {x y : Int64} (h : x = y) (kk : mV p l e R s m args below meth c nL D A Q M k n L (.long y :: st) pc) : mV p l e R s m args below meth c nL D A Q M k n L (.long x :: st) pc := by rw [h]; exact kk
theorem m_ifnull (C : mC p m meth c cc nL s args Ts own D A y0 ret0) {x : Option Nat} {off : Int} {tgt : Nat} (d : decode cc pc = .ok (.ifnull off, 3)) (ht : (pc : Int) + off = (tgt : Int)) (kt : x = none → mV p l e R s m args below meth c nL D A Q M k n L st tgt) (kf : ∀ b : Nat, x = some b → mV p l e R s m args below meth c nL D A Q M k n L st (pc + 3)) : mV p l e R s m args below meth c nL D A Q M k n L (va_rf x :: st) pc := by
  cases x with
  | none => exact fun H locs ls hW hS hl => lv_ifnullN C.1.1 C.1.2.1 d ht (kt rfl H locs ls hW hS hl)
  | some b => exact fun H locs ls hW hS hl => lv_ifnull C.1.1 C.1.2.1 d (kf b rfl H locs ls hW hS hl)
theorem m_ifnonnull (C : mC p m meth c cc nL s args Ts own D A y0 ret0) {x : Option Nat} {off : Int} {tgt : Nat} (d : decode cc pc = .ok (.ifnonnull off, 3)) (ht : (pc : Int) + off = (tgt : Int)) (kt : ∀ b : Nat, x = some b → mV p l e R s m args below meth c nL D A Q M k n L st tgt) (kf : x = none → mV p l e R s m args below meth c nL D A Q M k n L st (pc + 3)) : mV p l e R s m args below meth c nL D A Q M k n L (va_rf x :: st) pc := by
  cases x with
  | none => exact fun H locs ls hW hS hl => lv_ifnonnullN C.1.1 C.1.2.1 d (kf rfl H locs ls hW hS hl)
  | some b => exact fun H locs ls hW hS hl => lv_ifnonnull C.1.1 C.1.2.1 d ht (kt b rfl H locs ls hW hS hl)
theorem m_acmp_eq (C : mC p m meth c cc nL s args Ts own D A y0 ret0) {x y : Option Nat} {off : Int} {tgt : Nat} (d : decode cc pc = .ok (.if_acmp .eq off, 3)) (ht : (pc : Int) + off = (tgt : Int)) (kt : x = y → mV p l e R s m args below meth c nL D A Q M k n L st tgt) (kf : ¬ x = y → mV p l e R s m args below meth c nL D A Q M k n L st (pc + 3)) : mV p l e R s m args below meth c nL D A Q M k n L (va_rf y :: va_rf x :: st) pc := fun H locs ls hW hS hl => lv_acmp_eq C.1.1 C.1.2.1 d ht (fun h => kt h H locs ls hW hS hl) (fun h => kf h H locs ls hW hS hl)
theorem m_acmp_ne (C : mC p m meth c cc nL s args Ts own D A y0 ret0) {x y : Option Nat} {off : Int} {tgt : Nat} (d : decode cc pc = .ok (.if_acmp .ne off, 3)) (ht : (pc : Int) + off = (tgt : Int)) (kt : ¬ x = y → mV p l e R s m args below meth c nL D A Q M k n L st tgt) (kf : x = y → mV p l e R s m args below meth c nL D A Q M k n L st (pc + 3)) : mV p l e R s m args below meth c nL D A Q M k n L (va_rf y :: va_rf x :: st) pc := fun H locs ls hW hS hl => lv_acmp_ne C.1.1 C.1.2.1 d ht (fun h => kt h H locs ls hW hS hl) (fun h => kf h H locs ls hW hS hl)
theorem m_tableIn (C : mC p m meth c cc nL s args Ts own D A y0 ret0) {dflt lo hi : Int} {offs : Array Int} {len : Nat} {x : Int32} {off : Int} {tgt : Nat} (d : decode cc pc = .ok (.tableswitch dflt lo hi offs, len)) (h1 : ¬ x.toInt < lo) (h2 : ¬ hi < x.toInt) (ho : offs[(x.toInt - lo).toNat]? = some off) (ht : (pc : Int) + off = (tgt : Int)) (kk : mV p l e R s m args below meth c nL D A Q M k n L st tgt) : mV p l e R s m args below meth c nL D A Q M k n L (.int x :: st) pc := fun H locs ls hW hS hl => lv_tableIn C.1.1 C.1.2.1 d h1 h2 ho ht (kk H locs ls hW hS hl)
theorem m_tableOut (C : mC p m meth c cc nL s args Ts own D A y0 ret0) {dflt lo hi : Int} {offs : Array Int} {len : Nat} {x : Int32} {tgt : Nat} (d : decode cc pc = .ok (.tableswitch dflt lo hi offs, len)) (h : x.toInt < lo ∨ hi < x.toInt) (ht : (pc : Int) + dflt = (tgt : Int)) (kk : mV p l e R s m args below meth c nL D A Q M k n L st tgt) : mV p l e R s m args below meth c nL D A Q M k n L (.int x :: st) pc := fun H locs ls hW hS hl => lv_tableOut C.1.1 C.1.2.1 d h ht (kk H locs ls hW hS hl)
theorem m_ldc (C : mC p m meth c cc nL s args Ts own D A y0 ret0) {index : Nat} {v : Int32} (hc : (Jvm.Cond.constant own index v).before args s = true) (d : decode cc pc = .ok (.ldc index, 2)) (kk : mV p l e R s m args below meth c nL D A Q M k n L (.int v :: st) (pc + 2)) : mV p l e R s m args below meth c nL D A Q M k n L st pc := fun H locs ls hW hS hl => lv_ldc C.1.1 C.1.2.1 C.1.2.2.2.1 hc d (kk H locs ls hW hS hl)
theorem m_ldc2 (C : mC p m meth c cc nL s args Ts own D A y0 ret0) {index : Nat} {v : Int64} (hc : (Jvm.Cond.constantLong own index v).before args s = true) (d : decode cc pc = .ok (.ldc2_w index, 3)) (kk : mV p l e R s m args below meth c nL D A Q M k n L (.long v :: st) (pc + 3)) : mV p l e R s m args below meth c nL D A Q M k n L st pc := fun H locs ls hW hS hl => lv_ldc2 C.1.1 C.1.2.1 C.1.2.2.2.1 hc d (kk H locs ls hW hS hl)
theorem m_lcmp (C : mC p m meth c cc nL s args Ts own D A y0 ret0) {x y : Int64} (d : decode cc pc = .ok (.lcmp, 1)) (kk : mV p l e R s m args below meth c nL D A Q M k n L (.int (lg_cmp x y) :: st) (pc + 1)) : mV p l e R s m args below meth c nL D A Q M k n L (.long y :: .long x :: st) pc := fun H locs ls hW hS hl => W.lcmp C.1.1 C.1.2.1 d (kk H locs ls hW hS hl)
theorem m_widen {k' n' : Nat} (h1 : k ≤ k') (h2 : n ≤ n') (kk : mV p l e R s m args below meth c nL D A Q M k' n' L st pc) : mV p l e R s m args below meth c nL D A Q M k n L st pc := fun H locs ls hW hS hl => W.widen h1 h2 (kk H locs ls hW hS hl)
theorem m_sub {L' : List (Nat × Value)} (ks : List Nat) (hL : lv_pick L ks = L') (kk : mV p l e R s m args below meth c nL D A Q M k n L' st pc) : mV p l e R s m args below meth c nL D A Q M k n L st pc := fun H locs ls hW hS hl => kk H locs ls hW hS (lv_sub hl ks hL)
theorem m_mem {M' : Mm} (hs : ∀ (a : Nat) (e : va_E), M' a = some e → M a = some e) (kk : mV p l e R s m args below meth c nL D A Q M' k n L st pc) : mV p l e R s m args below meth c nL D A Q M k n L st pc := fun H locs ls hW hS hl => kk H locs ls (hW.sub hs) hS hl
theorem m_get (C : mC p m meth c cc nL s args Ts own D A y0 ret0) {ref C1 : String} {T : u_T} {N ci index a : Nat} {fs : List Value} (hM : M a = some (.inr (ci, fs))) (hc : vwCl[ci]? = some (C1, T, N)) (hin : ∀ w ∈ u_ws C1 T N, w ∈ Ts) (f : Nat) (hf : f < N) (hlink : (Cond.fieldLink own index ref (T f).2.1 (T f).2.2.1) ∈ Ts) (hsame : ∀ x, s.fieldFound? (T f).1 (T f).2.1 (T f).2.2.1 = some x → s.fieldFound? ref (T f).2.1 (T f).2.2.1 = some x) {v : Value} (hv : fs[f]? = some v) (d : decode cc pc = .ok (.getfield index, 3)) (kk : mV p l e R s m args below meth c nL D A Q M k n L (v :: st) (pc + 3)) : mV p l e R s m args below meth c nL D A Q M k n L (.ref a :: st) pc := by
  intro H locs ls hW hS hl
  obtain ⟨ws, hP, hD, h3⟩ := id hW
  obtain ⟨q0, h0⟩ := h3 _ _ hM
  exact va_get C.1.1 C.1.2.1 C.1.2.2.2.2 hin C.1.2.2.2.1 C.2.1.2.1 hP q0 h0 hc f hf (C.1.2.2.2.2 _ hlink) hsame hv d (kk H locs ls hW hS hl)
theorem m_put (C : mC p m meth c cc nL s args Ts own D A y0 ret0) {ref C1 : String} {T : u_T} {N ci index a : Nat} {fs : List Value} (hM : M a = some (.inr (ci, fs))) (hc : vwCl[ci]? = some (C1, T, N)) (hin : ∀ w ∈ u_ws C1 T N, w ∈ Ts) (ty0 : Nat → FieldType) (hty : ∀ k, k < N → parseFieldDescriptor (T k).2.2.1 = some (ty0 k)) (hnm : ∀ a, a < N → ∀ b, b < N → a ≠ b → (T a).2.1 ≠ (T b).2.1) (f : Nat) (hf : f < N) (hlink : (Cond.fieldLink own index ref (T f).2.1 (T f).2.2.1) ∈ Ts) (hsame : ∀ x, s.fieldFound? (T f).1 (T f).2.1 (T f).2.2.1 = some x → s.fieldFound? ref (T f).2.1 (T f).2.2.1 = some x) (hfin : (T f).2.2.2 = false) {v : Value} (hn : narrow (ty0 f) v = v) (hfit : fits (ty0 f) v = true) (hl0 : f < fs.length) {e' : va_E} (he : .inr (ci, fs.set f v) = e') (d : decode cc pc = .ok (.putfield index, 3)) (kk : mV p l e R s m args below meth c nL D A Q (m_up M a e') k n L st (pc + 3)) : mV p l e R s m args below meth c nL D A Q M k n L (v :: .ref a :: st) pc := by
  intro H locs ls hW hS hl
  obtain ⟨ws, hP, hD, h3⟩ := hW
  obtain ⟨q0, h0⟩ := h3 _ _ hM
  subst he
  exact va_put C.1.1 C.1.2.1 C.1.2.2.2.2 hin ty0 hty hnm C.1.2.2.2.1 C.2.1.2.1 hP hD hS q0 h0 hc f hf (C.1.2.2.2.2 _ hlink) hsame hfin (hty f hf) hn hfit hl0 d (fun H1 locs1 hP1 hD1 hS1 => kk H1 locs1 ls ⟨_, hP1, hD1, m_set h3 h0⟩ hS1 hl)
theorem m_putF (C : mC p m meth c cc nL s args Ts own D A y0 ret0) {ref C1 : String} {T : u_T} {N ci index a : Nat} {fs : List Value} (hM : M a = some (.inr (ci, fs))) (hc : vwCl[ci]? = some (C1, T, N)) (hin : ∀ w ∈ u_ws C1 T N, w ∈ Ts) (ty0 : Nat → FieldType) (hty : ∀ k, k < N → parseFieldDescriptor (T k).2.2.1 = some (ty0 k)) (hnm : ∀ a, a < N → ∀ b, b < N → a ≠ b → (T a).2.1 ≠ (T b).2.1) (f : Nat) (hf : f < N) (hlink : (Cond.fieldLink own index ref (T f).2.1 (T f).2.2.1) ∈ Ts) (hsame : ∀ x, s.fieldFound? (T f).1 (T f).2.1 (T f).2.2.1 = some x → s.fieldFound? ref (T f).2.1 (T f).2.2.1 = some x) (hfin : (T f).2.2.2 = true) (hini : y0.name = "<init>") (hdecl : (T f).1 = own) {v : Value} (hn : narrow (ty0 f) v = v) (hfit : fits (ty0 f) v = true) (hl0 : f < fs.length) {e' : va_E} (he : .inr (ci, fs.set f v) = e') (d : decode cc pc = .ok (.putfield index, 3)) (kk : mV p l e R s m args below meth c nL D A Q (m_up M a e') k n L st (pc + 3)) : mV p l e R s m args below meth c nL D A Q M k n L (v :: .ref a :: st) pc := by
  intro H locs ls hW hS hl
  obtain ⟨ws, hP, hD, h3⟩ := hW
  obtain ⟨q0, h0⟩ := h3 _ _ hM
  subst he
  exact va_putF C.1.1 C.1.2.1 C.1.2.2.2.2 hin ty0 hty hnm C.1.2.2.2.1 C.2.1.2.1 hP hD hS q0 h0 hc f hf (C.1.2.2.2.2 _ hlink) hsame hfin (C.2.2.2.1.trans hini) hdecl (hty f hf) hn hfit hl0 d (fun H1 locs1 hP1 hD1 hS1 => kk H1 locs1 ls ⟨_, hP1, hD1, m_set h3 h0⟩ hS1 hl)
theorem m_new (C : mC p m meth c cc nL s args Ts own D A y0 ret0) {C1 : String} {T : u_T} {N ci index : Nat} (hc : vwCl[ci]? = some (C1, T, N)) (hin : ∀ w ∈ u_ws C1 T N, w ∈ Ts) (ty : Nat → FieldType) (hty : ∀ k, k < N → parseFieldDescriptor (T k).2.2.1 = some (ty k)) (hcl : Cond.classLink own index C1 ∈ Ts) (hinst : Cond.instantiable C1 N ∈ Ts) (hini : Cond.initialized C1 ∈ Ts) {fs : List Value} (hfs : ∀ j, j < N → defaultValue (ty j) = vp_V fs j) (hk : k + 1 ≤ R.cells) (hn : n + N ≤ R.slots) (d : decode cc pc = .ok (.new index, 3)) (kk : ∀ q : Nat, M q = none → mV p l e R s m args below meth c nL D A Q (m_up M q (.inr (ci, fs))) (k + 1) (n + N) L (.ref q :: st) (pc + 3)) : mV p l e R s m args below meth c nL D A Q M k n L st pc := by
  intro H locs ls hW hS hl
  have hlt := fun (a : Nat) (e : va_E) (h : M a = some e) => hW.lt h
  obtain ⟨ws, hP, hD, h3⟩ := hW
  have hKn := C.2.1.2.1.1 ci _ hc
  refine W.newcK C.1.1 C.1.2.1 C.1.2.2.2.1 (C.1.2.2.2.2 _ hcl) (C.1.2.2.2.2 _ hinst) (C.1.2.2.2.2 _ hini) rfl d hk hn hKn.2.1 rfl fun H1 kC hkC e1 z1 o1 => ?_
  have hk : ∀ (k : Nat) (x : Nat × va_E), ws[k]? = some x → H1[x.1]? = H[x.1]? := fun k x hx => o1 x.1 ((hP k x hx).lt)
  refine kk H.size ?_ H1 locs ls ⟨ws ++ [(H.size, .inr (ci, fs))], (hP.kept hk).app (fun k x hx => ?_), hD.push hP rfl (C.2.1.1 _ hS.1), m_push h3⟩ ⟨Nat.le_trans hS.1 (by omega), fun x h1 h2 => (o1 x (Nat.lt_of_lt_of_le h1 hS.1)).trans (hS.2.1 x h1 h2), hS.2.2⟩ hl
  · cases hz : M H.size with
    | none => rfl
    | some e => exact absurd (hlt _ _ hz) (Nat.lt_irrefl _)
  · have hz : k < 1 := (List.getElem?_eq_some_iff.mp hx).1
    rw [show k = 0 by omega] at hx
    cases hx
    exact ⟨_, hc, (u_born ty C.1.2.2.2.2 hin hKn hkC e1 hty).to hfs⟩
theorem m_iald (C : mC p m meth c cc nL s args Ts own D A y0 ret0) {a N : Nat} {f : Nat → Int32} (hM : M a = some (.inl (D.2.1 0, N, .inl f))) {i : Int32} (hin : vp_in i N) (d : decode cc pc = .ok (.iaload, 1)) (kk : mV p l e R s m args below meth c nL D A Q M k n L (.int (f i.toNatClampNeg) :: st) (pc + 1)) : mV p l e R s m args below meth c nL D A Q M k n L (.int i :: .ref a :: st) pc := by
  intro H locs ls hW hS hl
  obtain ⟨ws, hP, hD, h3⟩ := id hW
  obtain ⟨q0, h0⟩ := h3 _ _ hM
  exact va_iald C.1.1 C.1.2.1 C.2.1.2.1 hP q0 0 h0 rfl hin d (kk H locs ls hW hS hl)
theorem m_aald (C : mC p m meth c cc nL s args Ts own D A y0 ret0) {a N : Nat} {f : Nat → Option Nat} {cA : ClassId} {C1 : String} (hM : M a = some (.inl (cA, N, .inr (.inr (.inr (.inr f)))))) (t0 : Nat) (ht : (m_tys D)[t0]? = some (cA, .object C1)) {i : Int32} (hin : vp_in i N) (d : decode cc pc = .ok (.aaload, 1)) (kk : mV p l e R s m args below meth c nL D A Q M k n L (va_rf (f i.toNatClampNeg) :: st) (pc + 1)) : mV p l e R s m args below meth c nL D A Q M k n L (.int i :: .ref a :: st) pc := by
  intro H locs ls hW hS hl
  obtain ⟨ws, hP, hD, h3⟩ := id hW
  obtain ⟨q0, h0⟩ := h3 _ _ hM
  exact va_aldq C.1.1 C.1.2.1 C.2.1.2.1 hP q0 t0 h0 ht hin d (kk H locs ls hW hS hl)
theorem m_alen (C : mC p m meth c cc nL s args Ts own D A y0 ret0) {a : Nat} {cA : ClassId} {x : vp_A} (hM : M a = some (.inl (cA, x))) {ty : FieldType} (t0 : Nat) (ht : (m_tys D)[t0]? = some (cA, ty)) {v : Int32} (hv : Int32.ofNat x.1 = v) (d : decode cc pc = .ok (.arraylength, 1)) (kk : mV p l e R s m args below meth c nL D A Q M k n L (.int v :: st) (pc + 1)) : mV p l e R s m args below meth c nL D A Q M k n L (.ref a :: st) pc := by
  intro H locs ls hW hS hl
  obtain ⟨ws, hP, hD, h3⟩ := id hW
  obtain ⟨q0, h0⟩ := h3 _ _ hM
  exact va_alen C.1.1 C.1.2.1 C.2.1.2.1 hP q0 t0 h0 ht hv d (kk H locs ls hW hS hl)
theorem m_iast (C : mC p m meth c cc nL s args Ts own D A y0 ret0) {a N : Nat} {f : Nat → Int32} (hM : M a = some (.inl (D.2.1 0, N, .inl f))) {i : Int32} {x : Int32} (hin : vp_in i N) (d : decode cc pc = .ok (.iastore, 1)) (kk : mV p l e R s m args below meth c nL D A Q (m_up M a (.inl (D.2.1 0, N, .inl (upd f i.toNatClampNeg x)))) k n L st (pc + 1)) : mV p l e R s m args below meth c nL D A Q M k n L (.int x :: .int i :: .ref a :: st) pc := by
  intro H locs ls hW hS hl
  obtain ⟨ws, hP, hD, h3⟩ := hW
  obtain ⟨q0, h0⟩ := h3 _ _ hM
  exact va_iast C.1.1 C.1.2.1 C.2.1.2.1 hP hD hS q0 0 h0 rfl hin d (fun H1 locs1 hP1 hD1 hS1 => kk H1 locs1 ls ⟨_, hP1, hD1, m_set h3 h0⟩ hS1 hl)
theorem m_aast (C : mC p m meth c cc nL s args Ts own D A y0 ret0) {a N : Nat} {f : Nat → Option Nat} {cA : ClassId} {C1 : String} (hM : M a = some (.inl (cA, N, .inr (.inr (.inr (.inr f)))))) (t0 : Nat) (ht : (m_tys D)[t0]? = some (cA, .object C1)) {v ci : Nat} {r : vw_C} {fs : List Value} (hv : M v = some (.inr (ci, fs))) (hc : vwCl[ci]? = some r) (hca : va_Nw (.castable r.1 C1) s) {i : Int32} (hin : vp_in i N) (d : decode cc pc = .ok (.aastore, 1)) (kk : mV p l e R s m args below meth c nL D A Q (m_up M a (.inl (cA, N, .inr (.inr (.inr (.inr (va_up f i.toNatClampNeg (some v)))))))) k n L st (pc + 1)) : mV p l e R s m args below meth c nL D A Q M k n L (.ref v :: .int i :: .ref a :: st) pc := by
  intro H locs ls hW hS hl
  obtain ⟨ws, hP, hD, h3⟩ := hW
  obtain ⟨q0, h0⟩ := h3 _ _ hM
  obtain ⟨q1, h1⟩ := h3 _ _ hv
  exact va_astqO C.1.1 C.1.2.1 C.2.1.2.1 hP hD hS q0 t0 q1 ci h0 ht hca h1 hc hin d (fun H1 locs1 hP1 hD1 hS1 => kk H1 locs1 ls ⟨_, hP1, hD1, m_set h3 h0⟩ hS1 hl)
theorem m_aastS (C : mC p m meth c cc nL s args Ts own D A y0 ret0) {a N : Nat} {f : Nat → Option Nat} {cA : ClassId} (hM : M a = some (.inl (cA, N, .inr (.inr (.inr (.inr f)))))) (t0 : Nat) {v ci : Nat} {r : vw_C} (ht : (m_tys D)[t0]? = some (cA, .object r.1)) {fs : List Value} (hv : M v = some (.inr (ci, fs))) (hc : vwCl[ci]? = some r) {i : Int32} (hin : vp_in i N) (d : decode cc pc = .ok (.aastore, 1)) (kk : mV p l e R s m args below meth c nL D A Q (m_up M a (.inl (cA, N, .inr (.inr (.inr (.inr (va_up f i.toNatClampNeg (some v)))))))) k n L st (pc + 1)) : mV p l e R s m args below meth c nL D A Q M k n L (.ref v :: .int i :: .ref a :: st) pc := by
  intro H locs ls hW hS hl
  obtain ⟨ws, hP, hD, h3⟩ := hW
  obtain ⟨q0, h0⟩ := h3 _ _ hM
  obtain ⟨q1, h1⟩ := h3 _ _ hv
  exact va_astq C.1.1 C.1.2.1 C.2.1.2.1 hP hD hS q0 t0 q1 ci h0 ht h1 hc hin d (fun H1 locs1 hP1 hD1 hS1 => kk H1 locs1 ls ⟨_, hP1, hD1, m_set h3 h0⟩ hS1 hl)
theorem m_aastN (C : mC p m meth c cc nL s args Ts own D A y0 ret0) {a N : Nat} {f : Nat → Option Nat} {cA : ClassId} {C1 : String} (hM : M a = some (.inl (cA, N, .inr (.inr (.inr (.inr f)))))) (t0 : Nat) (ht : (m_tys D)[t0]? = some (cA, .object C1)) {i : Int32} (hin : vp_in i N) (d : decode cc pc = .ok (.aastore, 1)) (kk : mV p l e R s m args below meth c nL D A Q (m_up M a (.inl (cA, N, .inr (.inr (.inr (.inr (va_up f i.toNatClampNeg none))))))) k n L st (pc + 1)) : mV p l e R s m args below meth c nL D A Q M k n L (.null :: .int i :: .ref a :: st) pc := by
  intro H locs ls hW hS hl
  obtain ⟨ws, hP, hD, h3⟩ := hW
  obtain ⟨q0, h0⟩ := h3 _ _ hM
  exact va_astqN C.1.1 C.1.2.1 C.2.1.2.1 hP hD hS q0 t0 h0 ht hin d (fun H1 locs1 hP1 hD1 hS1 => kk H1 locs1 ls ⟨_, hP1, hD1, m_set h3 h0⟩ hS1 hl)
end MEM
theorem mG.same {D : mD} {A : Nat → Prop} {u U : State} (hh : U.heap = u.heap) (hv : U.vm = u.vm) (h : mG D A u) : mG D A U := by
  refine ⟨fun q hq => h.1 q (by rw [← hh]; exact hq), va_K.moved (by rw [hv]; exact Vm.Alike.refl _) h.2.1, ?_⟩
  rw [hh]
  exact mT.same hv h.2.2
abbrev mPc (D : mD) (A : Nat → Prop) (As : List Value) (M : Mm) : Array Value → State → Prop := va_Pc As (fun U => mW D A M U.heap ∧ mG D A U)
theorem mP_blind {D : mD} {A : Nat → Prop} {As : List Value} {M : Mm} : FrameBlind (mPc D A As M) := fun a U g mk h => ⟨h.1, h.2.1, mG.same (u := U) (U := U.calling g mk a) rfl rfl h.2.2⟩
abbrev mB (D : mD) (A : Nat → Prop) (M : Mm) (t : State) : Prop := mW D A M t.heap
abbrev mMet (D : mD) (A : Nat → Prop) (l : Launch) (y : MethodName) (ws : List Cond) (rm : Room) (As : List Value) (M : Mm) (Qc : Array Value → State → Outcome → State → Prop) (mc ms : Nat) : Prop := Met l y ws rm (mPc D A As M) Qc mc ms A
/-- contracts: an int, a long, nothing, a cell or null, a double -/
abbrev mMi (D : mD) (A : Nat → Prop) (l : Launch) (y : MethodName) (ws : List Cond) (rm : Room) (As : List Value) (M : Mm) (post : Int32 → Mm → Prop) (mc ms : Nat) : Prop := mMet D A l y ws rm As M (va_Qi post (mB D A) A) mc ms
abbrev mMl (D : mD) (A : Nat → Prop) (l : Launch) (y : MethodName) (ws : List Cond) (rm : Room) (As : List Value) (M : Mm) (post : Int64 → Mm → Prop) (mc ms : Nat) : Prop := mMet D A l y ws rm As M (va_Ql post (mB D A) A) mc ms
abbrev mMv (D : mD) (A : Nat → Prop) (l : Launch) (y : MethodName) (ws : List Cond) (rm : Room) (As : List Value) (M : Mm) (post : Mm → Prop) (mc ms : Nat) : Prop := mMet D A l y ws rm As M (va_Qv post (mB D A) A) mc ms
abbrev mMq (D : mD) (A : Nat → Prop) (l : Launch) (y : MethodName) (ws : List Cond) (rm : Room) (As : List Value) (M : Mm) (post : Option Nat → Mm → Prop) (mc ms : Nat) : Prop := mMet D A l y ws rm As M (va_Qq post (mB D A) A) mc ms
abbrev mXC (D : mD) (A : Nat → Prop) (px : String → Mm → Prop) : String → State → State → Prop := vx_X (fun _ : Mm => True) (fun E M' t => px E M' ∧ mW D A M' t.heap) A
abbrev mMetX (D : mD) (A : Nat → Prop) (l : Launch) (y : MethodName) (ws : List Cond) (rm : Room) (As : List Value) (M : Mm) (Qc : Array Value → State → Outcome → State → Prop) (px : String → Mm → Prop) (mc ms : Nat) : Prop := vx_Met l y ws rm (mPc D A As M) Qc (mXC D A px) mc ms A
abbrev mXi (D : mD) (A : Nat → Prop) (l : Launch) (y : MethodName) (ws : List Cond) (rm : Room) (As : List Value) (M : Mm) (post : Int32 → Mm → Prop) (px : String → Mm → Prop) (mc ms : Nat) : Prop := mMetX D A l y ws rm As M (va_Qi post (mB D A) A) px mc ms
abbrev mXv (D : mD) (A : Nat → Prop) (l : Launch) (y : MethodName) (ws : List Cond) (rm : Room) (As : List Value) (M : Mm) (post : Mm → Prop) (px : String → Mm → Prop) (mc ms : Nat) : Prop := mMetX D A l y ws rm As M (va_Qv post (mB D A) A) px mc ms
abbrev mXq (D : mD) (A : Nat → Prop) (l : Launch) (y : MethodName) (ws : List Cond) (rm : Room) (As : List Value) (M : Mm) (post : Option Nat → Mm → Prop) (px : String → Mm → Prop) (mc ms : Nat) : Prop := mMetX D A l y ws rm As M (va_Qq post (mB D A) A) px mc ms
theorem m_start {D : mD} {A : Nat → Prop} {l : Launch} {y : MethodName} {ws ws' : List Cond} {rm : Room} {As : List Value} {M : Mm} {Qc : Array Value → State → Outcome → State → Prop} {mc ms : Nat} {cc : ByteArray} {maxL : Nat} {ret : Option FieldType}
    (hy : plainName y.cls = true) (hw : ws = Cond.code y cc maxL ret :: ws') (hn : (lg_sl As).length ≤ maxL)
    (body : ∀ (p : Program) (e : Env) (s : State) (m : MethodId) (args : Array Value) (below : List Frame) (meth : Method) (c : Code), mC p m meth c cc maxL s args ws y.cls D A y ret → mV p l e rm s m args below meth c maxL D A (MQ below Qc args s mc ms A) M 0 0 (lv_args 0 As) [] 0) : mMet D A l y ws rm As M Qc mc ms := by
  refine Met.ofW (cc := cc) (maxL := maxL) (ret := ret) hy hw ?_
  intro p e s m args below meth c s₁ B hml hv
  obtain ⟨rfl, hW, hG⟩ := hv
  have C : mC p m meth c cc maxL s As.toArray ws y.cls D A y ret := ⟨⟨B.exec, B.bytes, hml, findClass_of_methodNamed B.named, atoms_spec (ws := ws) B.pre⟩, hG, B.notSynchronized, (name_of_methodNamed B.named B.method).1, B.returns⟩
  have hl := lv_entry As (n := maxL) hn
  rw [lg_entry_eq]
  exact body p e s m As.toArray below meth c C s.heap [] _ hW va_S.rf hl
theorem m_startX {D : mD} {A : Nat → Prop} {l : Launch} {y : MethodName} {ws ws' : List Cond} {rm : Room} {As : List Value} {M : Mm} {Qc : Array Value → State → Outcome → State → Prop} {px : String → Mm → Prop} {mc ms : Nat} {cc : ByteArray} {maxL : Nat} {ret : Option FieldType}
    (hy : plainName y.cls = true) (hw : ws = Cond.code y cc maxL ret :: ws') (hn : (lg_sl As).length ≤ maxL)
    (body : ∀ (p : Program) (e : Env) (s : State) (m : MethodId) (args : Array Value) (below : List Frame) (meth : Method) (c : Code), mC p m meth c cc maxL s args ws y.cls D A y ret → (∀ x ∈ c.exceptionTable.toList, False) → mV p l e rm s m args below meth c maxL D A (vx_MQ below Qc (mXC D A px) args s mc ms A) M 0 0 (lv_args 0 As) [] 0) : mMetX D A l y ws rm As M Qc px mc ms := by
  refine vx_ofW (cc := cc) (maxL := maxL) (ret := ret) hy hw ?_
  intro p e s m args below meth c s₁ B hml hE hv
  obtain ⟨rfl, hW, hG⟩ := hv
  have C : mC p m meth c cc maxL s As.toArray ws y.cls D A y ret := ⟨⟨B.exec, B.bytes, hml, findClass_of_methodNamed B.named, atoms_spec (ws := ws) B.pre⟩, hG, B.notSynchronized, (name_of_methodNamed B.named B.method).1, B.returns⟩
  have hl := lv_entry As (n := maxL) hn
  rw [lg_entry_eq]
  exact body p e s m As.toArray below meth c C hE s.heap [] _ hW va_S.rf hl
section MEM2
variable {p : Program} {l : Launch} {e : Env} {R : Room} {s : State} {m : MethodId} {args : Array Value} {below : List Frame} {meth : Method} {c : Code} {nL : Nat} {D : mD} {A : Nat → Prop} {Q : State → Prop} {M : Mm} {k n : Nat} {L : List (Nat × Value)} {st : List Value} {pc : Nat} {cc : ByteArray} {Ts : List Cond} {own : String} {y0 : MethodName} {ret0 : Option FieldType}
theorem mP_at (C : mC p m meth c cc nL s args Ts own D A y0 ret0) {H : Heap} {locs : List Loc} {As : List Value} (hW : mW D A M H) (hS : va_S A s.heap H locs) : ∀ U : State, U.heap = H → s.WarmedH U.vm → mPc D A As M As.toArray U := by
  intro U hU hw
  refine ⟨rfl, by rw [hU]; exact hW, fun q hq => C.2.1.1 q (Nat.le_trans hS.1 (by rw [← hU]; exact hq)), va_K.moved hw.alike C.2.1.2.1, ?_⟩
  rw [hU]
  exact mT.warm hw (mT.kept C.2.1.2.2 hS.2.1)
/-- ends -/
theorem m_iret (C : mC p m meth c cc nL s args Ts own D A y0 (some .int)) {post : Int32 → Mm → Prop} {v : Int32} {mc ms : Nat} (hk : k ≤ mc) (hn : n ≤ ms) (d : decode cc pc = .ok (.ireturn, 1)) (hp : post v M) : mV p l e R s m args below meth c nL D A (MQ below (va_Qi post (mB D A) A) args s mc ms A) M k n L [.int v] pc := by
  intro H locs ls hW hS hl
  have hlocks := C.2.2.1
  exact W.widen hk hn (W.iret C.1.1 C.1.2.1 C.2.2.2.2 (fun t ht hw => ⟨⟨v, M, rfl, hp, by show mW D A M t.heap; rw [ht]; exact hW⟩, hS.F ht⟩) hS.2.2 d)
theorem m_iretX (C : mC p m meth c cc nL s args Ts own D A y0 (some .int)) {post : Int32 → Mm → Prop} {px : String → Mm → Prop} {v : Int32} {mc ms : Nat} (hk : k ≤ mc) (hn : n ≤ ms) (d : decode cc pc = .ok (.ireturn, 1)) (hp : post v M) : mV p l e R s m args below meth c nL D A (vx_MQ below (va_Qi post (mB D A) A) (mXC D A px) args s mc ms A) M k n L [.int v] pc := by
  intro H locs ls hW hS hl
  have hlocks := C.2.2.1
  exact W.widen hk hn (vx_ret (W.iret C.1.1 C.1.2.1 C.2.2.2.2 (fun t ht hw => ⟨⟨v, M, rfl, hp, by show mW D A M t.heap; rw [ht]; exact hW⟩, hS.F ht⟩) hS.2.2 d))
theorem m_lret (C : mC p m meth c cc nL s args Ts own D A y0 (some .long)) {post : Int64 → Mm → Prop} {v : Int64} {mc ms : Nat} (hk : k ≤ mc) (hn : n ≤ ms) (d : decode cc pc = .ok (.lreturn, 1)) (hp : post v M) : mV p l e R s m args below meth c nL D A (MQ below (va_Ql post (mB D A) A) args s mc ms A) M k n L [.long v] pc := by
  intro H locs ls hW hS hl
  have hlocks := C.2.2.1
  exact W.widen hk hn (W.lret C.1.1 C.1.2.1 C.2.2.2.2 (fun t ht hw => ⟨⟨v, M, rfl, hp, by show mW D A M t.heap; rw [ht]; exact hW⟩, hS.F ht⟩) hS.2.2 d)
theorem m_zret (C : mC p m meth c cc nL s args Ts own D A y0 (some .boolean)) {post : Int32 → Mm → Prop} {v : Int32} {mc ms : Nat} (hk : k ≤ mc) (hn : n ≤ ms) (d : decode cc pc = .ok (.ireturn, 1)) (hz : v = 0 ∨ v = 1) (hp : post v M) : mV p l e R s m args below meth c nL D A (MQ below (va_Qi post (mB D A) A) args s mc ms A) M k n L [.int v] pc := by
  intro H locs ls hW hS hl
  have hlocks := C.2.2.1
  exact W.widen hk hn (W.zret C.1.1 C.1.2.1 C.2.2.2.2 (by rcases hz with rfl | rfl <;> rfl) (fun t ht hw => ⟨⟨v, M, rfl, hp, by show mW D A M t.heap; rw [ht]; exact hW⟩, hS.F ht⟩) hS.2.2 d)
theorem m_zretX (C : mC p m meth c cc nL s args Ts own D A y0 (some .boolean)) {post : Int32 → Mm → Prop} {px : String → Mm → Prop} {v : Int32} {mc ms : Nat} (hk : k ≤ mc) (hn : n ≤ ms) (d : decode cc pc = .ok (.ireturn, 1)) (hz : v = 0 ∨ v = 1) (hp : post v M) : mV p l e R s m args below meth c nL D A (vx_MQ below (va_Qi post (mB D A) A) (mXC D A px) args s mc ms A) M k n L [.int v] pc := by
  intro H locs ls hW hS hl
  have hlocks := C.2.2.1
  exact W.widen hk hn (vx_ret (W.zret C.1.1 C.1.2.1 C.2.2.2.2 (by rcases hz with rfl | rfl <;> rfl) (fun t ht hw => ⟨⟨v, M, rfl, hp, by show mW D A M t.heap; rw [ht]; exact hW⟩, hS.F ht⟩) hS.2.2 d))
theorem m_vret (C : mC p m meth c cc nL s args Ts own D A y0 none) {post : Mm → Prop} {mc ms : Nat} (hk : k ≤ mc) (hn : n ≤ ms) (d : decode cc pc = .ok (.return_, 1)) (hp : post M) : mV p l e R s m args below meth c nL D A (MQ below (va_Qv post (mB D A) A) args s mc ms A) M k n L [] pc := by
  intro H locs ls hW hS hl
  have hlocks := C.2.2.1
  exact W.widen hk hn (W.vret C.1.1 C.1.2.1 C.2.2.2.2 (fun t ht hw => ⟨⟨M, rfl, hp, by show mW D A M t.heap; rw [ht]; exact hW⟩, hS.F ht⟩) hS.2.2 d)
theorem m_vretX (C : mC p m meth c cc nL s args Ts own D A y0 none) {post : Mm → Prop} {px : String → Mm → Prop} {mc ms : Nat} (hk : k ≤ mc) (hn : n ≤ ms) (d : decode cc pc = .ok (.return_, 1)) (hp : post M) : mV p l e R s m args below meth c nL D A (vx_MQ below (va_Qv post (mB D A) A) (mXC D A px) args s mc ms A) M k n L [] pc := by
  intro H locs ls hW hS hl
  have hlocks := C.2.2.1
  exact W.widen hk hn (vx_ret (W.vret C.1.1 C.1.2.1 C.2.2.2.2 (fun t ht hw => ⟨⟨M, rfl, hp, by show mW D A M t.heap; rw [ht]; exact hW⟩, hS.F ht⟩) hS.2.2 d))
theorem m_aret {rt : FieldType} (C : mC p m meth c cc nL s args Ts own D A y0 (some rt)) (hrt : (∃ z, rt = .object z) ∨ ∃ t, rt = .array t) {post : Option Nat → Mm → Prop} {v : Option Nat} {mc ms : Nat} (hk : k ≤ mc) (hn : n ≤ ms) (d : decode cc pc = .ok (.areturn, 1)) (hp : post v M) : mV p l e R s m args below meth c nL D A (MQ below (va_Qq post (mB D A) A) args s mc ms A) M k n L [va_rf v] pc := by
  intro H locs ls hW hS hl
  have hlocks := C.2.2.1
  exact W.widen hk hn (W.aret C.1.1 C.1.2.1 C.2.2.2.2 hrt (by cases v with | none => exact Or.inl rfl | some b => exact Or.inr ⟨b, rfl⟩) (fun t ht hw => ⟨⟨v, M, rfl, hp, by show mW D A M t.heap; rw [ht]; exact hW⟩, hS.F ht⟩) hS.2.2 d)
theorem m_aretX {rt : FieldType} (C : mC p m meth c cc nL s args Ts own D A y0 (some rt)) (hrt : (∃ z, rt = .object z) ∨ ∃ t, rt = .array t) {post : Option Nat → Mm → Prop} {px : String → Mm → Prop} {v : Option Nat} {mc ms : Nat} (hk : k ≤ mc) (hn : n ≤ ms) (d : decode cc pc = .ok (.areturn, 1)) (hp : post v M) : mV p l e R s m args below meth c nL D A (vx_MQ below (va_Qq post (mB D A) A) (mXC D A px) args s mc ms A) M k n L [va_rf v] pc := by
  intro H locs ls hW hS hl
  have hlocks := C.2.2.1
  exact W.widen hk hn (vx_ret (W.aret C.1.1 C.1.2.1 C.2.2.2.2 hrt (by cases v with | none => exact Or.inl rfl | some b => exact Or.inr ⟨b, rfl⟩) (fun t ht hw => ⟨⟨v, M, rfl, hp, by show mW D A M t.heap; rw [ht]; exact hW⟩, hS.F ht⟩) hS.2.2 d))
theorem m_objInit (C : mC p m meth c cc nL s args Ts own D A y0 ret0) {idx a : Nat} (h1 : Cond.methodLink own idx Lib.objectInit ∈ Ts) (h2 : Cond.instanceMethod Lib.objectInit ∈ Ts) (h3 : Cond.code Lib.objectInit ⟨#[0xb1]⟩ 1 none ∈ Ts) (hf : 1 ≤ R.frames) (hl : (st.map fun v => v.category).sum + 12 ≤ R.locals) (d : decode cc pc = .ok (.invokespecial idx, 3)) (kk : mV p l e R s m args below meth c nL D A Q M k n L st (pc + 3)) : mV p l e R s m args below meth c nL D A Q M k n L (.ref a :: st) pc := by
  intro H locs ls hW hS hl0
  refine W.objInit C.1.1 C.1.2.1 C.1.2.2.2.1 (C.1.2.2.2.2 _ h1) (C.1.2.2.2.2 _ h2) (C.1.2.2.2.2 _ h3) rfl (by rw [C.1.2.2.1]; exact hl0.1) rfl d hf (by show 2 * 0 + _ + 12 ≤ _; omega) ?_
  exact kk H locs ls hW hS hl0
/-- calls -/
theorem m_recv (C : mC p m meth c cc nL s args Ts own D A y0 ret0) {H : Heap} {b ci : Nat} {fs : List Value} {q : vw_C} (hW : mW D A M H) (hb : M b = some (.inr (ci, fs))) (hc : vwCl[ci]? = some q) : ∃ cell : Cell, H[b]? = some cell ∧ cell.vm.isStatics = false ∧ s.vm.findClass q.1 = some cell.cls := by
  obtain ⟨ws, hP, hD, h3⟩ := hW
  obtain ⟨i, hi⟩ := h3 _ _ hb
  exact va_recv C.2.1.2.1 hP hc hi
end MEM2
section VXQ
variable {p : Program} {l : Launch} {e : Env} {R : Room} {s : State} {m : MethodId} {args : Array Value} {below : List Frame} {meth : Method} {c : Code} {Q : State → Prop} {pc : Nat}
variable {H : Heap} {locs : List Loc} {cells slots : Nat} {mc ms : Nat} {free : Addr → Prop} {A0 A1 : Nat → Prop} {H0 : Heap} {a : Array Value} {ls : Array Slot} {st0 rest : List Value}
theorem vx_callq {S SX : Type} {post : Option Nat → S → Prop} {px : SX → Prop} {B : S → State → Prop} {BX : String → SX → State → Prop} {AX : Nat → Prop} (hr : vx_Run p l e R s m args below meth c H locs cells slots mc ms (F0 m pc ls st0) rest (va_Qq post B A1 a) (vx_X px BX AX) free) (hS : va_S A0 H0 H locs) (hA : ∀ q, q < H.size → A1 q → A0 q) (hf : ∀ q, free q → A0 q) (hAX : ∀ q, q < H.size → AX q → A0 q)
    (kx : ∀ (E : String) (ce : Cell) (q9 : Addr) (u : SX) (t : State) (H1 : Heap) (locs1 : List Loc), t.heap = H1 → s.vm.Alike t.vm → px u → BX E u t → H.size ≤ H1.size → (∀ q : Nat, q < H.size → ¬ AX q → H1[q]? = H[q]?) → va_S A0 H0 H1 locs1 → H1[q9]? = some ce → ce.vm = .none → s.vm.findClass E = some ce.cls → vx_W p l e R s m args below meth c H1 locs1 (cells + mc) (slots + ms) Q (F0 m pc ls rest) q9)
    (kk : ∀ (r : Option Nat) (u : S) (t : State) (H1 : Heap) (locs1 : List Loc), t.heap = H1 → s.vm.Alike t.vm → post r u → B u t → H.size ≤ H1.size → (∀ q : Nat, q < H.size → ¬ A1 q → H1[q]? = H[q]?) → va_S A0 H0 H1 locs1 → W p l e R s m args below meth c H1 locs1 (cells + mc) (slots + ms) Q (F0 m (pc + 3) ls (va_rf r :: rest))) : W p l e R s m args below meth c H locs cells slots Q (F0 m pc ls st0) := by
  intro T hT X
  rcases hr T hT X with ⟨v, st₀, t, T', L, h0, X', hL, e1, e2, ⟨⟨r, u, hv, hp, hb⟩, hF⟩, st⟩ | ⟨q, st₀, t, T', L, E, ce, h0, X', hL, e1, e2, ⟨u, hp, hb, hF⟩, hce, hcv, hcl, st⟩
  · cases hv
    obtain ⟨k1, k2, k3⟩ := vx_keep h0 e1 hS hA hf hL hF
    obtain ⟨t2, a1, b1⟩ := kk r u t T'.heap (locs ++ L) e1.symm (by rw [← e2]; exact X'.warmed.alike) hp hb k1 k2 k3 T' rfl X'
    exact ⟨t2, st t2 a1, b1⟩
  · obtain ⟨k1, k2, k3⟩ := vx_keep h0 e1 hS hAX hf hL hF
    obtain ⟨t2, a1, b1⟩ := kx E ce q u t T'.heap (locs ++ L) e1.symm (by rw [← e2]; exact X'.warmed.alike) hp hb k1 k2 k3 (by rw [e1]; exact hce) hcv hcl T' rfl X'
    exact ⟨t2, st.trans a1, b1⟩
end VXQ
section MEM3
variable {p : Program} {l : Launch} {e : Env} {R : Room} {s : State} {m : MethodId} {args : Array Value} {below : List Frame} {meth : Method} {c : Code} {nL : Nat} {D : mD} {A : Nat → Prop} {Q : State → Prop} {M : Mm} {k n : Nat} {L : List (Nat × Value)} {st : List Value} {pc : Nat} {cc : ByteArray} {Ts : List Cond} {own : String} {y0 : MethodName} {ret0 : Option FieldType}
theorem m_callVi (C : mC p m meth c cc nL s args Ts own D A y0 ret0) {y1 : MethodName} {ws1 : List Cond} {rm : Room} {bytes1 : ByteArray} {maxL1 mc ms nA index : Nat} {ret1 : Option FieldType} {post : Int32 → Mm → Prop} {As : List Value} {b ci : Nat} {fs : List Value} {qc : vw_C} (hb : M b = some (.inr (ci, fs))) (hc : vwCl[ci]? = some qc) (hM : mMet D A l y1 ws1 rm (.ref b :: As) M (va_Qi post (mB D A) A) mc ms) (cw : CallW R s args own qc.1 index y1 bytes1 maxL1 ret1 ws1 rm mc ms nA) (hn : As.length = nA) {st0 : List Value} (hst : st0 = As.reverse ++ .ref b :: st) (hsm : (st.map fun v => v.category).sum ≤ 8) (d : decode cc pc = .ok (.invokevirtual index, 3)) (hf : k + mc ≤ R.cells ∧ n + ms ≤ R.slots) (kk : ∀ (r : Int32) (M' : Mm), post r M' → mV p l e R s m args below meth c nL D A Q M' (k + mc) (n + ms) L (.int r :: st) (pc + 3)) : mV p l e R s m args below meth c nL D A Q M k n L st0 pc := by
  intro H locs ls hW hS hl
  subst hst
  exact va_calli (va_runV (As := As) (rest := st) C.1 hM cw ⟨mP_blind, m_recv C hW hb hc, fun U hU hw => mP_at C hW hS U hU hw⟩ rfl hn hl.1 rfl (lv_room hsm) d hf) hS (fun q _ h => h) (fun q h => h) (fun r u t H1 locs1 ht hvm hp hB hz hk hS1 => kk r u hp H1 locs1 ls (by rw [← ht]; exact hB) hS1 hl)
theorem m_callVl (C : mC p m meth c cc nL s args Ts own D A y0 ret0) {y1 : MethodName} {ws1 : List Cond} {rm : Room} {bytes1 : ByteArray} {maxL1 mc ms nA index : Nat} {ret1 : Option FieldType} {post : Int64 → Mm → Prop} {As : List Value} {b ci : Nat} {fs : List Value} {qc : vw_C} (hb : M b = some (.inr (ci, fs))) (hc : vwCl[ci]? = some qc) (hM : mMet D A l y1 ws1 rm (.ref b :: As) M (va_Ql post (mB D A) A) mc ms) (cw : CallW R s args own qc.1 index y1 bytes1 maxL1 ret1 ws1 rm mc ms nA) (hn : As.length = nA) {st0 : List Value} (hst : st0 = As.reverse ++ .ref b :: st) (hsm : (st.map fun v => v.category).sum ≤ 8) (d : decode cc pc = .ok (.invokevirtual index, 3)) (hf : k + mc ≤ R.cells ∧ n + ms ≤ R.slots) (kk : ∀ (r : Int64) (M' : Mm), post r M' → mV p l e R s m args below meth c nL D A Q M' (k + mc) (n + ms) L (.long r :: st) (pc + 3)) : mV p l e R s m args below meth c nL D A Q M k n L st0 pc := by
  intro H locs ls hW hS hl
  subst hst
  exact va_calll (va_runV (As := As) (rest := st) C.1 hM cw ⟨mP_blind, m_recv C hW hb hc, fun U hU hw => mP_at C hW hS U hU hw⟩ rfl hn hl.1 rfl (lv_room hsm) d hf) hS (fun q _ h => h) (fun q h => h) (fun r u t H1 locs1 ht hvm hp hB hz hk hS1 => kk r u hp H1 locs1 ls (by rw [← ht]; exact hB) hS1 hl)
theorem m_callVv (C : mC p m meth c cc nL s args Ts own D A y0 ret0) {y1 : MethodName} {ws1 : List Cond} {rm : Room} {bytes1 : ByteArray} {maxL1 mc ms nA index : Nat} {ret1 : Option FieldType} {post : Mm → Prop} {As : List Value} {b ci : Nat} {fs : List Value} {qc : vw_C} (hb : M b = some (.inr (ci, fs))) (hc : vwCl[ci]? = some qc) (hM : mMet D A l y1 ws1 rm (.ref b :: As) M (va_Qv post (mB D A) A) mc ms) (cw : CallW R s args own qc.1 index y1 bytes1 maxL1 ret1 ws1 rm mc ms nA) (hn : As.length = nA) {st0 : List Value} (hst : st0 = As.reverse ++ .ref b :: st) (hsm : (st.map fun v => v.category).sum ≤ 8) (d : decode cc pc = .ok (.invokevirtual index, 3)) (hf : k + mc ≤ R.cells ∧ n + ms ≤ R.slots) (kk : ∀ (M' : Mm), post M' → mV p l e R s m args below meth c nL D A Q M' (k + mc) (n + ms) L (st) (pc + 3)) : mV p l e R s m args below meth c nL D A Q M k n L st0 pc := by
  intro H locs ls hW hS hl
  subst hst
  exact va_callv (va_runV (As := As) (rest := st) C.1 hM cw ⟨mP_blind, m_recv C hW hb hc, fun U hU hw => mP_at C hW hS U hU hw⟩ rfl hn hl.1 rfl (lv_room hsm) d hf) hS (fun q _ h => h) (fun q h => h) (fun u t H1 locs1 ht hvm hp hB hz hk hS1 => kk u hp H1 locs1 ls (by rw [← ht]; exact hB) hS1 hl)
theorem m_callVq (C : mC p m meth c cc nL s args Ts own D A y0 ret0) {y1 : MethodName} {ws1 : List Cond} {rm : Room} {bytes1 : ByteArray} {maxL1 mc ms nA index : Nat} {ret1 : Option FieldType} {post : Option Nat → Mm → Prop} {As : List Value} {b ci : Nat} {fs : List Value} {qc : vw_C} (hb : M b = some (.inr (ci, fs))) (hc : vwCl[ci]? = some qc) (hM : mMet D A l y1 ws1 rm (.ref b :: As) M (va_Qq post (mB D A) A) mc ms) (cw : CallW R s args own qc.1 index y1 bytes1 maxL1 ret1 ws1 rm mc ms nA) (hn : As.length = nA) {st0 : List Value} (hst : st0 = As.reverse ++ .ref b :: st) (hsm : (st.map fun v => v.category).sum ≤ 8) (d : decode cc pc = .ok (.invokevirtual index, 3)) (hf : k + mc ≤ R.cells ∧ n + ms ≤ R.slots) (kk : ∀ (r : Option Nat) (M' : Mm), post r M' → mV p l e R s m args below meth c nL D A Q M' (k + mc) (n + ms) L (va_rf r :: st) (pc + 3)) : mV p l e R s m args below meth c nL D A Q M k n L st0 pc := by
  intro H locs ls hW hS hl
  subst hst
  exact va_callq (va_runV (As := As) (rest := st) C.1 hM cw ⟨mP_blind, m_recv C hW hb hc, fun U hU hw => mP_at C hW hS U hU hw⟩ rfl hn hl.1 rfl (lv_room hsm) d hf) hS (fun q _ h => h) (fun q h => h) (fun r u t H1 locs1 ht hvm hp hB hz hk hS1 => kk r u hp H1 locs1 ls (by rw [← ht]; exact hB) hS1 hl)
theorem m_callSi (C : mC p m meth c cc nL s args Ts own D A y0 ret0) {y1 : MethodName} {ws1 : List Cond} {rm : Room} {bytes1 : ByteArray} {maxL1 mc ms nA index : Nat} {ret1 : Option FieldType} {post : Int32 → Mm → Prop} {As : List Value}  (hM : mMet D A l y1 ws1 rm As M (va_Qi post (mB D A) A) mc ms) (cw : CallB R s args own index y1 bytes1 maxL1 ret1 ws1 rm mc ms nA ∧ (Cond.static y1).before args s = true) (hn : As.length = nA) {st0 : List Value} (hst : st0 = As.reverse ++ st) (hsm : (st.map fun v => v.category).sum ≤ 8) (d : decode cc pc = .ok (.invokestatic index, 3)) (hf : k + mc ≤ R.cells ∧ n + ms ≤ R.slots) (kk : ∀ (r : Int32) (M' : Mm), post r M' → mV p l e R s m args below meth c nL D A Q M' (k + mc) (n + ms) L (.int r :: st) (pc + 3)) : mV p l e R s m args below meth c nL D A Q M k n L st0 pc := by
  intro H locs ls hW hS hl
  subst hst
  exact va_calli (va_runS (As := As) (rest := st) C.1 hM cw ⟨mP_blind, fun U hU hw => mP_at C hW hS U hU hw⟩ rfl hn hl.1 rfl (lv_room hsm) d hf) hS (fun q _ h => h) (fun q h => h) (fun r u t H1 locs1 ht hvm hp hB hz hk hS1 => kk r u hp H1 locs1 ls (by rw [← ht]; exact hB) hS1 hl)
theorem m_callSv (C : mC p m meth c cc nL s args Ts own D A y0 ret0) {y1 : MethodName} {ws1 : List Cond} {rm : Room} {bytes1 : ByteArray} {maxL1 mc ms nA index : Nat} {ret1 : Option FieldType} {post : Mm → Prop} {As : List Value}  (hM : mMet D A l y1 ws1 rm As M (va_Qv post (mB D A) A) mc ms) (cw : CallB R s args own index y1 bytes1 maxL1 ret1 ws1 rm mc ms nA ∧ (Cond.static y1).before args s = true) (hn : As.length = nA) {st0 : List Value} (hst : st0 = As.reverse ++ st) (hsm : (st.map fun v => v.category).sum ≤ 8) (d : decode cc pc = .ok (.invokestatic index, 3)) (hf : k + mc ≤ R.cells ∧ n + ms ≤ R.slots) (kk : ∀ (M' : Mm), post M' → mV p l e R s m args below meth c nL D A Q M' (k + mc) (n + ms) L (st) (pc + 3)) : mV p l e R s m args below meth c nL D A Q M k n L st0 pc := by
  intro H locs ls hW hS hl
  subst hst
  exact va_callv (va_runS (As := As) (rest := st) C.1 hM cw ⟨mP_blind, fun U hU hw => mP_at C hW hS U hU hw⟩ rfl hn hl.1 rfl (lv_room hsm) d hf) hS (fun q _ h => h) (fun q h => h) (fun u t H1 locs1 ht hvm hp hB hz hk hS1 => kk u hp H1 locs1 ls (by rw [← ht]; exact hB) hS1 hl)
theorem m_callSq (C : mC p m meth c cc nL s args Ts own D A y0 ret0) {y1 : MethodName} {ws1 : List Cond} {rm : Room} {bytes1 : ByteArray} {maxL1 mc ms nA index : Nat} {ret1 : Option FieldType} {post : Option Nat → Mm → Prop} {As : List Value}  (hM : mMet D A l y1 ws1 rm As M (va_Qq post (mB D A) A) mc ms) (cw : CallB R s args own index y1 bytes1 maxL1 ret1 ws1 rm mc ms nA ∧ (Cond.static y1).before args s = true) (hn : As.length = nA) {st0 : List Value} (hst : st0 = As.reverse ++ st) (hsm : (st.map fun v => v.category).sum ≤ 8) (d : decode cc pc = .ok (.invokestatic index, 3)) (hf : k + mc ≤ R.cells ∧ n + ms ≤ R.slots) (kk : ∀ (r : Option Nat) (M' : Mm), post r M' → mV p l e R s m args below meth c nL D A Q M' (k + mc) (n + ms) L (va_rf r :: st) (pc + 3)) : mV p l e R s m args below meth c nL D A Q M k n L st0 pc := by
  intro H locs ls hW hS hl
  subst hst
  exact va_callq (va_runS (As := As) (rest := st) C.1 hM cw ⟨mP_blind, fun U hU hw => mP_at C hW hS U hU hw⟩ rfl hn hl.1 rfl (lv_room hsm) d hf) hS (fun q _ h => h) (fun q h => h) (fun r u t H1 locs1 ht hvm hp hB hz hk hS1 => kk r u hp H1 locs1 ls (by rw [← ht]; exact hB) hS1 hl)
theorem m_callIv (C : mC p m meth c cc nL s args Ts own D A y0 ret0) {y1 : MethodName} {ws1 : List Cond} {rm : Room} {bytes1 : ByteArray} {maxL1 mc ms nA index : Nat} {ret1 : Option FieldType} {post : Mm → Prop} {As : List Value} {b : Nat} (hM : mMet D A l y1 ws1 rm (.ref b :: As) M (va_Qv post (mB D A) A) mc ms) (cw : CallB R s args own index y1 bytes1 maxL1 none ws1 rm mc ms nA ∧ y1.name = "<init>" ∧ (Cond.instanceMethod y1).before args s = true) (hn : As.length = nA) {st0 : List Value} (hst : st0 = As.reverse ++ .ref b :: st) (hsm : (st.map fun v => v.category).sum ≤ 8) (d : decode cc pc = .ok (.invokespecial index, 3)) (hf : k + mc ≤ R.cells ∧ n + ms ≤ R.slots) (kk : ∀ (M' : Mm), post M' → mV p l e R s m args below meth c nL D A Q M' (k + mc) (n + ms) L (st) (pc + 3)) : mV p l e R s m args below meth c nL D A Q M k n L st0 pc := by
  intro H locs ls hW hS hl
  subst hst
  exact va_callv (va_runI (As := As) (rest := st) C.1 hM cw ⟨mP_blind, fun U hU hw => mP_at C hW hS U hU hw⟩ rfl hn hl.1 rfl (lv_room hsm) d hf) hS (fun q _ h => h) (fun q h => h) (fun u t H1 locs1 ht hvm hp hB hz hk hS1 => kk u hp H1 locs1 ls (by rw [← ht]; exact hB) hS1 hl)
theorem m_callSNl (C : mC p m meth c cc nL s args Ts own D A y0 ret0) {y1 : MethodName} {ws1 : List Cond} {rm : Room} {bytes1 : ByteArray} {maxL1 mc ms nA index : Nat} {ret1 : Option FieldType} {post : Int64 → Mm → Prop} {As : List Value}  (hM : mMet D A l y1 ws1 rm As M (va_Ql post (mB D A) A) mc ms) {host : String} (cw : va_CN R s args own index y1 host bytes1 maxL1 ret1 ws1 rm mc ms nA ∧ (Cond.static y1).before args s = true ∧ True) (hn : As.length = nA) {st0 : List Value} (hst : st0 = As.reverse ++ st) (hsm : (st.map fun v => v.category).sum ≤ 8) (d : decode cc pc = .ok (.invokestatic index, 3)) (hf : k + mc ≤ R.cells ∧ n + ms ≤ R.slots) (kk : ∀ (r : Int64) (M' : Mm), post r M' → mV p l e R s m args below meth c nL D A Q M' (k + mc) (n + ms) L (.long r :: st) (pc + 3)) : mV p l e R s m args below meth c nL D A Q M k n L st0 pc := by
  intro H locs ls hW hS hl
  subst hst
  exact va_calll (va_runSN (As := As) (rest := st) C.1 hM cw ⟨mP_blind, fun U hU hw => mP_at C hW hS U hU hw⟩ rfl hn hl.1 rfl (lv_room hsm) d hf) hS (fun q _ h => h) (fun q h => h) (fun r u t H1 locs1 ht hvm hp hB hz hk hS1 => kk r u hp H1 locs1 ls (by rw [← ht]; exact hB) hS1 hl)
theorem m_callUi (C : mC p m meth c cc nL s args Ts own D A y0 ret0) {y1 : MethodName} {ws1 : List Cond} {rm : Room} {bytes1 : ByteArray} {maxL1 mc ms nA index : Nat} {ret1 : Option FieldType} {post : Int32 → Mm → Prop} {As : List Value} {b ci : Nat} {fs : List Value} {qc : vw_C} (hb : M b = some (.inr (ci, fs))) (hc : vwCl[ci]? = some qc) (hM : mMet D A l y1 ws1 rm (.ref b :: As) M (va_Qi post (mB D A) A) mc ms) {owner : String} {x1 : MethodName} (cw : va_CU R s args own qc.1 owner index x1 y1 bytes1 maxL1 ret1 ws1 rm mc ms nA) (hn : As.length = nA) {st0 : List Value} (hst : st0 = As.reverse ++ .ref b :: st) (hsm : (st.map fun v => v.category).sum ≤ 8) (d : decode cc pc = .ok (.invokevirtual index, 3)) (hf : k + mc ≤ R.cells ∧ n + ms ≤ R.slots) (kk : ∀ (r : Int32) (M' : Mm), post r M' → mV p l e R s m args below meth c nL D A Q M' (k + mc) (n + ms) L (.int r :: st) (pc + 3)) : mV p l e R s m args below meth c nL D A Q M k n L st0 pc := by
  intro H locs ls hW hS hl
  subst hst
  exact va_calli (va_runU (As := As) (rest := st) C.1 hM cw ⟨mP_blind, m_recv C hW hb hc, fun U hU hw => mP_at C hW hS U hU hw⟩ rfl hn hl.1 rfl (lv_room hsm) d hf) hS (fun q _ h => h) (fun q h => h) (fun r u t H1 locs1 ht hvm hp hB hz hk hS1 => kk r u hp H1 locs1 ls (by rw [← ht]; exact hB) hS1 hl)
theorem m_callSNq (C : mC p m meth c cc nL s args Ts own D A y0 ret0) {y1 : MethodName} {ws1 : List Cond} {rm : Room} {bytes1 : ByteArray} {maxL1 mc ms nA index : Nat} {ret1 : Option FieldType} {post : Option Nat → Mm → Prop} {As : List Value}  (hM : mMet D A l y1 ws1 rm As M (va_Qq post (mB D A) A) mc ms) {host : String} (cw : va_CN R s args own index y1 host bytes1 maxL1 ret1 ws1 rm mc ms nA ∧ (Cond.static y1).before args s = true ∧ True) (hn : As.length = nA) {st0 : List Value} (hst : st0 = As.reverse ++ st) (hsm : (st.map fun v => v.category).sum ≤ 8) (d : decode cc pc = .ok (.invokestatic index, 3)) (hf : k + mc ≤ R.cells ∧ n + ms ≤ R.slots) (kk : ∀ (r : Option Nat) (M' : Mm), post r M' → mV p l e R s m args below meth c nL D A Q M' (k + mc) (n + ms) L (va_rf r :: st) (pc + 3)) : mV p l e R s m args below meth c nL D A Q M k n L st0 pc := by
  intro H locs ls hW hS hl
  subst hst
  exact va_callq (va_runSN (As := As) (rest := st) C.1 hM cw ⟨mP_blind, fun U hU hw => mP_at C hW hS U hU hw⟩ rfl hn hl.1 rfl (lv_room hsm) d hf) hS (fun q _ h => h) (fun q h => h) (fun r u t H1 locs1 ht hvm hp hB hz hk hS1 => kk r u hp H1 locs1 ls (by rw [← ht]; exact hB) hS1 hl)
theorem m_callUl (C : mC p m meth c cc nL s args Ts own D A y0 ret0) {y1 : MethodName} {ws1 : List Cond} {rm : Room} {bytes1 : ByteArray} {maxL1 mc ms nA index : Nat} {ret1 : Option FieldType} {post : Int64 → Mm → Prop} {As : List Value} {b ci : Nat} {fs : List Value} {qc : vw_C} (hb : M b = some (.inr (ci, fs))) (hc : vwCl[ci]? = some qc) (hM : mMet D A l y1 ws1 rm (.ref b :: As) M (va_Ql post (mB D A) A) mc ms) {owner : String} {x1 : MethodName} (cw : va_CU R s args own qc.1 owner index x1 y1 bytes1 maxL1 ret1 ws1 rm mc ms nA) (hn : As.length = nA) {st0 : List Value} (hst : st0 = As.reverse ++ .ref b :: st) (hsm : (st.map fun v => v.category).sum ≤ 8) (d : decode cc pc = .ok (.invokevirtual index, 3)) (hf : k + mc ≤ R.cells ∧ n + ms ≤ R.slots) (kk : ∀ (r : Int64) (M' : Mm), post r M' → mV p l e R s m args below meth c nL D A Q M' (k + mc) (n + ms) L (.long r :: st) (pc + 3)) : mV p l e R s m args below meth c nL D A Q M k n L st0 pc := by
  intro H locs ls hW hS hl
  subst hst
  exact va_calll (va_runU (As := As) (rest := st) C.1 hM cw ⟨mP_blind, m_recv C hW hb hc, fun U hU hw => mP_at C hW hS U hU hw⟩ rfl hn hl.1 rfl (lv_room hsm) d hf) hS (fun q _ h => h) (fun q h => h) (fun r u t H1 locs1 ht hvm hp hB hz hk hS1 => kk r u hp H1 locs1 ls (by rw [← ht]; exact hB) hS1 hl)
theorem m_callVXv (C : mC p m meth c cc nL s args Ts own D A y0 ret0) {y1 : MethodName} {ws1 : List Cond} {rm : Room} {bytes1 : ByteArray} {maxL1 mc ms nA index : Nat} {ret1 : Option FieldType} {px px1 : String → Mm → Prop} {post : Mm → Prop} {As : List Value} {b ci : Nat} {fs : List Value} {qc : vw_C} (hb : M b = some (.inr (ci, fs))) (hc : vwCl[ci]? = some qc) (hM : vx_Met l y1 ws1 rm (mPc D A (.ref b :: As) M) (va_Qv post (mB D A) A) (mXC D A px1) mc ms A) (cw : CallW R s args own qc.1 index y1 bytes1 maxL1 ret1 ws1 rm mc ms nA) (hn : As.length = nA) {st0 : List Value} (hst : st0 = As.reverse ++ .ref b :: st) (hsm : (st.map fun v => v.category).sum ≤ 8) (d : decode cc pc = .ok (.invokevirtual index, 3)) (hf : k + mc ≤ R.cells ∧ n + ms ≤ R.slots) (hE : ∀ x ∈ c.exceptionTable.toList, False) {Qc : Array Value → State → Outcome → State → Prop} {mc0 ms0 : Nat} (hx : ∀ E M', px1 E M' → px E M') (hk0 : k + mc ≤ mc0) (hn0 : n + ms ≤ ms0) (kk : ∀ (M' : Mm), post M' → mV p l e R s m args below meth c nL D A (vx_MQ below Qc (mXC D A px) args s mc0 ms0 A) M' (k + mc) (n + ms) L (st) (pc + 3)) : mV p l e R s m args below meth c nL D A (vx_MQ below Qc (mXC D A px) args s mc0 ms0 A) M k n L st0 pc := by
  intro H locs ls hW hS hl
  subst hst
  exact vx_callv (vx_runV (As := As) (rest := st) C.1 hM cw ⟨mP_blind, m_recv C hW hb hc, fun U hU hw => mP_at C hW hS U hU hw⟩ rfl hn hl.1 rfl (lv_room hsm) d hf) hS (fun q _ h => h) (fun q h => h) (fun q _ h => h) (fun E ce q9 u t H1 locs1 ht hvm hp hB hz hk hS1 h9 hv9 hc9 => vx_out (fun x hx0 => absurd hx0 (hE x)) C.2.2.1 h9 hv9 hc9 (fun t1 ht1 ha1 => ⟨u, trivial, ⟨hx _ _ hB.1, by rw [ht1, ← ht]; exact hB.2⟩, hS1.F ht1⟩) hS1.2.2 hk0 hn0) (fun u t H1 locs1 ht hvm hp hB hz hk hS1 => kk u hp H1 locs1 ls (by rw [← ht]; exact hB) hS1 hl)
theorem m_callVXq (C : mC p m meth c cc nL s args Ts own D A y0 ret0) {y1 : MethodName} {ws1 : List Cond} {rm : Room} {bytes1 : ByteArray} {maxL1 mc ms nA index : Nat} {ret1 : Option FieldType} {px px1 : String → Mm → Prop} {post : Option Nat → Mm → Prop} {As : List Value} {b ci : Nat} {fs : List Value} {qc : vw_C} (hb : M b = some (.inr (ci, fs))) (hc : vwCl[ci]? = some qc) (hM : vx_Met l y1 ws1 rm (mPc D A (.ref b :: As) M) (va_Qq post (mB D A) A) (mXC D A px1) mc ms A) (cw : CallW R s args own qc.1 index y1 bytes1 maxL1 ret1 ws1 rm mc ms nA) (hn : As.length = nA) {st0 : List Value} (hst : st0 = As.reverse ++ .ref b :: st) (hsm : (st.map fun v => v.category).sum ≤ 8) (d : decode cc pc = .ok (.invokevirtual index, 3)) (hf : k + mc ≤ R.cells ∧ n + ms ≤ R.slots) (hE : ∀ x ∈ c.exceptionTable.toList, False) {Qc : Array Value → State → Outcome → State → Prop} {mc0 ms0 : Nat} (hx : ∀ E M', px1 E M' → px E M') (hk0 : k + mc ≤ mc0) (hn0 : n + ms ≤ ms0) (kk : ∀ (r : Option Nat) (M' : Mm), post r M' → mV p l e R s m args below meth c nL D A (vx_MQ below Qc (mXC D A px) args s mc0 ms0 A) M' (k + mc) (n + ms) L (va_rf r :: st) (pc + 3)) : mV p l e R s m args below meth c nL D A (vx_MQ below Qc (mXC D A px) args s mc0 ms0 A) M k n L st0 pc := by
  intro H locs ls hW hS hl
  subst hst
  exact vx_callq (vx_runV (As := As) (rest := st) C.1 hM cw ⟨mP_blind, m_recv C hW hb hc, fun U hU hw => mP_at C hW hS U hU hw⟩ rfl hn hl.1 rfl (lv_room hsm) d hf) hS (fun q _ h => h) (fun q h => h) (fun q _ h => h) (fun E ce q9 u t H1 locs1 ht hvm hp hB hz hk hS1 h9 hv9 hc9 => vx_out (fun x hx0 => absurd hx0 (hE x)) C.2.2.1 h9 hv9 hc9 (fun t1 ht1 ha1 => ⟨u, trivial, ⟨hx _ _ hB.1, by rw [ht1, ← ht]; exact hB.2⟩, hS1.F ht1⟩) hS1.2.2 hk0 hn0) (fun r u t H1 locs1 ht hvm hp hB hz hk hS1 => kk r u hp H1 locs1 ls (by rw [← ht]; exact hB) hS1 hl)
theorem m_callSXv (C : mC p m meth c cc nL s args Ts own D A y0 ret0) {y1 : MethodName} {ws1 : List Cond} {rm : Room} {bytes1 : ByteArray} {maxL1 mc ms nA index : Nat} {ret1 : Option FieldType} {px px1 : String → Mm → Prop} {post : Mm → Prop} {As : List Value}  (hM : vx_Met l y1 ws1 rm (mPc D A As M) (va_Qv post (mB D A) A) (mXC D A px1) mc ms A) (cw : CallB R s args own index y1 bytes1 maxL1 ret1 ws1 rm mc ms nA ∧ (Cond.static y1).before args s = true) (hn : As.length = nA) {st0 : List Value} (hst : st0 = As.reverse ++ st) (hsm : (st.map fun v => v.category).sum ≤ 8) (d : decode cc pc = .ok (.invokestatic index, 3)) (hf : k + mc ≤ R.cells ∧ n + ms ≤ R.slots) (hE : ∀ x ∈ c.exceptionTable.toList, False) {Qc : Array Value → State → Outcome → State → Prop} {mc0 ms0 : Nat} (hx : ∀ E M', px1 E M' → px E M') (hk0 : k + mc ≤ mc0) (hn0 : n + ms ≤ ms0) (kk : ∀ (M' : Mm), post M' → mV p l e R s m args below meth c nL D A (vx_MQ below Qc (mXC D A px) args s mc0 ms0 A) M' (k + mc) (n + ms) L (st) (pc + 3)) : mV p l e R s m args below meth c nL D A (vx_MQ below Qc (mXC D A px) args s mc0 ms0 A) M k n L st0 pc := by
  intro H locs ls hW hS hl
  subst hst
  exact vx_callv (vx_runS (As := As) (rest := st) C.1 hM cw ⟨mP_blind, fun U hU hw => mP_at C hW hS U hU hw⟩ rfl hn hl.1 rfl (lv_room hsm) d hf) hS (fun q _ h => h) (fun q h => h) (fun q _ h => h) (fun E ce q9 u t H1 locs1 ht hvm hp hB hz hk hS1 h9 hv9 hc9 => vx_out (fun x hx0 => absurd hx0 (hE x)) C.2.2.1 h9 hv9 hc9 (fun t1 ht1 ha1 => ⟨u, trivial, ⟨hx _ _ hB.1, by rw [ht1, ← ht]; exact hB.2⟩, hS1.F ht1⟩) hS1.2.2 hk0 hn0) (fun u t H1 locs1 ht hvm hp hB hz hk hS1 => kk u hp H1 locs1 ls (by rw [← ht]; exact hB) hS1 hl)
theorem m_callVFi (C : mC p m meth c cc nL s args Ts own D A y0 ret0) {y1 : MethodName} {ws1 : List Cond} {rm : Room} {bytes1 : ByteArray} {maxL1 nA index : Nat} {ret1 : Option FieldType} {v : Int32} {As : List Value} {b ci : Nat} {fs : List Value} {qc : vw_C} (hb : M b = some (.inr (ci, fs))) (hc : vwCl[ci]? = some qc) (hM : mMet D A l y1 ws1 rm (.ref b :: As) M (va_Qi (fun (r : Int32) (M' : Mm) => M' = M ∧ r = v) (mB D A) A) 0 0) (cw : CallW R s args own qc.1 index y1 bytes1 maxL1 ret1 ws1 rm 0 0 nA) (hn : As.length = nA) {st0 : List Value} (hst : st0 = As.reverse ++ .ref b :: st) (hsm : (st.map fun v => v.category).sum ≤ 8) (d : decode cc pc = .ok (.invokevirtual index, 3)) (hf : k ≤ R.cells ∧ n ≤ R.slots) (kk : mV p l e R s m args below meth c nL D A Q M k n L (.int v :: st) (pc + 3)) : mV p l e R s m args below meth c nL D A Q M k n L st0 pc :=
  m_callVi C hb hc hM cw hn hst hsm d hf (fun r M' h => by obtain ⟨h1, h2⟩ := h; cases h1; cases h2; exact kk)
theorem m_callVPl (C : mC p m meth c cc nL s args Ts own D A y0 ret0) {y1 : MethodName} {ws1 : List Cond} {rm : Room} {bytes1 : ByteArray} {maxL1 nA index : Nat} {ret1 : Option FieldType} {P : Int64 → Prop} {As : List Value} {b ci : Nat} {fs : List Value} {qc : vw_C} (hb : M b = some (.inr (ci, fs))) (hc : vwCl[ci]? = some qc) (hM : mMet D A l y1 ws1 rm (.ref b :: As) M (va_Ql (fun (r : Int64) (M' : Mm) => M' = M ∧ P r) (mB D A) A) 0 0) (cw : CallW R s args own qc.1 index y1 bytes1 maxL1 ret1 ws1 rm 0 0 nA) (hn : As.length = nA) {st0 : List Value} (hst : st0 = As.reverse ++ .ref b :: st) (hsm : (st.map fun v => v.category).sum ≤ 8) (d : decode cc pc = .ok (.invokevirtual index, 3)) (hf : k ≤ R.cells ∧ n ≤ R.slots) (kk : ∀ r : Int64, P r → mV p l e R s m args below meth c nL D A Q M k n L (.long r :: st) (pc + 3)) : mV p l e R s m args below meth c nL D A Q M k n L st0 pc :=
  m_callVl C hb hc hM cw hn hst hsm d hf (fun r M' h => by obtain ⟨h1, h2⟩ := h; cases h1; exact kk r h2)
theorem m_callVFq (C : mC p m meth c cc nL s args Ts own D A y0 ret0) {y1 : MethodName} {ws1 : List Cond} {rm : Room} {bytes1 : ByteArray} {maxL1 nA index : Nat} {ret1 : Option FieldType} {v : Option Nat} {As : List Value} {b ci : Nat} {fs : List Value} {qc : vw_C} (hb : M b = some (.inr (ci, fs))) (hc : vwCl[ci]? = some qc) (hM : mMet D A l y1 ws1 rm (.ref b :: As) M (va_Qq (fun (r : Option Nat) (M' : Mm) => M' = M ∧ r = v) (mB D A) A) 0 0) (cw : CallW R s args own qc.1 index y1 bytes1 maxL1 ret1 ws1 rm 0 0 nA) (hn : As.length = nA) {st0 : List Value} (hst : st0 = As.reverse ++ .ref b :: st) (hsm : (st.map fun v => v.category).sum ≤ 8) (d : decode cc pc = .ok (.invokevirtual index, 3)) (hf : k ≤ R.cells ∧ n ≤ R.slots) (kk : mV p l e R s m args below meth c nL D A Q M k n L (va_rf v :: st) (pc + 3)) : mV p l e R s m args below meth c nL D A Q M k n L st0 pc :=
  m_callVq C hb hc hM cw hn hst hsm d hf (fun r M' h => by obtain ⟨h1, h2⟩ := h; cases h1; cases h2; exact kk)
theorem m_callSFi (C : mC p m meth c cc nL s args Ts own D A y0 ret0) {y1 : MethodName} {ws1 : List Cond} {rm : Room} {bytes1 : ByteArray} {maxL1 nA index : Nat} {ret1 : Option FieldType} {v : Int32} {As : List Value} (hM : mMet D A l y1 ws1 rm As M (va_Qi (fun (r : Int32) (M' : Mm) => M' = M ∧ r = v) (mB D A) A) 0 0) (cw : CallB R s args own index y1 bytes1 maxL1 ret1 ws1 rm 0 0 nA ∧ (Cond.static y1).before args s = true) (hn : As.length = nA) {st0 : List Value} (hst : st0 = As.reverse ++ st) (hsm : (st.map fun v => v.category).sum ≤ 8) (d : decode cc pc = .ok (.invokestatic index, 3)) (hf : k ≤ R.cells ∧ n ≤ R.slots) (kk : mV p l e R s m args below meth c nL D A Q M k n L (.int v :: st) (pc + 3)) : mV p l e R s m args below meth c nL D A Q M k n L st0 pc :=
  m_callSi C hM cw hn hst hsm d hf (fun r M' h => by obtain ⟨h1, h2⟩ := h; cases h1; cases h2; exact kk)
theorem m_callSFq (C : mC p m meth c cc nL s args Ts own D A y0 ret0) {y1 : MethodName} {ws1 : List Cond} {rm : Room} {bytes1 : ByteArray} {maxL1 nA index : Nat} {ret1 : Option FieldType} {v : Option Nat} {As : List Value} (hM : mMet D A l y1 ws1 rm As M (va_Qq (fun (r : Option Nat) (M' : Mm) => M' = M ∧ r = v) (mB D A) A) 0 0) (cw : CallB R s args own index y1 bytes1 maxL1 ret1 ws1 rm 0 0 nA ∧ (Cond.static y1).before args s = true) (hn : As.length = nA) {st0 : List Value} (hst : st0 = As.reverse ++ st) (hsm : (st.map fun v => v.category).sum ≤ 8) (d : decode cc pc = .ok (.invokestatic index, 3)) (hf : k ≤ R.cells ∧ n ≤ R.slots) (kk : mV p l e R s m args below meth c nL D A Q M k n L (va_rf v :: st) (pc + 3)) : mV p l e R s m args below meth c nL D A Q M k n L st0 pc :=
  m_callSq C hM cw hn hst hsm d hf (fun r M' h => by obtain ⟨h1, h2⟩ := h; cases h1; cases h2; exact kk)
theorem m_callSNPl (C : mC p m meth c cc nL s args Ts own D A y0 ret0) {y1 : MethodName} {ws1 : List Cond} {rm : Room} {bytes1 : ByteArray} {maxL1 nA index : Nat} {ret1 : Option FieldType} {P : Int64 → Prop} {As : List Value} (hM : mMet D A l y1 ws1 rm As M (va_Ql (fun (r : Int64) (M' : Mm) => M' = M ∧ P r) (mB D A) A) 0 0) {host : String} (cw : va_CN R s args own index y1 host bytes1 maxL1 ret1 ws1 rm 0 0 nA ∧ (Cond.static y1).before args s = true ∧ True) (hn : As.length = nA) {st0 : List Value} (hst : st0 = As.reverse ++ st) (hsm : (st.map fun v => v.category).sum ≤ 8) (d : decode cc pc = .ok (.invokestatic index, 3)) (hf : k ≤ R.cells ∧ n ≤ R.slots) (kk : ∀ r : Int64, P r → mV p l e R s m args below meth c nL D A Q M k n L (.long r :: st) (pc + 3)) : mV p l e R s m args below meth c nL D A Q M k n L st0 pc :=
  m_callSNl C hM cw hn hst hsm d hf (fun r M' h => by obtain ⟨h1, h2⟩ := h; cases h1; exact kk r h2)
theorem m_callUFi (C : mC p m meth c cc nL s args Ts own D A y0 ret0) {y1 : MethodName} {ws1 : List Cond} {rm : Room} {bytes1 : ByteArray} {maxL1 nA index : Nat} {ret1 : Option FieldType} {v : Int32} {As : List Value} {b ci : Nat} {fs : List Value} {qc : vw_C} (hb : M b = some (.inr (ci, fs))) (hc : vwCl[ci]? = some qc) (hM : mMet D A l y1 ws1 rm (.ref b :: As) M (va_Qi (fun (r : Int32) (M' : Mm) => M' = M ∧ r = v) (mB D A) A) 0 0) {owner : String} {x1 : MethodName} (cw : va_CU R s args own qc.1 owner index x1 y1 bytes1 maxL1 ret1 ws1 rm 0 0 nA) (hn : As.length = nA) {st0 : List Value} (hst : st0 = As.reverse ++ .ref b :: st) (hsm : (st.map fun v => v.category).sum ≤ 8) (d : decode cc pc = .ok (.invokevirtual index, 3)) (hf : k ≤ R.cells ∧ n ≤ R.slots) (kk : mV p l e R s m args below meth c nL D A Q M k n L (.int v :: st) (pc + 3)) : mV p l e R s m args below meth c nL D A Q M k n L st0 pc :=
  m_callUi C hb hc hM cw hn hst hsm d hf (fun r M' h => by obtain ⟨h1, h2⟩ := h; cases h1; cases h2; exact kk)
theorem m_callUPl (C : mC p m meth c cc nL s args Ts own D A y0 ret0) {y1 : MethodName} {ws1 : List Cond} {rm : Room} {bytes1 : ByteArray} {maxL1 nA index : Nat} {ret1 : Option FieldType} {P : Int64 → Prop} {As : List Value} {b ci : Nat} {fs : List Value} {qc : vw_C} (hb : M b = some (.inr (ci, fs))) (hc : vwCl[ci]? = some qc) (hM : mMet D A l y1 ws1 rm (.ref b :: As) M (va_Ql (fun (r : Int64) (M' : Mm) => M' = M ∧ P r) (mB D A) A) 0 0) {owner : String} {x1 : MethodName} (cw : va_CU R s args own qc.1 owner index x1 y1 bytes1 maxL1 ret1 ws1 rm 0 0 nA) (hn : As.length = nA) {st0 : List Value} (hst : st0 = As.reverse ++ .ref b :: st) (hsm : (st.map fun v => v.category).sum ≤ 8) (d : decode cc pc = .ok (.invokevirtual index, 3)) (hf : k ≤ R.cells ∧ n ≤ R.slots) (kk : ∀ r : Int64, P r → mV p l e R s m args below meth c nL D A Q M k n L (.long r :: st) (pc + 3)) : mV p l e R s m args below meth c nL D A Q M k n L st0 pc :=
  m_callUl C hb hc hM cw hn hst hsm d hf (fun r M' h => by obtain ⟨h1, h2⟩ := h; cases h1; exact kk r h2)
end MEM3
