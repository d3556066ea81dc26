/-! ===== the law: its start, and the claim ===== -/
theorem start_AA {D : mD} {Z : Nat → Nat} {M1 M2 : Mm} {o1 o2 qn qc qp qq : Nat} {cr : Nat → Option Nat} {row : Nat → Int32} (hI : cI D Z (fun _ => none) 1 0 q_ar0 M1) (hz : Z 0 = o1) (hR : hW D o2 qn qc qp (va_up (fun _ => none) 0 (some qq)) cr 1 0 (upA (fun _ _ => 0) 0 row) (fun _ => []) M2) (hrow : ∀ i, i < 12 → row i = nR 0 (-1) i) (hm : mS M1 M2) (hfr : ∀ a, (a = o2 ∨ a = qn ∨ a = qc ∨ ∃ n, n < 40 ∧ (va_up (fun _ => none) 0 (some qq) n = some a ∨ cr n = some a)) → M1 a = none) : hAA D o1 o2 M2 := by
  have hF : ∀ a, M1 a = none → fH (fun _ => none) M1 M2 a = M2 a := fun a h => fH_y (Or.inr h)
  obtain ⟨fi, nl, rw, h1, h2, h3⟩ := hI
  refine ⟨Z, 1, 0, q_ar0, hz, ⟨fH (fun _ => none) M1 M2, qn, qc, qp, va_up (fun _ => none) 0 (some qq), cr, upA (fun _ _ => 0) 0 row, fun _ => [], ⟨fi, nl, rw, h1, h2.fexts hm (fun a x h => Or.inr ?_), fun n hn => (h3 n hn).of (fun _ _ _ _ h => by cases h)⟩, ?_, ?_⟩, ⟨lP_0, PB_0⟩, 0, Nat.zero_le _, rfl⟩
  · obtain ⟨e1, e2⟩ := fH_i h
    exact ⟨e2.resolve_left (fun z => z rfl), e1⟩
  · obtain ⟨w1, w2, w3, w4, w5, w6⟩ := hR
    refine ⟨(hF _ (hfr _ (Or.inl rfl))).trans w1, (hF _ (hfr _ (Or.inr (Or.inl rfl)))).trans w2, (hF _ (hfr _ (Or.inr (Or.inr (Or.inl rfl))))).trans w3, fun n a hn ha => (hF _ (hfr _ (Or.inr (Or.inr (Or.inr ⟨n, hn, Or.inl ha⟩))))).trans (w4 n a hn ha), fun n hn => ?_, w6⟩
    obtain ⟨a, f, e1, e2, e3⟩ := w5 n hn
    exact ⟨a, f, e1, (hF _ (hfr _ (Or.inr (Or.inr (Or.inr ⟨n, hn, Or.inr e1⟩))))).trans e2, e3⟩
  · have hc : ∀ n, cP q_ar0 1 n ↔ n = 0 := fun n => ⟨fun h => by have := h.1; omega, fun h => by rw [h]; exact wf_root wf_0⟩
    refine ⟨fun n hn => ?_, fun n hn => ?_, fun n hn => rfl, fun n hn => rfl⟩
    · rw [hc n]
      by_cases z : n = 0
      · rw [z, va_up_s]
        exact ⟨fun _ => rfl, fun _ => ⟨qq, rfl⟩⟩
      · rw [va_up_n z]
        exact ⟨fun ⟨a, ha⟩ => (by cases ha), fun y => absurd y z⟩
    · rw [(hc n).mp hn, upA_s, hrow 0 (by decide), hrow 1 (by decide), hrow 2 (by decide), hrow 4 (by decide), hrow 5 (by decide), hrow 7 (by decide), hrow 10 (by decide)]
      exact ⟨rfl, rfl, rfl, rfl, rfl, rfl, rfl⟩
/-! THE CLAIM OUT OF ONE WALK OF THE LAW'S BODY. Your part is whole_start (and what it stands on); all else here is the same for every law, but numbers. -/
def R_law : String := "PaintLayersLaw"
def lw_P (b : Addr) (xs : List Int32) (args : Array Value) (s : State) : Prop := args = #[.ref b] ∧ s.IntsAt b xs ∧ xs.length ≤ 260 ∧ (Jvm.Cond.and given_1 narrow_1).before args s = true
def lw_Q (_ : Array Value) (s : State) (o : Outcome) (t : State) : Prop := o = .returned (some (.int 1)) ∧ Framed s o t [] 600064 7301640
def lw_Z (below : List Frame) (a : Array Value) (s : State) : State → Prop := fun t => ∃ o, t.status = .running ∧ Ended t below o ∧ lw_Q a s o t
/-- the law's own end, with 1 on the stack, nothing written that was there before, its room as the claim has it -/
theorem lw_ret {p : Program} {l : Launch} {e : Env} {s : State} {m : MethodId} {below : List Frame} {meth : Method} {c : Code} {b : Nat} (hx : p.tables.exec = Jvm.exec) (hb : c.code = code) (hr : meth.sig.returnType = ret) (hlocks : meth.locks = false) {pc : Nat} {H : Heap} {ls : Array Slot} (hdg : decode code pc = .ok (.ireturn, 1)) : W p l e room_1 s m #[Value.ref b] below meth c H [] 600064 7301640 (lw_Z below #[Value.ref b] s) (F0 m pc ls [.int 1]) := by
  intro T hT X
  obtain ⟨fs, hret, hrun, hended, hW, hframe⟩ := X.leave (v := some (.int 1)) (hlocks := hlocks) (fun h => by rw [hr] at h; cases h)
  have hmeth' : T.vm.method? m = some meth := X.method'
  refine ⟨T.setFrames fs, ?_, .returned (some (.int 1)), hrun, hended, rfl, ⟨_, rfl⟩, hW, hframe⟩
  jvm_step X.here [X.here.top, hx, hb, hdg, hmeth', hr, ret, narrow_b1]
  (try refine ⟨rfl, ?_⟩); (try refine ⟨rfl, ?_⟩)
  first | (intro acts; rw [hret _ acts rfl rfl rfl]) | rw [hret _ _ rfl rfl rfl]
  exact Steps.refl _
/-- what holds at the law's entry: the machine, the code, the tables' words (any of lw_tbl by 'hts w (by decide +kernel)'), the script of L ints xs at the cell b, what the Statement gives of the start (any of its parts by flat_of_before) -/
def lw_At (p : Program) (s : State) (m : MethodId) (meth : Method) (c : Code) (b L : Nat) (xs : Nat → Int32) : Prop :=
  p.tables.exec = Jvm.exec ∧ c.code = code ∧ meth.sig.returnType = ret ∧ c.maxLocals = 11 ∧ s.vm.findClass R_law = some m.cls ∧ (∀ w ∈ lw_tbl, w.before #[Value.ref b] s = true) ∧ va_X b L xs s s.heap ∧ b < s.heap.size ∧ meth.locks = false ∧ (Jvm.Cond.and given_1 narrow_1).before #[Value.ref b] s = true
-- ===== YOUR PART BEGINS =====
set_option maxHeartbeats 4000000 in
set_option maxRecDepth 100000 in
/-- YOUR PART: from the entry, for every script of at most 260 ints, the law comes to its end with true ('hflags': the launch's flags, for a law that throws: no stack traces) -/
theorem whole_start {p : Program} {e : Env} {s : State} {m : MethodId} {below : List Frame} {meth : Method} {c : Code} (l : Launch) (hflags : l.flags = flags0) {b L : Nat} {xs : Nat → Int32} (hL : L ≤ 260) (C0 : lw_At p s m meth c b L xs) : W p l e room_1 s m #[Value.ref b] below meth c s.heap [] 0 0 (lw_Z below #[Value.ref b] s) (entryFrame m ([Value.ref b] : List Value).toArray 11) := by
  obtain ⟨hx, hb, hr, hml, hown, hts, hX, hbl, hlocks, hgv⟩ := id C0
  obtain ⟨D, hG⟩ := law_ground hts hgv
  have hst : l.stackTraces = false := by
    unfold Launch.stackTraces
    rw [hflags]
    decide
  have hbA : ¬ (fun q : Nat => s.heap.size ≤ q) b := Nat.not_le.mpr hbl
  have C : mC p m meth c cL_law 11 s #[Value.ref b] wsL_law RL D (fun q : Nat => s.heap.size ≤ q) ⟨RL, meth.name, ""⟩ ret := ⟨⟨hx, hb, hml, hown, fun w h => hts w (wsL_law_in w h)⟩, hG, hlocks, rfl, hr⟩
  have hE : eX (fun q : Nat => s.heap.size ≤ q) b L xs s := ⟨hX, hbl, hbA⟩
  have main : mV p l e room_1 s m #[Value.ref b] below meth c 11 D (fun q : Nat => s.heap.size ≤ q) (lw_Z below #[Value.ref b] s) (fun _ => none) 0 0 [(0, .ref b)] [] 0 := by
    refine m_new (ci := 9) (fs := [.null, .null, .null, .null, .null, .int 0, .int 0]) C rfl inlX7 tyX7 tyX7_ok (by decide +kernel) (by decide +kernel) (by decide +kernel) (fun j hj => by match j, hj with | 0, _ => rfl | 1, _ => rfl | 2, _ => rfl | 3, _ => rfl | 4, _ => rfl | 5, _ => rfl | 6, _ => rfl | k + 7, h => omega) (Nat.le_of_ble_eq_true rfl) (Nat.le_of_ble_eq_true rfl) dL_law_0 (fun o1 ho1 => ?_)
    refine m_dup C dL_law_3 rfl ?_
    refine m_callIv (ret1 := none) (As := []) (st := [.ref o1]) C (c_X7_init D (fun q : Nat => s.heap.size ≤ q) l (o := o1) (F := fun _ => none) m_up_s (fun a x h => by cases h)) ⟨callB_of 0 C.1.2.2.2.2 gL_law_X7_init rfl rfl rfl (C.1.2.2.2.2 _ (by decide +kernel)) (C.1.2.2.2.2 _ (by decide +kernel)) (by decide +kernel) ⟨Nat.le_of_ble_eq_true rfl, Nat.le_of_ble_eq_true rfl⟩, rfl, C.1.2.2.2.2 _ (by decide +kernel)⟩ rfl rfl (Nat.le_of_ble_eq_true rfl) dL_law_4 ⟨Nat.le_of_ble_eq_true rfl, Nat.le_of_ble_eq_true rfl⟩ (fun M1 hq1 => ?_)
    obtain ⟨Z, hz, hI⟩ := hq1
    refine m_astore_n (L' := [(1, .ref o1), (0, .ref b)]) C dL_law_7 rfl (by decide) rfl ?_
    refine m_new (ci := 10) (fs := [.null, .null, .int 0, .int 0, .null]) C rfl inlX8 tyX8 tyX8_ok (by decide +kernel) (by decide +kernel) (by decide +kernel) (fun j hj => by match j, hj with | 0, _ => rfl | 1, _ => rfl | 2, _ => rfl | 3, _ => rfl | 4, _ => rfl | k + 5, h => omega) (Nat.le_of_ble_eq_true rfl) (Nat.le_of_ble_eq_true rfl) dL_law_8 (fun o2 ho2 => ?_)
    refine m_dup C dL_law_11 rfl ?_
    refine m_callIv (ret1 := none) (As := []) (st := [.ref o2]) C (c_X8_init D (fun q : Nat => s.heap.size ≤ q) l (o := o2) m_up_s) ⟨callB_of 0 C.1.2.2.2.2 gL_law_X8_init rfl rfl rfl (C.1.2.2.2.2 _ (by decide +kernel)) (C.1.2.2.2.2 _ (by decide +kernel)) (by decide +kernel) ⟨Nat.le_of_ble_eq_true rfl, Nat.le_of_ble_eq_true rfl⟩, rfl, C.1.2.2.2.2 _ (by decide +kernel)⟩ rfl rfl (Nat.le_of_ble_eq_true rfl) dL_law_12 ⟨Nat.le_of_ble_eq_true rfl, Nat.le_of_ble_eq_true rfl⟩ (fun M2 hq2 => ?_)
    obtain ⟨qn, qc, qp, qq, cr, row, hR, hrow, hfr, hfn⟩ := hq2
    have hne : ∀ a x, M1 a = some x → a ≠ o2 := fun a x ha z => by rw [z, ho2] at ha; cases ha
    have hA : hAA D o1 o2 M2 := start_AA hI hz hR hrow (fun a x ha => hfr a x (hne a x ha) (by rw [m_up_n (hne a x ha)]; exact ha)) (fun a ha => by
      rcases ha with z | z
      · rw [z]; exact ho2
      · have h9 := hfn a z
        cases hM : M1 a with
        | none => rfl
        | some x => rw [m_up_n (hne a x hM), hM] at h9; cases h9)
    refine m_astore_n (L' := [(2, .ref o2), (1, .ref o1), (0, .ref b)]) C dL_law_15 rfl (by decide) rfl ?_
    refine m_aload_n C dL_law_16 rfl 1 rfl ?_
    refine m_aload_n C dL_law_17 rfl 0 rfl ?_
    refine m_aload_n C dL_law_18 rfl 2 rfl ?_
    refine m_bipush (v := 44) C dL_law_19 (by decide) ?_
    refine e_callSi (As := [.ref o1, .ref o2, .ref b, .int (nI 44)]) (st := []) C hE (c_L_build D (fun q : Nat => s.heap.size ≤ q) l hst (by omega) hA) (va_cwS 4 C.1.2.2.2.2 gL_law_L_build rfl rfl rfl (by decide +kernel) ⟨Nat.le_of_ble_eq_true rfl, Nat.le_of_ble_eq_true rfl⟩) rfl rfl (Nat.le_of_ble_eq_true rfl) dL_law_21 ⟨Nat.le_of_ble_eq_true rfl, Nat.le_of_ble_eq_true rfl⟩ (fun r3 M3 hq3 => ?_)
    obtain ⟨hr3, hA3⟩ := hq3
    subst hr3
    refine m_if_ne (tgt := 29) C dL_law_24 (by decide) (fun h1 => ?_) (fun h1 => absurd h1 (by decide))
    refine law_all hst C (fun M k n hk hn => ?_) hA3 (Nat.le_of_ble_eq_true rfl) (Nat.le_of_ble_eq_true rfl)
    intro H locs ls hW hS hl
    refine va_forget (fun q hq => hS.2.2 q hq) ?_
    refine W.widen (k := 600064) (n := 7301640) hk hn ?_
    exact lw_ret hx hb hr hlocks dL_law_523
  have hl := lv_entry ([.ref b]) (n := 11) (Nat.le_of_ble_eq_true rfl)
  rw [lg_entry_eq]
  exact main s.heap [] _ ⟨[], fun k q h => by simp at h, ⟨fun i j p q h => by simp at h, fun k q h => by simp at h⟩, fun a e h => by cases h⟩ va_S.rf hl
-- ===== YOUR PART ENDS =====
set_option maxHeartbeats 4000000 in
theorem lw_walk (l : Launch) (hflags : l.flags = flags0) (b : Addr) (xs : List Int32) : MetFree l x (headSpec (Jvm.Cond.code x code maxLocals ret :: tables_1) room_1) (lw_P b xs) (fun _ _ _ _ _ => True) lw_Q := by
  refine MetFree.of_bodyS (code := code) (maxLocals := maxLocals) (ret := ret) (by decide) ?_ ?_
  · intro args s m h hn
    obtain ⟨meth, c, h1, h2, h3, h4, h5, h6, -, -⟩ := Cond.code_spec hn (atoms_spec (ws := Jvm.Cond.code x code maxLocals ret :: tables_1) h _ List.mem_cons_self)
    exact ⟨meth, c, h1, h2, h3, h4, h5, h6⟩
  · intro p e s m args below meth c s₁ B hml0 hP _
    obtain ⟨rfl, hx, hbd, hgv⟩ := hP
    obtain ⟨scr, harrAt, hlist, hof, hsmall⟩ := hx
    obtain ⟨hcb, hkn, -, -⟩ := State.arrayAt?_spec harrAt
    have hown : s.vm.findClass R_law = some m.cls := findClass_of_methodNamed B.named
    have hts0 : ∀ c ∈ (Jvm.Cond.code x code maxLocals ret :: tables_1), c.before #[Value.ref b] s = true := atoms_spec (ws := Jvm.Cond.code x code maxLocals ret :: tables_1) B.pre
    have hts : ∀ w ∈ lw_tbl, w.before #[Value.ref b] s = true := k2_hts_sels lw_privs (fun w hw => hts0 w (List.mem_cons_of_mem _ hw)) lw_privs_ok
    have hml : c.maxLocals = 11 := B.maxLocals_eq (hts0 _ List.mem_cons_self)
    have X₀ : Stand p l e room_1 s m #[Value.ref b] below meth c s₁ [] 0 0 := Stand.of_body B
    have hh0 : s₁.heap = s.heap := by rw [B.state]; rfl
    have hsz : scr.slots.size = xs.length := by rw [← Array.length_toList, hlist, List.length_map]
    have hval : ∀ j : Nat, j < xs.length → scr.slots[j]? = some (.int (xs.getD j 0)) := fun j hj => by
      rw [← Array.getElem?_toList, hlist]
      simp [hj]
    have hbl : b < s.heap.size := (Array.getElem?_eq_some_iff.mp hcb).1
    have hX : va_X b xs.length (fun j => xs.getD j 0) s s.heap := ⟨scr, hcb, hof, hkn, hsz, hval⟩
    have K : W p l e room_1 s m #[Value.ref b] below meth c s₁.heap [] 0 0 (lw_Z below #[Value.ref b] s) (entryFrame m ([Value.ref b] : List Value).toArray 11) := by
      rw [hh0]
      exact whole_start l hflags hbd ⟨B.exec, B.bytes, B.returns, hml, hown, hts, hX, hbl, B.notSynchronized, hgv⟩
    obtain ⟨t, a1, o, b1, b2, b3⟩ := K s₁ rfl X₀
    exact ⟨t, o, a1, b1, b2, b3⟩
theorem lw_pre_spec {args : Array Value} {s : State} (h : (Jvm.Cond.and given_1 narrow_1).before args s = true) (hr : rest_1_c.before args s = true) : ∃ (b : Addr) (xs : List Int32), lw_P b xs args s := by
  have hs := flat_of_before _ h
  have hq := flat_of_before _ hr
  have hc : (Cond.count 1).before args s = true := hs _ (by decide +kernel)
  have harr : (Cond.arrayOf (.arg 0) .int).before args s = true := hs _ (by decide +kernel)
  have hle : (Cond.le (.length (.arg 0)) (.int 260)).before args s = true := hs _ (by decide +kernel)
  have hlen : (Cond.isInt (.length (.arg 0))).before args s = true := hq _ (by decide +kernel)
  have hall : (Cond.all (.arg 0) (.isInt (.elem (.arg 0) (.index 0)))).before args s = true := hq _ (by decide +kernel)
  obtain ⟨b, xs, hb, hx⟩ := State.ints_of_pre rfl harr hlen hall
  have hsm : xs.length < 2 ^ 31 := hx.choose_spec.2.2.2
  have hev : (Term.length (.arg 0)).eval args s none [] s = some (.int xs.length.toInt32) := hx.length_eval hb
  have hv := Cond.le_ints hev (show (Term.int 260).eval args s none [] s = some (.int 260) from rfl)
  have hd : xs.length.toInt32 ≤ 260 := by
    simpa [Cond.before, Cond.holds, hv] using hle
  have hN : xs.length ≤ 260 := (Int32.ofNat_le_ofNat hsm (by decide)).mp (show Int32.ofNat xs.length ≤ Int32.ofNat 260 from hd)
  exact ⟨b, xs, Cond.one_arg hc (show args[0]? = some (.ref b) from hb), hx, hN, h⟩
theorem lw_comes (l : Launch) (hflags : l.flags = flags0) : Comes l x (Jvm.Cond.code x code maxLocals ret :: tables_1) room_1 (fun tb e args s => Calls_1 tb e args s ∧ rest_1 tb e args s ∧ Pre_1 tb e args s)
    (fun _ _ args s o t => lw_Q args s o t) := by
  intro p e ha hc hk s m args below hf hfit hheap happ hpre
  obtain ⟨b, xs, hP⟩ := lw_pre_spec hpre.2.2 hpre.2.1
  obtain ⟨k, o, h1, h2, h3, hQ⟩ := lw_walk l hflags b xs p e ha hc hk s m args below hf ((Spec.applies_iff_loose hf).mp happ).1 hP trivial
  exact ⟨k, o, h1, h2, h3, hQ⟩
theorem lw_frame {s t : State} {o : Outcome} {args : Array Value} (h : Framed s o t [] 600064 7301640) :
    Framed s o t (fieldLocs frame_1_writes args s ++ arrayLocs frame_1_arrays args s ++ staticLocs frame_1_statics s) 600064 7301640 := h
theorem lw_limb (L : Cond) (hL : ∀ (args : Array Value) (s t : State), L.after args s (.returned (some (.int 1))) t = true) :
    ArmFor flags0 classFile x code maxLocals ret World_1 tables_1 room_1 Calls_1 rest_1 Pre_1
      (fun tb e a s o t => postC L tb e a s o t ∧ Framed s o t (fieldLocs frame_1_writes a s ++ arrayLocs frame_1_arrays a s ++ staticLocs frame_1_statics s) 600064 7301640) := by
  intro l hflags _ _ p e ha hc hk s m args below hf hfit hheap happ hpre
  obtain ⟨k, o, h1, h2, h3, rfl, hF⟩ := lw_comes l hflags p e ha hc hk s m args below hf hfit hheap happ hpre
  exact ⟨k, _, h1, h2, h3, hL args s _, lw_frame hF⟩
theorem i_vc : Claimed_1_1 ∧ Claimed_1_2 := ⟨lw_limb limb_1_1 (fun args s t => by simp [limb_1_1, Cond.after, Cond.holds, Cond.value]), lw_limb limb_1_2 (fun args s t => Cond.after_iff.mpr (by
  first | (rw [show limb_1_2 = Cond.eq .result (.int 1) from rfl, Cond.eq_ints (x := 1) (y := 1) rfl rfl]; simp; done) | (simp [limb_1_2, Cond.value, Term.eval]; done)))⟩
