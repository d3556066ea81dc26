/-! ===== the record: add, isAbove, gone, its start ===== -/
/-- a new node's row -/
def nR (so v : Int32) : Nat → Int32 := upd (upd (upd (upd (fun _ => 0) 0 so) 1 v) 4 (-1)) 5 8
theorem up_lo {r r0 : Nat → Int32} {j : Nat} {x : Int32} (h : ∀ i, i < 12 → r i = r0 i) (hj : 12 ≤ j) : ∀ i, i < 12 → upd r j x i = r0 i := fun i hi => by
  rw [upd_n9 (by omega)]
  exact h i hi
theorem nr_fresh {D : mD} {o qn qc qp : Nat} {nr cr : Nat → Option Nat} {c : Nat} {g : Int32} {N : Nat → Nat → Int32} {K : Nat → List Nat} {M : Mm} (h : hW D o qn qc qp nr cr c g N K M) {q : Nat} (hq : M q = none) : ∀ m, m < 40 → nr m ≠ some q ∧ cr m ≠ some q := fun m hm => by
  refine ⟨fun z => ?_, fun z => ?_⟩
  · have := h.nrow hm z
    rw [hq] at this
    cases this
  · obtain ⟨a, f, e1, e2, -⟩ := h.crow hm
    rw [e1] at z
    cases z
    rw [hq] at e2
    cases e2
theorem insL_end (l : List Nat) (n : Nat) : insL l l.length n = l ++ [n] := by
  unfold insL
  rw [List.take_length, List.drop_length]
section HR9
variable {p : Program} {l : Launch} {e : Env} {R : Room} {s : State} {m : MethodId} {args : Array Value} {below : List Frame} {meth : Method} {c : Code} {nL : Nat} {D : mD} {A : Nat → Prop} {Q : State → Prop} {M : Mm} {k n : Nat} {L : List (Nat × Value)} {st : List Value} {pc : Nat} {cc : ByteArray} {Ts : List Cond} {own : String} {y0 : MethodName} {ret0 : Option FieldType}
theorem m_iastR (C : mC p m meth c cc nL s args Ts own D A y0 ret0) {q N j : Nat} {f : Nat → Int32} {i x : Int32} (hq : M q = some (jI D N f)) (hin : vp_in i N) (hj : i.toNatClampNeg = j) (d : decode cc pc = .ok (.iastore, 1)) (kk : ∀ M' : Mm, M' q = some (jI D N (upd f j x)) → (∀ M0, mS M0 M → M0 q = none → mS M0 M') → mV p l e R s m args below meth c nL D A Q M' k n L st (pc + 1)) : mV p l e R s m args below meth c nL D A Q M k n L (.int x :: .int i :: .ref q :: st) pc := by
  subst hj
  exact m_iast C hq hin d (kk _ m_up_s (fun M0 h h0 => h.new h0))
end HR9
set_option maxHeartbeats 4000000 in
set_option maxRecDepth 100000 in
theorem lp_X8_add {p : Program} {l : Launch} {e : Env} {s : State} {m : MethodId} {args : Array Value} {below : List Frame} {meth : Method} {c : Code} {Q : State → Prop} {D : mD} {A : Nat → Prop} {o sq q kN : Nat} {so vv : Int32} {fs r0 : Nat → Int32} {M0 : Mm} (hk6 : kN ≤ 6) (hs : M0 sq = some (jI D kN fs)) (hq0 : M0 q = none) (C : mC p m meth c cX8_add 6 s args wsX8_add yX8_add.cls D A yX8_add (some .int)) (i8 : ∀ w ∈ wsX80, w ∈ wsX8_add) (kx : ∀ (M : Mm) (r : Nat → Int32), mS M0 M → M q = some (jI D 18 r) → (∀ i, i < 12 → r i = r0 i) → mV p l e ({ frames := 1, cells := 2, slots := 59, locals := 60 } : Room) s m args below meth c 6 D A Q M 1 18 [(5, .int (nI kN)), (4, .ref q), (3, .ref sq), (2, .int vv), (1, .int so), (0, .ref o)] [] 55) : ∀ (N : Nat) (i : Nat) (M : Mm) (r : Nat → Int32), kN - i = N → (i ≤ kN) → (mS M0 M) → (M q = some (jI D 18 r)) → (∀ i, i < 12 → r i = r0 i) → mV p l e ({ frames := 1, cells := 2, slots := 59, locals := 60 } : Room) s m args below meth c 6 D A Q M 1 18 [(5, .int (nI i)), (4, .ref q), (3, .ref sq), (2, .int vv), (1, .int so), (0, .ref o)] [] 30 := by
  intro N
  induction N using Nat.strongRecOn with
  | _ N ih =>
    intro i M r hN hi hX hq hr
    refine m_iload C dX8_add_30 0 rfl ?_
    refine m_aload_n C dX8_add_32 rfl 2 rfl ?_
    refine m_alen C (hX _ _ hs) 0 rfl (v := nI kN) rfl dX8_add_33 ?_
    refine m_icmp_ge (tgt := 55) C dX8_add_34 (by decide) (fun h_1 => ?_) (fun h_1 => ?_)
    · have hij : i = kN := by
        have := (nI_leI (a := kN) (b := i) (by omega) (by omega)).mp h_1
        omega
      subst hij
      exact kx M r hX hq hr
    · have hij : i < kN := by
        rcases Nat.lt_or_ge i kN with z | z
        · exact z
        · exact absurd (nI_le (a := kN) (b := i) z (by omega)) h_1
      refine m_aload C dX8_add_37 1 rfl ?_
      refine m_bipush (v := 12) C dX8_add_39 (by decide) ?_
      refine m_iload C dX8_add_41 0 rfl ?_
      refine m_iadd C dX8_add_43 ?_
      refine m_i (y := nI (12 + i)) (nI_add 12 i) ?_
      refine m_aload_n C dX8_add_44 rfl 2 rfl ?_
      refine m_iload C dX8_add_45 0 rfl ?_
      refine m_iald C (hX _ _ hs) (vp_in_nI (hij) (by omega)) dX8_add_47 ?_
      rw [nI_clamp (show i < 2 ^ 31 by omega)]
      refine m_iast C hq (vp_in_nI (show 12 + i < 18 by omega) (by decide)) dX8_add_48 ?_
      rw [nI_clamp (show 12 + i < 2 ^ 31 by omega)]
      obtain ⟨x_2, ex_2⟩ : ∃ z : Int32, z = nI i + 1 := ⟨_, rfl⟩
      refine m_iinc (q := 0) (v := x_2) (L' := [(5, .int x_2), (4, .ref q), (3, .ref sq), (2, .int vv), (1, .int so), (0, .ref o)]) C dX8_add_49 rfl (by rw [ex_2]; rfl) (by decide) rfl ?_
      refine m_goto (tgt := 30) C dX8_add_52 (by decide) ?_
      rw [nI_1] at ex_2
      subst ex_2
      refine m_sub (L' := [(5, .int (nI (i + 1))), (4, .ref q), (3, .ref sq), (2, .int vv), (1, .int so), (0, .ref o)]) [0, 1, 2, 3, 4, 5] rfl ?_
      exact ih (kN - (i + 1)) (by omega) (i + 1) _ _ rfl (by omega) (hX.new hq0) m_up_s (up_lo hr (by omega))
theorem up_par {r : Nat → Int32} {so v : Int32} (h : ∀ i, i < 12 → r i = nR so v i) : ∀ i, i < 12 → upd r 1 v i = nR so v i := fun i hi => by
  by_cases z : i = 1
  · rw [z, upd_s9]
    unfold nR
    rw [upd_n9 (by decide), upd_n9 (by decide), upd_s9]
  · rw [upd_n9 z]
    exact h i hi
set_option maxHeartbeats 4000000 in
set_option maxRecDepth 100000 in
theorem c_X8_add0 (D : mD) (A : Nat → Prop) (l : Launch) {o qn qc qp : Nat} {nr cr : Nat → Option Nat} {c9 : Nat} {g : Int32} {B : Nat → Nat → Int32} {K : Nat → List Nat} {M : Mm} (hR : hW D o qn qc qp nr cr c9 g B K M) {so : Int32} {sq kN : Nat} {fs : Nat → Int32} (hk6 : kN ≤ 6) (hs : M sq = some (jI D kN fs)) (hc : c9 < 40) : mMi D A l yX8_add wsX8_add ({ frames := 1, cells := 2, slots := 59, locals := 60 } : Room) [.ref o, .int so, .int ((-1)), .ref sq] M (fun r M' => r = nI c9 ∧ ∃ qq row, hW D o qn qc qp (va_up nr c9 (some qq)) cr (c9 + 1) g (upA B c9 row) K M' ∧ (∀ i, i < 12 → row i = nR so (-1) i) ∧ hK o qn qc nr (va_up nr c9 (some qq)) cr cr M M') 2 59 := by
  refine m_start (cc := cX8_add) (maxL := 6) (ret := (some .int)) (by decide) rfl (Nat.le_of_ble_eq_true rfl) ?_
  intro p e s m args below meth c C
  have i8 : ∀ w ∈ wsX80, w ∈ wsX8_add := by decide +kernel
  refine m_sub (L' := [(0, .ref o), (1, .int so), (2, .int ((-1))), (3, .ref sq)]) [0, 1, 2, 3] rfl ?_
  refine m_bipush (v := 18) C dX8_add_0 (by decide) ?_
  refine m_newI C (by decide +kernel) (N := 18) (rfl) (by omega) (Nat.le_of_ble_eq_true rfl) (Nat.le_of_ble_eq_true rfl) dX8_add_2 (fun q hq0 => ?_)
  refine m_astore (L' := [(4, .ref q), (0, .ref o), (1, .int so), (2, .int ((-1))), (3, .ref sq)]) C dX8_add_4 (by decide) rfl ?_
  refine m_aload C dX8_add_6 0 rfl ?_
  refine m_iconst (v := 0) C dX8_add_8 (by decide) ?_
  refine m_iload_n C dX8_add_9 rfl 2 rfl ?_
  have hq : m_up M q (jI D 18 (fun _ => 0)) q = some (jI D 18 (fun _ => 0)) := m_up_s
  have hX : mS M (m_up M q (jI D 18 (fun _ => 0))) := mS.rf.new hq0
  refine m_iastR C hq (by unfold vp_in; decide) (j := 0) (by decide) dX8_add_10 (fun M1 hq hX9 => ?_)
  have hX := hX9 _ hX hq0
  refine m_aload C dX8_add_11 0 rfl ?_
  refine m_iconst (v := 1) C dX8_add_13 (by decide) ?_
  refine m_iload_n C dX8_add_14 rfl 3 rfl ?_
  refine m_iastR C hq (by unfold vp_in; decide) (j := 1) (by decide) dX8_add_15 (fun M1 hq hX9 => ?_)
  have hX := hX9 _ hX hq0
  refine m_aload C dX8_add_16 0 rfl ?_
  refine m_iconst (v := 4) C dX8_add_18 (by decide) ?_
  refine m_iconst (v := (-1)) C dX8_add_19 (by decide) ?_
  refine m_iastR C hq (by unfold vp_in; decide) (j := 4) (by decide) dX8_add_20 (fun M1 hq hX9 => ?_)
  have hX := hX9 _ hX hq0
  refine m_aload C dX8_add_21 0 rfl ?_
  refine m_iconst (v := 5) C dX8_add_23 (by decide) ?_
  refine m_bipush (v := 8) C dX8_add_24 (by decide) ?_
  refine m_iastR C hq (by unfold vp_in; decide) (j := 5) (by decide) dX8_add_26 (fun M1 hq hX9 => ?_)
  have hX := hX9 _ hX hq0
  refine m_iconst (v := 0) C dX8_add_27 (by decide) ?_
  refine m_istore (L' := [(5, .int 0), (4, .ref q), (0, .ref o), (1, .int so), (2, .int ((-1))), (3, .ref sq)]) C dX8_add_28 (by decide) rfl ?_
  refine m_sub (L' := [(5, .int (nI 0)), (4, .ref q), (3, .ref sq), (2, .int ((-1))), (1, .int so), (0, .ref o)]) [0, 1, 5, 4, 3, 2] rfl ?_
  refine lp_X8_add (r0 := nR so (-1)) hk6 hs hq0 C i8 (fun M1 r hX hq hr => ?_) _ 0 _ _ rfl (Nat.zero_le _) hX hq (fun _ _ => rfl)
  have hR1 := hR.mono hX
  have hK1 := hK.sub (o := o) (qn := qn) (qc := qc) (nr := nr) (cr := cr) hX
  refine m_aload_n C dX8_add_55 rfl 5 rfl ?_
  refine m_get (ref := "PaintLayersLaw$Hand") C hR1.1 rfl i8 0 (by decide) (by decide +kernel) (fun x h => h) (v := .ref qn) rfl dX8_add_56 ?_
  refine m_aload_n C dX8_add_59 rfl 5 rfl ?_
  refine m_get (ref := "PaintLayersLaw$Hand") C hR1.1 rfl i8 2 (by decide) (by decide +kernel) (fun x h => h) (v := .int (nI c9)) rfl dX8_add_60 ?_
  refine m_aload C dX8_add_63 1 rfl ?_
  refine m_aastA C hR1.2.1 hq (vp_in_nI hc (by decide)) dX8_add_65 ?_
  rw [nI_clamp (show c9 < 2 ^ 31 by omega)]
  have hR2 := hR1.addn (n := c9) hq (nr_fresh hR hq0)
  have hK2 := (hK1.up (a := qn) (e := jAA D 40 (va_up nr c9 (some q))) (Or.inr (Or.inl rfl))).nrN (p := c9) hq0
  revert hR2 hK2
  generalize m_up M1 qn (jAA D 40 (va_up nr c9 (some q))) = M2
  intro hR2 hK2
  refine m_iload_n C dX8_add_66 rfl 3 rfl ?_
  refine m_if_lt (tgt := 86) C dX8_add_67 (by decide) (fun h_1 => ?_) (fun h_1 => ?_)
  · refine m_aload_n C dX8_add_86 rfl 5 rfl ?_
    refine m_dup C dX8_add_87 rfl ?_
    refine m_get (ref := "PaintLayersLaw$Hand") C hR2.1 rfl i8 2 (by decide) (by decide +kernel) (fun x h => h) (v := .int (nI c9)) rfl dX8_add_88 ?_
    refine m_iconst (v := 1) C dX8_add_91 (by decide) ?_
    refine m_iadd C dX8_add_92 ?_
    refine m_put (ref := "PaintLayersLaw$Hand") C hR2.1 rfl i8 tyX8 tyX8_ok nmX8 2 (by decide) (by decide +kernel) (fun x h => h) rfl rfl rfl (Nat.le_of_ble_eq_true rfl) (e' := .inr (10, [.ref qn, .ref qc, .int (nI c9 + 1), .int g, .ref qp])) rfl dX8_add_93 ?_
    rw [nI_1]
    have hR4 := hR2.sets (c9 + 1) g
    have hK4 := hK2.up (a := o) (e := .inr (10, [.ref qn, .ref qc, .int (nI (c9 + 1)), .int g, .ref qp])) (Or.inl rfl)
    refine m_aload_n C dX8_add_96 rfl 5 rfl ?_
    refine m_get (ref := "PaintLayersLaw$Hand") C hR4.1 rfl i8 2 (by decide) (by decide +kernel) (fun x h => h) (v := .int (nI (c9 + 1))) rfl dX8_add_97 ?_
    refine m_iconst (v := 1) C dX8_add_100 (by decide) ?_
    refine m_isub C dX8_add_101 ?_
    refine m_i (y := nI c9) (by rw [← nI_1, Int32.add_sub_cancel]) ?_
    exact m_iret C (Nat.le_of_ble_eq_true rfl) (Nat.le_of_ble_eq_true rfl) dX8_add_102 (⟨rfl, _, _, hR4, hr, hK4⟩)
  · exact absurd (show ((-1 : Int32) < 0) by decide) h_1
set_option maxHeartbeats 4000000 in
set_option maxRecDepth 100000 in
theorem c_X8_add (D : mD) (A : Nat → Prop) (l : Launch) {o qn qc qp : Nat} {nr cr : Nat → Option Nat} {c9 : Nat} {g : Int32} {B : Nat → Nat → Int32} {K : Nat → List Nat} {M : Mm} (hR : hW D o qn qc qp nr cr c9 g B K M) {so : Int32} {sq kN : Nat} {fs : Nat → Int32} (hk6 : kN ≤ 6) (hs : M sq = some (jI D kN fs)) (hc : c9 < 40) {u : Nat} (hu : u < 40) (hl : (K u).length ≤ 40) : mMi D A l yX8_add wsX8_add ({ frames := 1, cells := 2, slots := 59, locals := 60 } : Room) [.ref o, .int so, .int (nI u), .ref sq] M (fun r M' => r = nI c9 ∧ ∃ qq cr' row, hW D o qn qc qp (va_up nr c9 (some qq)) cr' (c9 + 1) g (upA B c9 row) (upA K u (K u ++ [c9])) M' ∧ (∀ i, i < 12 → row i = nR so (nI u) i) ∧ hK o qn qc nr (va_up nr c9 (some qq)) cr cr' M M') 2 59 := by
  refine m_start (cc := cX8_add) (maxL := 6) (ret := (some .int)) (by decide) rfl (Nat.le_of_ble_eq_true rfl) ?_
  intro p e s m args below meth c C
  have i8 : ∀ w ∈ wsX80, w ∈ wsX8_add := by decide +kernel
  refine m_sub (L' := [(0, .ref o), (1, .int so), (2, .int (nI u)), (3, .ref sq)]) [0, 1, 2, 3] rfl ?_
  refine m_bipush (v := 18) C dX8_add_0 (by decide) ?_
  refine m_newI C (by decide +kernel) (N := 18) (rfl) (by omega) (Nat.le_of_ble_eq_true rfl) (Nat.le_of_ble_eq_true rfl) dX8_add_2 (fun q hq0 => ?_)
  refine m_astore (L' := [(4, .ref q), (0, .ref o), (1, .int so), (2, .int (nI u)), (3, .ref sq)]) C dX8_add_4 (by decide) rfl ?_
  refine m_aload C dX8_add_6 0 rfl ?_
  refine m_iconst (v := 0) C dX8_add_8 (by decide) ?_
  refine m_iload_n C dX8_add_9 rfl 2 rfl ?_
  have hq : m_up M q (jI D 18 (fun _ => 0)) q = some (jI D 18 (fun _ => 0)) := m_up_s
  have hX : mS M (m_up M q (jI D 18 (fun _ => 0))) := mS.rf.new hq0
  refine m_iastR C hq (by unfold vp_in; decide) (j := 0) (by decide) dX8_add_10 (fun M1 hq hX9 => ?_)
  have hX := hX9 _ hX hq0
  refine m_aload C dX8_add_11 0 rfl ?_
  refine m_iconst (v := 1) C dX8_add_13 (by decide) ?_
  refine m_iload_n C dX8_add_14 rfl 3 rfl ?_
  refine m_iastR C hq (by unfold vp_in; decide) (j := 1) (by decide) dX8_add_15 (fun M1 hq hX9 => ?_)
  have hX := hX9 _ hX hq0
  refine m_aload C dX8_add_16 0 rfl ?_
  refine m_iconst (v := 4) C dX8_add_18 (by decide) ?_
  refine m_iconst (v := (-1)) C dX8_add_19 (by decide) ?_
  refine m_iastR C hq (by unfold vp_in; decide) (j := 4) (by decide) dX8_add_20 (fun M1 hq hX9 => ?_)
  have hX := hX9 _ hX hq0
  refine m_aload C dX8_add_21 0 rfl ?_
  refine m_iconst (v := 5) C dX8_add_23 (by decide) ?_
  refine m_bipush (v := 8) C dX8_add_24 (by decide) ?_
  refine m_iastR C hq (by unfold vp_in; decide) (j := 5) (by decide) dX8_add_26 (fun M1 hq hX9 => ?_)
  have hX := hX9 _ hX hq0
  refine m_iconst (v := 0) C dX8_add_27 (by decide) ?_
  refine m_istore (L' := [(5, .int 0), (4, .ref q), (0, .ref o), (1, .int so), (2, .int (nI u)), (3, .ref sq)]) C dX8_add_28 (by decide) rfl ?_
  refine m_sub (L' := [(5, .int (nI 0)), (4, .ref q), (3, .ref sq), (2, .int (nI u)), (1, .int so), (0, .ref o)]) [0, 1, 5, 4, 3, 2] rfl ?_
  refine lp_X8_add (r0 := nR so (nI u)) hk6 hs hq0 C i8 (fun M1 r hX hq hr => ?_) _ 0 _ _ rfl (Nat.zero_le _) hX hq (fun _ _ => rfl)
  have hR1 := hR.mono hX
  have hK1 := hK.sub (o := o) (qn := qn) (qc := qc) (nr := nr) (cr := cr) hX
  refine m_aload_n C dX8_add_55 rfl 5 rfl ?_
  refine m_get (ref := "PaintLayersLaw$Hand") C hR1.1 rfl i8 0 (by decide) (by decide +kernel) (fun x h => h) (v := .ref qn) rfl dX8_add_56 ?_
  refine m_aload_n C dX8_add_59 rfl 5 rfl ?_
  refine m_get (ref := "PaintLayersLaw$Hand") C hR1.1 rfl i8 2 (by decide) (by decide +kernel) (fun x h => h) (v := .int (nI c9)) rfl dX8_add_60 ?_
  refine m_aload C dX8_add_63 1 rfl ?_
  refine m_aastA C hR1.2.1 hq (vp_in_nI hc (by decide)) dX8_add_65 ?_
  rw [nI_clamp (show c9 < 2 ^ 31 by omega)]
  have hR2 := hR1.addn (n := c9) hq (nr_fresh hR hq0)
  have hK2 := (hK1.up (a := qn) (e := jAA D 40 (va_up nr c9 (some q))) (Or.inr (Or.inl rfl))).nrN (p := c9) hq0
  revert hR2 hK2
  generalize m_up M1 qn (jAA D 40 (va_up nr c9 (some q))) = M2
  intro hR2 hK2
  refine m_iload_n C dX8_add_66 rfl 3 rfl ?_
  refine m_if_lt (tgt := 86) C dX8_add_67 (by decide) (fun h_1 => ?_) (fun h_1 => ?_)
  · exact absurd h_1 (nI_pos (by omega))
  · obtain ⟨b, f, hb, hbM, hf⟩ := hR2.crow hu
    refine m_aload_n C dX8_add_70 rfl 5 rfl ?_
    refine m_aload_n C dX8_add_71 rfl 5 rfl ?_
    refine m_get (ref := "PaintLayersLaw$Hand") C hR2.1 rfl i8 2 (by decide) (by decide +kernel) (fun x h => h) (v := .int (nI c9)) rfl dX8_add_72 ?_
    refine m_iload_n C dX8_add_75 rfl 3 rfl ?_
    refine m_aload_n C dX8_add_76 rfl 5 rfl ?_
    refine m_get (ref := "PaintLayersLaw$Hand") C hR2.1 rfl i8 1 (by decide) (by decide +kernel) (fun x h => h) (v := .ref qc) rfl dX8_add_77 ?_
    refine m_iload_n C dX8_add_80 rfl 3 rfl ?_
    refine m_aaldA C hR2.2.2.1 (vp_in_nI hu (by decide)) dX8_add_81 ?_
    rw [nI_clamp (show u < 2 ^ 31 by omega), hb]
    refine m_alen C hbM 0 rfl (v := nI (K u).length) rfl dX8_add_82 ?_
    refine m_callVv (As := [.int (nI c9), .int (nI u), .int (nI (K u).length)]) (st := []) C hR2.1 rfl (c_X8_put D A l hR2 (n := c9) (u := u) hc hu (va_up_s) hl (Nat.le_refl _)) (cwV 3 C.1.2.2.2.2 gX8_add_X8_put rfl rfl rfl (by decide +kernel) ⟨Nat.le_of_ble_eq_true rfl, Nat.le_of_ble_eq_true rfl⟩) rfl rfl (Nat.le_of_ble_eq_true rfl) dX8_add_83 ⟨Nat.le_of_ble_eq_true rfl, Nat.le_of_ble_eq_true rfl⟩ (fun M3 hq3 => ?_)
    obtain ⟨cr3, hR3, hK3⟩ := hq3
    rw [upA_upA, upA_s, insL_end] at hR3
    have hK3 := hK2.tr hK3
    refine m_aload_n C dX8_add_86 rfl 5 rfl ?_
    refine m_dup C dX8_add_87 rfl ?_
    refine m_get (ref := "PaintLayersLaw$Hand") C hR3.1 rfl i8 2 (by decide) (by decide +kernel) (fun x h => h) (v := .int (nI c9)) rfl dX8_add_88 ?_
    refine m_iconst (v := 1) C dX8_add_91 (by decide) ?_
    refine m_iadd C dX8_add_92 ?_
    refine m_put (ref := "PaintLayersLaw$Hand") C hR3.1 rfl i8 tyX8 tyX8_ok nmX8 2 (by decide) (by decide +kernel) (fun x h => h) rfl rfl rfl (Nat.le_of_ble_eq_true rfl) (e' := .inr (10, [.ref qn, .ref qc, .int (nI c9 + 1), .int g, .ref qp])) rfl dX8_add_93 ?_
    rw [nI_1]
    have hR4 := hR3.sets (c9 + 1) g
    have hK4 := hK3.up (a := o) (e := .inr (10, [.ref qn, .ref qc, .int (nI (c9 + 1)), .int g, .ref qp])) (Or.inl rfl)
    refine m_aload_n C dX8_add_96 rfl 5 rfl ?_
    refine m_get (ref := "PaintLayersLaw$Hand") C hR4.1 rfl i8 2 (by decide) (by decide +kernel) (fun x h => h) (v := .int (nI (c9 + 1))) rfl dX8_add_97 ?_
    refine m_iconst (v := 1) C dX8_add_100 (by decide) ?_
    refine m_isub C dX8_add_101 ?_
    refine m_i (y := nI c9) (by rw [← nI_1, Int32.add_sub_cancel]) ?_
    exact m_iret C (Nat.le_of_ble_eq_true rfl) (Nat.le_of_ble_eq_true rfl) dX8_add_102 (⟨rfl, _, _, _, hR4, up_par hr, hK4⟩)
