/-! ===== the record: isAbove, gone, its start ===== -/
set_option maxHeartbeats 4000000 in
set_option maxRecDepth 100000 in
theorem c_X8_isAbove_m (D : mD) (A : Nat → Prop) (l : Launch) {o : Nat} {n : Int32} {M : Mm} (d : Nat) : mMi D A l yX8_isAbove wsX8_isAbove ({ frames := d, cells := 0, slots := 0, locals := 40 * (d) } : Room) [.ref o, .int n, .int ((-1))] M (fun r M' => M' = M ∧ r = 0) 0 0 := by
  refine m_start (cc := cX8_isAbove) (maxL := 3) (ret := (some .boolean)) (by decide) rfl (Nat.le_of_ble_eq_true rfl) ?_
  intro p e s m args below meth c C
  have i8 : ∀ w ∈ wsX80, w ∈ wsX8_isAbove := by decide +kernel
  refine m_sub (L' := [(0, .ref o), (1, .int n), (2, .int ((-1)))]) [0, 1, 2] rfl ?_
  refine m_iload_n C dX8_isAbove_0 rfl 2 rfl ?_
  refine m_if_lt (tgt := 29) C dX8_isAbove_1 (by decide) (fun h_1 => ?_) (fun h_1 => ?_)
  · refine m_iconst (v := 0) C dX8_isAbove_29 (by decide) ?_
    exact m_zret C (Nat.le_refl _) (Nat.le_refl _) dX8_isAbove_30 (Or.inl rfl) ⟨rfl, rfl⟩
  · exact absurd (show ((-1 : Int32) < 0) by decide) h_1
set_option maxHeartbeats 4000000 in
set_option maxRecDepth 100000 in
theorem c_X8_isAbove (D : mD) (A : Nat → Prop) (l : Launch) {o qn qc qp : Nat} {nr cr : Nat → Option Nat} {c9 : Nat} {g : Int32} {B : Nat → Nat → Int32} {K : Nat → List Nat} {M : Mm} (hR : hW D o qn qc qp nr cr c9 g B K M) {cm : Nat} {ar : rA} (hw : wf ar cm) {n : Nat} (hn : n < 40) (hB : ∀ x, cP ar cm x → ∃ a, nr x = some a ∧ B x 1 = ar 4 x) : ∀ (d x : Nat), cP ar cm x → (chn ar x).length ≤ d → mMi D A l yX8_isAbove wsX8_isAbove ({ frames := d, cells := 0, slots := 0, locals := 40 * (d) } : Room) [.ref o, .int (nI n), .int (nI x)] M (fun r M' => M' = M ∧ r = bI (decide (n ∈ chn ar x))) 0 0 := by
  intro d
  induction d with
  | zero =>
    intro x hx hd
    obtain ⟨t, t1, -⟩ := wf_at hw hx.1 hx.2
    rw [t1] at hd
    exact absurd hd (by simp)
  | succ d ih =>
    intro x hx hd
    have hcm := hw.1
    have hxc : x < 40 := by have := hx.1; omega
    obtain ⟨a, ha, h1⟩ := hB x hx
    refine m_start (cc := cX8_isAbove) (maxL := 3) (ret := (some .boolean)) (by decide) rfl (Nat.le_of_ble_eq_true rfl) ?_
    intro p e s m args below meth c C
    have i8 : ∀ w ∈ wsX80, w ∈ wsX8_isAbove := by decide +kernel
    refine m_sub (L' := [(0, .ref o), (1, .int (nI n)), (2, .int (nI x))]) [0, 1, 2] rfl ?_
    refine m_iload_n C dX8_isAbove_0 rfl 2 rfl ?_
    refine m_if_lt (tgt := 29) C dX8_isAbove_1 (by decide) (fun h_1 => ?_) (fun h_1 => ?_)
    · exact absurd h_1 (nI_pos (by omega))
    · refine m_iload_n C dX8_isAbove_4 rfl 2 rfl ?_
      refine m_iload_n C dX8_isAbove_5 rfl 1 rfl ?_
      refine m_icmp_eq (tgt := 25) C dX8_isAbove_6 (by decide) (fun h_2 => ?_) (fun h_2 => ?_)
      · have hxn : x = n := (nI_eq (by omega) (by omega)).mp h_2
        refine m_iconst (v := 1) C dX8_isAbove_25 (by decide) ?_
        refine m_goto (tgt := 30) C dX8_isAbove_26 (by decide) ?_
        exact m_zret C (Nat.le_refl _) (Nat.le_refl _) dX8_isAbove_30 (Or.inr rfl) ⟨rfl, (bI_t (decide_eq_true (by rw [← hxn]; exact wf_self hw hx.1 hx.2))).symm⟩
      · have hxn : ¬ x = n := fun z => h_2 (by rw [z])
        refine m_aload_n C dX8_isAbove_9 rfl 0 rfl ?_
        refine m_iload_n C dX8_isAbove_10 rfl 1 rfl ?_
        refine m_aload_n C dX8_isAbove_11 rfl 0 rfl ?_
        refine m_get (ref := "PaintLayersLaw$Hand") C hR.1 rfl i8 0 (by decide) (by decide +kernel) (fun x h => h) (v := .ref qn) rfl dX8_isAbove_12 ?_
        refine m_iload_n C dX8_isAbove_15 rfl 2 rfl ?_
        refine m_aaldA C hR.2.1 (vp_in_nI hxc (by decide)) dX8_isAbove_16 ?_
        rw [nI_clamp (show x < 2 ^ 31 by omega), ha]
        refine m_iconst (v := 1) C dX8_isAbove_17 (by decide) ?_
        refine m_iald C (hR.nrow hxc ha) (by unfold vp_in; decide) dX8_isAbove_18 ?_
        refine m_i (y := B x 1) (rfl) ?_
        by_cases h0 : x = 0
        · rw [show B x 1 = -1 by rw [h1, h0]; exact hw.2.1.2.2]
          refine m_callVFi (As := [.int (nI n), .int (-1)]) (st := []) C hR.1 rfl (c_X8_isAbove_m D A l d) (cwV 2 C.1.2.2.2.2 gX8_isAbove_X8_isAbove rfl rfl rfl (by decide +kernel) ⟨Nat.le_refl _, by show 8 + (3 + 11) + 40 * d ≤ 40 * (d + 1); omega⟩) rfl rfl (Nat.le_of_ble_eq_true rfl) dX8_isAbove_19 ⟨Nat.le_refl _, Nat.le_refl _⟩ ?_
          refine m_if_eq (tgt := 29) C dX8_isAbove_22 (by decide) (fun h_3 => ?_) (fun h_3 => ?_)
          · refine m_iconst (v := 0) C dX8_isAbove_29 (by decide) ?_
            exact m_zret C (Nat.le_refl _) (Nat.le_refl _) dX8_isAbove_30 (Or.inl rfl) ⟨rfl, (bI_f (decide_eq_false (by rw [h0, wf_ch0 hw, List.mem_singleton]; omega))).symm⟩
          · exact absurd rfl h_3
        · obtain ⟨c1, c2, c3⟩ := wf_chp hw hx.1 hx.2 h0
          obtain ⟨e1, e2, -⟩ := wf_place hw hx.1 hx.2 h0
          rw [show B x 1 = nI (par9 ar x) by rw [h1, e2]]
          refine m_callVFi (As := [.int (nI n), .int (nI (par9 ar x))]) (st := []) C hR.1 rfl (ih (par9 ar x) ⟨c2, c3⟩ (by rw [c1, List.length_cons] at hd; omega)) (cwV 2 C.1.2.2.2.2 gX8_isAbove_X8_isAbove rfl rfl rfl (by decide +kernel) ⟨Nat.le_refl _, by show 8 + (3 + 11) + 40 * d ≤ 40 * (d + 1); omega⟩) rfl rfl (Nat.le_of_ble_eq_true rfl) dX8_isAbove_19 ⟨Nat.le_refl _, Nat.le_refl _⟩ ?_
          refine m_if_eq (tgt := 29) C dX8_isAbove_22 (by decide) (fun h_4 => ?_) (fun h_4 => ?_)
          · refine m_iconst (v := 0) C dX8_isAbove_29 (by decide) ?_
            exact m_zret C (Nat.le_refl _) (Nat.le_refl _) dX8_isAbove_30 (Or.inl rfl) ⟨rfl, (bI_f (decide_eq_false (by rw [c1, List.mem_cons]; exact fun z => z.elim (fun y => hxn y.symm) (of_decide_eq_false (bI_z h_4))))).symm⟩
          · refine m_iconst (v := 1) C dX8_isAbove_25 (by decide) ?_
            refine m_goto (tgt := 30) C dX8_isAbove_26 (by decide) ?_
            exact m_zret C (Nat.le_refl _) (Nat.le_refl _) dX8_isAbove_30 (Or.inr rfl) ⟨rfl, (bI_t (decide_eq_true (by rw [c1, List.mem_cons]; exact Or.inr (of_decide_eq_true (bI_n h_4))))).symm⟩
set_option maxHeartbeats 4000000 in
set_option maxRecDepth 100000 in
theorem lp_X8_gone {p : Program} {l : Launch} {e : Env} {s : State} {m : MethodId} {args : Array Value} {below : List Frame} {meth : Method} {c : Code} {Q : State → Prop} {D : mD} {A : Nat → Prop} {o qn qc qp : Nat} {cr : Nat → Option Nat} {c9 : Nat} {g : Int32} {B : Nat → Nat → Int32} {K : Nat → List Nat} {cm : Nat} {ar : rA} (hw : wf ar cm) {nr : Nat → Option Nat} {M0 : Mm} {d x b : Nat} (hx : cP ar cm x) (hb : cr x = some b) (hKx : K x = kids ar x) (ih9 : ∀ i, i < (kids ar x).length → (∀ (nr : Nat → Option Nat) (M : Mm), hW D o qn qc qp nr cr c9 g B K M → mMi D A l yX8_gone wsX8_gone ({ frames := d, cells := 0, slots := 0, locals := 40 * (d) } : Room) [.ref o, .int (nI (kid ar x i))] M (fun r M' => ∃ nr', hW D o qn qc qp nr' cr c9 g B K M' ∧ hK o qn qc nr nr' cr cr M M' ∧ r = nI (pre9 ar (kid ar x i)).length ∧ ∀ y, nr' y = if y ∈ pre9 ar (kid ar x i) then none else nr y) 0 0)) (C : mC p m meth c cX8_gone 7 s args wsX8_gone yX8_gone.cls D A yX8_gone (some .int)) (i8 : ∀ w ∈ wsX80, w ∈ wsX8_gone) (kx : ∀ (nr2 : Nat → Option Nat) (M : Mm), hW D o qn qc qp nr2 cr c9 g B K M → hK o qn qc nr nr2 cr cr M0 M → (∀ y, nr2 y = if y ∈ pks ar x (kids ar x).length then none else nr y) → mV p l e ({ frames := d + 1, cells := 0, slots := 0, locals := 40 * (d + 1) } : Room) s m args below meth c 7 D A Q M 0 0 [(5, .int (nI (kids ar x).length)), (4, .int (nI (kids ar x).length)), (3, .ref b), (2, .int (nI (1 + (pks ar x (kids ar x).length).length))), (1, .int (nI x)), (0, .ref o)] [] 44) : ∀ (N : Nat) (i : Nat) (nr2 : Nat → Option Nat) (M : Mm), (kids ar x).length - i = N → (i ≤ (kids ar x).length) → (hW D o qn qc qp nr2 cr c9 g B K M) → (hK o qn qc nr nr2 cr cr M0 M) → (∀ y, nr2 y = if y ∈ pks ar x i then none else nr y) → mV p l e ({ frames := d + 1, cells := 0, slots := 0, locals := 40 * (d + 1) } : Room) s m args below meth c 7 D A Q M 0 0 [(5, .int (nI i)), (4, .int (nI (kids ar x).length)), (3, .ref b), (2, .int (nI (1 + (pks ar x i).length))), (1, .int (nI x)), (0, .ref o)] [] 16 := by
  intro N
  induction N using Nat.strongRecOn with
  | _ N ih =>
    intro i nr2 M hN hi hR hK2 hnr
    have hx4 : x < 40 := by have := hx.1; have := hw.1; omega
    obtain ⟨b2, f, hb2, hbM, hf⟩ := hR.crow hx4
    rw [hb] at hb2
    cases hb2
    rw [hKx] at hbM hf
    have hlk : (kids ar x).length = mny ar x := kids_len ar x
    have hl39 := kids_le hw hx
    refine m_iload C dX8_gone_16 0 rfl ?_
    refine m_iload C dX8_gone_18 1 rfl ?_
    refine m_icmp_ge (tgt := 44) C dX8_gone_20 (by decide) (fun h_1 => ?_) (fun h_1 => ?_)
    · have hij : i = (kids ar x).length := by
        have := (nI_leI (a := (kids ar x).length) (b := i) (by omega) (by omega)).mp h_1
        omega
      subst hij
      exact kx nr2 M hR hK2 hnr
    · have hij : i < (kids ar x).length := by
        rcases Nat.lt_or_ge i (kids ar x).length with z | z
        · exact z
        · exact absurd (nI_le (a := (kids ar x).length) (b := i) z (by omega)) h_1
      have hk9 := wf_kid hw hx.1 hx.2 (show i < mny ar x by omega)
      refine m_aload_n C dX8_gone_23 rfl 2 rfl ?_
      refine m_iload C dX8_gone_24 0 rfl ?_
      refine m_iald C hbM (vp_in_nI (hij) (by omega)) dX8_gone_26 ?_
      rw [nI_clamp (show i < 2 ^ 31 by omega)]
      rw [hf i hij, kids_at (show i < mny ar x by omega)]
      refine m_istore (L' := [(6, .int (nI (kid ar x i))), (5, .int (nI i)), (4, .int (nI (kids ar x).length)), (3, .ref b), (2, .int (nI (1 + (pks ar x i).length))), (1, .int (nI x)), (0, .ref o)]) C dX8_gone_27 (by decide) rfl ?_
      refine m_iload_n C dX8_gone_29 rfl 4 rfl ?_
      refine m_aload_n C dX8_gone_30 rfl 6 rfl ?_
      refine m_iload C dX8_gone_31 0 rfl ?_
      refine m_callVi (As := [.int (nI (kid ar x i))]) (st := [.int (nI (1 + (pks ar x i).length))]) C hR.1 rfl (ih9 i hij nr2 M hR) (cwV 1 C.1.2.2.2.2 gX8_gone_X8_gone rfl rfl rfl (by decide +kernel) ⟨Nat.le_refl _, by show 8 + (7 + 11) + 40 * d ≤ 40 * (d + 1); omega⟩) rfl rfl (Nat.le_of_ble_eq_true rfl) dX8_gone_33 ⟨Nat.le_refl _, Nat.le_refl _⟩ (fun r M3 hq3 => ?_)
      obtain ⟨nr3, hR3, hK3, hr3, hn3⟩ := hq3
      subst hr3
      refine m_iadd C dX8_gone_36 ?_
      refine m_i (y := nI (1 + (pks ar x (i + 1)).length)) (by rw [nI_add, pks_s, List.length_append, Nat.add_assoc]) ?_
      refine m_istore_n (L' := [(2, .int (nI (1 + (pks ar x (i + 1)).length))), (6, .int (nI (kid ar x i))), (5, .int (nI i)), (4, .int (nI (kids ar x).length)), (3, .ref b), (1, .int (nI x)), (0, .ref o)]) C dX8_gone_37 rfl (by decide) rfl ?_
      obtain ⟨x_2, ex_2⟩ : ∃ z : Int32, z = nI i + 1 := ⟨_, rfl⟩
      refine m_iinc (q := 2) (v := x_2) (L' := [(5, .int x_2), (2, .int (nI (1 + (pks ar x (i + 1)).length))), (6, .int (nI (kid ar x i))), (4, .int (nI (kids ar x).length)), (3, .ref b), (1, .int (nI x)), (0, .ref o)]) C dX8_gone_38 rfl (by rw [ex_2]; rfl) (by decide) rfl ?_
      refine m_goto (tgt := 16) C dX8_gone_41 (by decide) ?_
      rw [nI_1] at ex_2
      subst ex_2
      refine m_sub (L' := [(5, .int (nI (i + 1))), (4, .int (nI (kids ar x).length)), (3, .ref b), (2, .int (nI (1 + (pks ar x (i + 1)).length))), (1, .int (nI x)), (0, .ref o)]) [0, 3, 4, 1, 5, 6] rfl ?_
      refine ih ((kids ar x).length - (i + 1)) (by omega) (i + 1) nr3 M3 rfl (by omega) hR3 (hK2.tr hK3) (fun y => ?_)
      rw [hn3 y, hnr y, pks_s]
      by_cases y1 : y ∈ pre9 ar (kid ar x i) <;> by_cases y2 : y ∈ pks ar x i <;> simp [y1, y2]
set_option maxHeartbeats 4000000 in
set_option maxRecDepth 100000 in
theorem c_X8_gone (D : mD) (A : Nat → Prop) (l : Launch) {o qn qc qp : Nat} {cr : Nat → Option Nat} {c9 : Nat} {g : Int32} {B : Nat → Nat → Int32} {K : Nat → List Nat} {cm : Nat} {ar : rA} (hw : wf ar cm) {v : Nat} (hKv : ∀ x, cP ar cm x → v ∈ chn ar x → K x = kids ar x) : ∀ (d x : Nat), cP ar cm x → v ∈ chn ar x → 41 ≤ d + (chn ar x).length → (∀ (nr : Nat → Option Nat) (M : Mm), hW D o qn qc qp nr cr c9 g B K M → mMi D A l yX8_gone wsX8_gone ({ frames := d, cells := 0, slots := 0, locals := 40 * (d) } : Room) [.ref o, .int (nI x)] M (fun r M' => ∃ nr', hW D o qn qc qp nr' cr c9 g B K M' ∧ hK o qn qc nr nr' cr cr M M' ∧ r = nI (pre9 ar x).length ∧ ∀ y, nr' y = if y ∈ pre9 ar x then none else nr y) 0 0) := by
  intro d
  induction d with
  | zero =>
    intro x hx hv hd
    have := wf_chl hw hx.1 hx.2
    omega
  | succ d ih =>
    intro x hx hv hd nr M hR
    have hx4 : x < 40 := by have := hx.1; have := hw.1; omega
    have hKx := hKv x hx hv
    obtain ⟨b, f, hb, hbM, hf⟩ := hR.crow hx4
    rw [hKx] at hbM hf
    have hlk : (kids ar x).length = mny ar x := kids_len ar x
    have ih9 : ∀ i, i < (kids ar x).length → (∀ (nr : Nat → Option Nat) (M : Mm), hW D o qn qc qp nr cr c9 g B K M → mMi D A l yX8_gone wsX8_gone ({ frames := d, cells := 0, slots := 0, locals := 40 * (d) } : Room) [.ref o, .int (nI (kid ar x i))] M (fun r M' => ∃ nr', hW D o qn qc qp nr' cr c9 g B K M' ∧ hK o qn qc nr nr' cr cr M M' ∧ r = nI (pre9 ar (kid ar x i)).length ∧ ∀ y, nr' y = if y ∈ pre9 ar (kid ar x i) then none else nr y) 0 0) := fun i hi => by
      obtain ⟨k1, k2, k3, k4, k5, k6, k7, k8⟩ := wf_kid hw hx.1 hx.2 (show i < mny ar x by omega)
      exact ih (kid ar x i) ⟨k1, k2⟩ (by rw [k8]; exact List.mem_cons_of_mem _ hv) (by rw [k8, List.length_cons]; omega)
    refine m_start (cc := cX8_gone) (maxL := 7) (ret := (some .int)) (by decide) rfl (Nat.le_of_ble_eq_true rfl) ?_
    intro p e s m args below meth c C
    have i8 : ∀ w ∈ wsX80, w ∈ wsX8_gone := by decide +kernel
    refine m_sub (L' := [(0, .ref o), (1, .int (nI x))]) [0, 1] rfl ?_
    refine m_iconst (v := 1) C dX8_gone_0 (by decide) ?_
    refine m_istore_n (L' := [(2, .int 1), (0, .ref o), (1, .int (nI x))]) C dX8_gone_1 rfl (by decide) rfl ?_
    refine m_aload_n C dX8_gone_2 rfl 1 rfl ?_
    refine m_get (ref := "PaintLayersLaw$Hand") C hR.1 rfl i8 1 (by decide) (by decide +kernel) (fun x h => h) (v := .ref qc) rfl dX8_gone_3 ?_
    refine m_iload_n C dX8_gone_6 rfl 2 rfl ?_
    refine m_aaldA C hR.2.2.1 (vp_in_nI hx4 (by decide)) dX8_gone_7 ?_
    rw [nI_clamp (show x < 2 ^ 31 by omega), hb]
    refine m_astore_n (L' := [(3, .ref b), (2, .int 1), (0, .ref o), (1, .int (nI x))]) C dX8_gone_8 rfl (by decide) rfl ?_
    refine m_aload_n C dX8_gone_9 rfl 0 rfl ?_
    refine m_alen C hbM 0 rfl (v := nI (kids ar x).length) rfl dX8_gone_10 ?_
    refine m_istore (L' := [(4, .int (nI (kids ar x).length)), (3, .ref b), (2, .int 1), (0, .ref o), (1, .int (nI x))]) C dX8_gone_11 (by decide) rfl ?_
    refine m_iconst (v := 0) C dX8_gone_13 (by decide) ?_
    refine m_istore (L' := [(5, .int 0), (4, .int (nI (kids ar x).length)), (3, .ref b), (2, .int 1), (0, .ref o), (1, .int (nI x))]) C dX8_gone_14 (by decide) rfl ?_
    refine m_sub (L' := [(5, .int (nI 0)), (4, .int (nI (kids ar x).length)), (3, .ref b), (2, .int (nI (1 + (pks ar x 0).length))), (1, .int (nI x)), (0, .ref o)]) [0, 1, 2, 3, 5, 4] rfl ?_
    refine lp_X8_gone (nr := nr) (M0 := M) hw hx hb hKx ih9 C i8 (fun nr2 M2 hR2 hK2 hnr => ?_) _ 0 nr M rfl (Nat.zero_le _) hR hK.rf (fun y => by simp [pks_0])
    refine m_aload_n C dX8_gone_44 rfl 5 rfl ?_
    refine m_get (ref := "PaintLayersLaw$Hand") C hR2.1 rfl i8 0 (by decide) (by decide +kernel) (fun x h => h) (v := .ref qn) rfl dX8_gone_45 ?_
    refine m_iload_n C dX8_gone_48 rfl 4 rfl ?_
    refine m_null C dX8_gone_49 ?_
    refine m_aastAN C hR2.2.1 (vp_in_nI hx4 (by decide)) dX8_gone_50 ?_
    rw [nI_clamp (show x < 2 ^ 31 by omega)]
    have hR3 := hR2.deln x
    have hK3 := (hK2.up (a := qn) (e := jAA D 40 (va_up nr2 x none)) (Or.inr (Or.inl rfl))).nrD (p := x)
    refine m_iload_n C dX8_gone_51 rfl 3 rfl ?_
    refine m_iret C (Nat.le_refl _) (Nat.le_refl _) dX8_gone_52 ⟨_, hR3, hK3, ?_, fun y => ?_⟩
    · rw [wf_pre hw hx.1 hx.2, List.length_cons, hlk, Nat.add_comm]
    · rw [wf_pre hw hx.1 hx.2, ← hlk]
      by_cases y1 : y = x
      · rw [y1, va_up_s, if_pos List.mem_cons_self]
      · rw [va_up_n y1, hnr y]
        by_cases y2 : y ∈ pks ar x (kids ar x).length <;> simp [y1, y2]
