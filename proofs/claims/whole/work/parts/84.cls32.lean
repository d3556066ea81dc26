/-! ===== the class: extent and digest ===== -/
theorem sc_row {ar : rA} {cm n y9 : Nat} {nl : Nat → Nat → Int64} (hs : SC ar cm nl 2 y9 (fun n => q_any ar (pre9 ar n))) (hn : cP ar cm n) : (nl 2 n = 0 → ∀ x, x < 64 → q_sw ar (pre9 ar n) x y9 = false) ∧ (¬ nl 2 n = 0 → aB (fun x => q_sw ar (pre9 ar n) x y9) 64 = true) := by
  constructor
  · intro h x hx
    have := hs n hn x hx
    rw [h, bL_0] at this
    exact this.symm
  · intro h
    cases z : aB (fun x => q_sw ar (pre9 ar n) x y9) 64 with
    | true => rfl
    | false =>
      refine absurd (bL_ext (fun x hx => ?_)) h
      rw [bL_0, hs n hn x hx]
      exact aB_f.mp z x hx
theorem cB_0 {f : Nat → Bool} : ∀ k, (∀ i, i < k → f i = false) → cB f k = 0
  | 0, _ => rfl
  | k + 1, h => by rw [cB, cB_0 k (fun i hi => h i (by omega)), h k (by omega)]; rfl
set_option maxHeartbeats 4000000 in
set_option maxRecDepth 100000 in
theorem lp_X7_extent {p : Program} {l : Launch} {e : Env} {s : State} {m : MethodId} {args : Array Value} {below : List Frame} {meth : Method} {c : Code} {Q : State → Prop} {D : mD} {A : Nat → Prop} {Z : Nat → Nat} {F : Mm} {cm : Nat} {g : Int32} {ar : rA} {fi : Nat → Nat → Int32} {rw : Nat → Int32} (hw : wf ar cm) (hb : BD ar cm) (hfv : FV ar cm fi) (i_X7 : ∀ w ∈ wsX70, w ∈ wsX7_extent) (i_X3 : ∀ w ∈ wsX30, w ∈ wsX7_extent) {j w9 : Nat} (hj : cP ar cm j) (C : mC p m meth c cX7_extent 10 s args wsX7_extent yX7_extent.cls D A yX7_extent (some .int)) (kx : ∀ (co : Int64) (ls gs : Int32) (nl : Nat → Nat → Int64) (M : Mm), cS D Z F cm g ar fi nl (pre9 ar 0) rw M → (∀ x, x < 64 → bL co x = aB (q_sw ar (pre9 ar j) x) 48) → isLo (fun y => aB (fun x => q_sw ar (pre9 ar j) x y) 64) 48 ls → isHi (fun y => aB (fun x => q_sw ar (pre9 ar j) x y) 64) 48 gs → mV p l e ({ frames := 10, cells := 3, slots := 18, locals := 620 } : Room) s m args below meth c 10 D A Q M 3 18 [(4, .int (nI (dR (q_sw ar (pre9 ar j)) 64 48))), (5, .long co), (7, .int ls), (8, .int gs), (2, .int (nI w9))] [] 94) : ∀ (N : Nat) (y9 : Nat) (co : Int64) (ls : Int32) (gs : Int32) (nl : Nat → Nat → Int64) (M : Mm), 48 - y9 = N → (y9 ≤ 48) → (cS D Z F cm g ar fi nl (pre9 ar 0) rw M) → (∀ x, x < 64 → bL co x = aB (q_sw ar (pre9 ar j) x) y9) → (isLo (fun y => aB (fun x => q_sw ar (pre9 ar j) x y) 64) y9 ls) → (isHi (fun y => aB (fun x => q_sw ar (pre9 ar j) x y) 64) y9 gs) → mV p l e ({ frames := 10, cells := 3, slots := 18, locals := 620 } : Room) s m args below meth c 10 D A Q M 3 18 [(9, .int (nI y9)), (4, .int (nI (dR (q_sw ar (pre9 ar j)) 64 y9))), (5, .long co), (7, .int ls), (8, .int gs), (3, .ref (Z (100 + j))), (2, .int (nI w9)), (0, .ref (Z 0))] [] 26 := by
  intro N
  induction N using Nat.strongRecOn with
  | _ N ih =>
    intro y9 co ls gs nl M hN hk hR hco hls hgs
    have hdr := dR_le (q_sw ar (pre9 ar j)) 64 y9
    refine m_iload C dX7_extent_26 0 rfl ?_
    refine m_bipush (v := 48) C dX7_extent_28 (by decide) ?_
    refine m_icmp_ge (tgt := 94) C dX7_extent_30 (by decide) (fun h_1 => ?_) (fun h_1 => ?_)
    · refine m_sub (L' := [(4, .int (nI (dR (q_sw ar (pre9 ar j)) 64 y9))), (5, .long co), (7, .int ls), (8, .int gs), (2, .int (nI w9))]) [1, 2, 3, 4, 6] rfl ?_
      have hkm : y9 = 48 := by
        have := (nI_leI (a := 48) (b := y9) (by omega) (by omega)).mp h_1
        omega
      subst hkm
      exact kx co ls gs nl M hR hco hls hgs
    · have hkm : y9 < 48 := by
        rcases Nat.lt_or_ge y9 48 with z | z
        · exact z
        · exact absurd (nI_le (a := 48) (b := y9) z (by omega)) h_1
      have hy9 := hkm
      refine m_aload_n C dX7_extent_33 rfl 7 rfl ?_
      refine m_iload C dX7_extent_34 0 rfl ?_
      refine m_callVv (As := [.int (nI y9)]) (st := []) C hR.me rfl (c_X7_scanRow D A l hR hw hb hfv hy9) (cwV 1 C.1.2.2.2.2 gX7_extent_X7_scanRow rfl rfl rfl (by decide +kernel) ⟨Nat.le_of_ble_eq_true rfl, Nat.le_of_ble_eq_true rfl⟩) rfl rfl (Nat.le_of_ble_eq_true rfl) dX7_extent_36 ⟨Nat.le_of_ble_eq_true rfl, Nat.le_of_ble_eq_true rfl⟩ (fun M1 hq1 => ?_)
      obtain ⟨m1, hR1, hs1⟩ := hq1
      rename cS D Z F cm g ar fi m1 (pre9 ar 0) rw M1 => hR
      have hrow := sc_row hs1 hj
      refine m_aload_n C dX7_extent_39 rfl 5 rfl ?_
      refine m_get (ref := "PaintLayers$Node") C (hR.nd hj) rfl i_X3 18 (by decide) (by decide +kernel) (fun x h => h) (v := .long (m1 2 j)) rfl dX7_extent_40 ?_
      refine m_lconst (v := 0) C dX7_extent_43 rfl ?_
      refine m_lcmp C dX7_extent_44 ?_
      refine m_if_eq (tgt := 88) C dX7_extent_45 (by decide) (fun h_2 => ?_) (fun h_2 => ?_)
      · have hz := hrow.1 (lg_c0.mp h_2)
        obtain ⟨x_3, ex_3⟩ : ∃ z : Int32, z = nI y9 + 1 := ⟨_, rfl⟩
        refine m_iinc (q := 0) (v := x_3) (L' := [(9, .int x_3), (4, .int (nI (dR (q_sw ar (pre9 ar j)) 64 y9))), (5, .long co), (7, .int ls), (8, .int gs), (3, .ref (Z (100 + j))), (2, .int (nI w9)), (0, .ref (Z 0))]) C dX7_extent_88 rfl (by rw [ex_3]; rfl) (by decide) rfl ?_
        refine m_goto (tgt := 26) C dX7_extent_91 (by decide) ?_
        have hd9 : nI (dR (q_sw ar (pre9 ar j)) 64 (y9 + 1)) = nI (dR (q_sw ar (pre9 ar j)) 64 y9) := by rw [dR, cB_0 64 (fun x hx => hz x hx)]; rfl
        rw [← hd9]
        rw [nI_1] at ex_3
        subst ex_3
        refine m_sub (L' := [(9, .int (nI (y9 + 1))), (4, .int (nI (dR (q_sw ar (pre9 ar j)) 64 (y9 + 1)))), (5, .long co), (7, .int ls), (8, .int gs), (3, .ref (Z (100 + j))), (2, .int (nI w9)), (0, .ref (Z 0))]) [0, 1, 2, 3, 4, 5, 6, 7] rfl ?_
        exact ih (48 - (y9 + 1)) (by omega) (y9 + 1) _ _ _ m1 M1 rfl (by omega) hR (fun x hx => by rw [aB, hz x hx, Bool.or_false]; exact hco x hx) (isLo_no hls (aB_f.mpr (fun x hx => hz x hx))) (isHi_no hgs (aB_f.mpr (fun x hx => hz x hx)))
      · have hz := hrow.2 (fun z => h_2 (lg_c0.mpr z))
        refine m_iload C dX7_extent_48 1 rfl ?_
        refine m_aload_n C dX7_extent_50 rfl 5 rfl ?_
        refine m_get (ref := "PaintLayers$Node") C (hR.nd hj) rfl i_X3 18 (by decide) (by decide +kernel) (fun x h => h) (v := .long (m1 2 j)) rfl dX7_extent_51 ?_
        refine m_callSFi (As := [.long (m1 2 j)]) (st := [.int (nI (dR (q_sw ar (pre9 ar j)) 64 y9))]) (v := nI (cB (bL (m1 2 j)) 64)) C (c_J13_bitCount_95d88 D A l) (va_cwS 1 C.1.2.2.2.2 gX7_extent_J13_bitCount_95d88 rfl rfl rfl (by decide +kernel) ⟨Nat.le_of_ble_eq_true rfl, Nat.le_of_ble_eq_true rfl⟩) rfl rfl (Nat.le_of_ble_eq_true rfl) dX7_extent_54 ⟨Nat.le_of_ble_eq_true rfl, Nat.le_of_ble_eq_true rfl⟩ ?_
        rw [cB_ext (g := fun x => q_sw ar (pre9 ar j) x y9) 64 (fun x hx => hs1 j hj x hx)]
        refine m_iadd C dX7_extent_57 ?_
        refine m_i (y := nI (dR (q_sw ar (pre9 ar j)) 64 (y9 + 1))) (nI_add _ _) ?_
        refine m_istore (L' := [(4, .int (nI (dR (q_sw ar (pre9 ar j)) 64 (y9 + 1)))), (9, .int (nI y9)), (5, .long co), (7, .int ls), (8, .int gs), (3, .ref (Z (100 + j))), (2, .int (nI w9)), (0, .ref (Z 0))]) C dX7_extent_58 (by decide) rfl ?_
        refine m_lload C dX7_extent_60 2 rfl ?_
        refine m_aload_n C dX7_extent_62 rfl 5 rfl ?_
        refine m_get (ref := "PaintLayers$Node") C (hR.nd hj) rfl i_X3 18 (by decide) (by decide +kernel) (fun x h => h) (v := .long (m1 2 j)) rfl dX7_extent_63 ?_
        refine m_lor C dX7_extent_66 ?_
        refine m_lstore (L' := [(5, .long (co ||| (m1 2 j))), (4, .int (nI (dR (q_sw ar (pre9 ar j)) 64 (y9 + 1)))), (9, .int (nI y9)), (7, .int ls), (8, .int gs), (3, .ref (Z (100 + j))), (2, .int (nI w9)), (0, .ref (Z 0))]) C dX7_extent_67 (by decide) rfl ?_
        refine m_iload C dX7_extent_69 3 rfl ?_
        refine m_iconst (v := (-1)) C dX7_extent_71 (by decide) ?_
        refine m_icmp_ne (tgt := 80) C dX7_extent_72 (by decide) (fun h_4 => ?_) (fun h_4 => ?_)
        · have el : (if ls = -1 then nI y9 else ls) = ls := if_neg h_4
          refine m_iload C dX7_extent_80 3 rfl ?_
          refine m_istore (L' := [(7, .int ls), (5, .long (co ||| (m1 2 j))), (4, .int (nI (dR (q_sw ar (pre9 ar j)) 64 (y9 + 1)))), (9, .int (nI y9)), (8, .int gs), (3, .ref (Z (100 + j))), (2, .int (nI w9)), (0, .ref (Z 0))]) C dX7_extent_82 (by decide) rfl ?_
          refine m_iload C dX7_extent_84 3 rfl ?_
          refine m_istore (L' := [(8, .int (nI y9)), (7, .int ls), (5, .long (co ||| (m1 2 j))), (4, .int (nI (dR (q_sw ar (pre9 ar j)) 64 (y9 + 1)))), (9, .int (nI y9)), (3, .ref (Z (100 + j))), (2, .int (nI w9)), (0, .ref (Z 0))]) C dX7_extent_86 (by decide) rfl ?_
          obtain ⟨x_5, ex_5⟩ : ∃ z : Int32, z = nI y9 + 1 := ⟨_, rfl⟩
          refine m_iinc (q := 4) (v := x_5) (L' := [(9, .int x_5), (8, .int (nI y9)), (7, .int ls), (5, .long (co ||| (m1 2 j))), (4, .int (nI (dR (q_sw ar (pre9 ar j)) 64 (y9 + 1)))), (3, .ref (Z (100 + j))), (2, .int (nI w9)), (0, .ref (Z 0))]) C dX7_extent_88 rfl (by rw [ex_5]; rfl) (by decide) rfl ?_
          refine m_goto (tgt := 26) C dX7_extent_91 (by decide) ?_
          have hd9 : nI (dR (q_sw ar (pre9 ar j)) 64 (y9 + 1)) = nI (dR (q_sw ar (pre9 ar j)) 64 (y9 + 1)) := rfl
          rw [← hd9]
          rw [nI_1] at ex_5
          subst ex_5
          refine m_sub (L' := [(9, .int (nI (y9 + 1))), (4, .int (nI (dR (q_sw ar (pre9 ar j)) 64 (y9 + 1)))), (5, .long (co ||| (m1 2 j))), (7, .int ls), (8, .int (nI y9)), (3, .ref (Z (100 + j))), (2, .int (nI w9)), (0, .ref (Z 0))]) [0, 4, 3, 2, 1, 5, 6, 7] rfl ?_
          exact ih (48 - (y9 + 1)) (by omega) (y9 + 1) _ _ _ m1 M1 rfl (by omega) hR (fun x hx => by rw [bL_or, hco x hx, hs1 j hj x hx]; rfl) (by rw [← el]; exact isLo_yes hls hz (by omega)) (isHi_yes hz)
        · have el : (if ls = -1 then nI y9 else ls) = nI y9 := if_pos (by first | exact h_4 | exact Decidable.not_not.mp h_4)
          refine m_iload C dX7_extent_75 2 rfl ?_
          refine m_goto (tgt := 82) C dX7_extent_77 (by decide) ?_
          refine m_istore (L' := [(7, .int (nI y9)), (5, .long (co ||| (m1 2 j))), (4, .int (nI (dR (q_sw ar (pre9 ar j)) 64 (y9 + 1)))), (9, .int (nI y9)), (8, .int gs), (3, .ref (Z (100 + j))), (2, .int (nI w9)), (0, .ref (Z 0))]) C dX7_extent_82 (by decide) rfl ?_
          refine m_iload C dX7_extent_84 3 rfl ?_
          refine m_istore (L' := [(8, .int (nI y9)), (7, .int (nI y9)), (5, .long (co ||| (m1 2 j))), (4, .int (nI (dR (q_sw ar (pre9 ar j)) 64 (y9 + 1)))), (9, .int (nI y9)), (3, .ref (Z (100 + j))), (2, .int (nI w9)), (0, .ref (Z 0))]) C dX7_extent_86 (by decide) rfl ?_
          obtain ⟨x_6, ex_6⟩ : ∃ z : Int32, z = nI y9 + 1 := ⟨_, rfl⟩
          refine m_iinc (q := 4) (v := x_6) (L' := [(9, .int x_6), (8, .int (nI y9)), (7, .int (nI y9)), (5, .long (co ||| (m1 2 j))), (4, .int (nI (dR (q_sw ar (pre9 ar j)) 64 (y9 + 1)))), (3, .ref (Z (100 + j))), (2, .int (nI w9)), (0, .ref (Z 0))]) C dX7_extent_88 rfl (by rw [ex_6]; rfl) (by decide) rfl ?_
          refine m_goto (tgt := 26) C dX7_extent_91 (by decide) ?_
          have hd9 : nI (dR (q_sw ar (pre9 ar j)) 64 (y9 + 1)) = nI (dR (q_sw ar (pre9 ar j)) 64 (y9 + 1)) := rfl
          rw [← hd9]
          rw [nI_1] at ex_6
          subst ex_6
          refine m_sub (L' := [(9, .int (nI (y9 + 1))), (4, .int (nI (dR (q_sw ar (pre9 ar j)) 64 (y9 + 1)))), (5, .long (co ||| (m1 2 j))), (7, .int (nI y9)), (8, .int (nI y9)), (3, .ref (Z (100 + j))), (2, .int (nI w9)), (0, .ref (Z 0))]) [0, 4, 3, 2, 1, 5, 6, 7] rfl ?_
          exact ih (48 - (y9 + 1)) (by omega) (y9 + 1) _ _ _ m1 M1 rfl (by omega) hR (fun x hx => by rw [bL_or, hco x hx, hs1 j hj x hx]; rfl) (by rw [← el]; exact isLo_yes hls hz (by omega)) (isHi_yes hz)
set_option maxHeartbeats 4000000 in
set_option maxRecDepth 100000 in
theorem c_X7_extent (D : mD) (A : Nat → Prop) (l : Launch) (hst : l.stackTraces = false) {Z : Nat → Nat} {F : Mm} {cm : Nat} {g : Int32} {ar : rA} {M : Mm} (hI : cI D Z F cm g ar M) (hw : wf ar cm) (hb : BD ar cm) {v w : Int32} : mXi D A l yX7_extent wsX7_extent ({ frames := 10, cells := 3, slots := 18, locals := 620 } : Room) [.ref (Z 0), .int v, .int w] M (fun r M' => k_extent cm ar v w = 0 ∧ r = v_extent ar v w ∧ cI D Z F cm g ar M') (fun E M' => cI D Z F cm g ar M' ∧ ((k_extent cm ar v w = 1 ∧ E = xIO))) 3 18 := by
  refine m_startX (cc := cX7_extent) (maxL := 10) (ret := (some .int)) (by decide) rfl (Nat.le_of_ble_eq_true rfl) ?_
  intro p e s m args below meth c C hE
  have i_X7 : ∀ w ∈ wsX70, w ∈ wsX7_extent := by decide +kernel
  have i_X3 : ∀ w ∈ wsX30, w ∈ wsX7_extent := by decide +kernel
  refine m_sub (L' := [(0, .ref (Z 0)), (1, .int v), (2, .int w)]) [0, 1, 2] rfl ?_
  have hcm := hw.1.2
  have hI9 := hI
  obtain ⟨fi, nl, rw, hfv, hR⟩ := hI9
  refine m_aload_n C dX7_extent_0 rfl 0 rfl ?_
  refine m_iload_n C dX7_extent_1 rfl 1 rfl ?_
  refine m_callVXq (As := [.int v]) (st := []) C hR.me rfl (c_X7_find D A l hst hR hcm) (cwV 1 C.1.2.2.2.2 gX7_extent_X7_find rfl rfl rfl (by decide +kernel) ⟨Nat.le_of_ble_eq_true rfl, Nat.le_of_ble_eq_true rfl⟩) rfl rfl (Nat.le_of_ble_eq_true rfl) dX7_extent_2 ⟨Nat.le_of_ble_eq_true rfl, Nat.le_of_ble_eq_true rfl⟩ hE (fun E M9 z9 => ⟨by rw [z9.2.1]; exact hI, ⟨by unfold k_extent; rw [z9.2.2]; rfl, z9.1⟩⟩) (Nat.le_of_ble_eq_true rfl) (Nat.le_of_ble_eq_true rfl) (fun r9 M9 hq9 => ?_)
  obtain ⟨e9, j, rfl, hj, rfl⟩ := hq9
  subst e9
  rename Mm => M
  have qj := q_node_t hcm hj
  have cj : jN (nI j) = j := nI_clamp (by have := hj.1; omega)
  refine m_astore_n (L' := [(3, .ref (Z (100 + j))), (0, .ref (Z 0)), (1, .int (nI j)), (2, .int w)]) C dX7_extent_5 rfl (by decide) rfl ?_
  refine m_iload_n C dX7_extent_6 rfl 3 rfl ?_
  refine m_iconst (v := 5) C dX7_extent_7 (by decide) ?_
  refine m_callSXv (As := [.int w, .int 5]) (st := []) C (c_X7_checkIndex D A l hst) (va_cwS 2 C.1.2.2.2.2 gX7_extent_X7_checkIndex rfl rfl rfl (by decide +kernel) ⟨Nat.le_of_ble_eq_true rfl, Nat.le_of_ble_eq_true rfl⟩) rfl rfl (Nat.le_of_ble_eq_true rfl) dX7_extent_8 ⟨Nat.le_of_ble_eq_true rfl, Nat.le_of_ble_eq_true rfl⟩ hE (fun E M9 z9 => ⟨by rw [z9.2.1]; exact hI, ⟨by unfold k_extent; rw [← show okI w 5 = q_in w 0 4 from okI_in (m := 5) (by decide) (by decide) w, z9.2.2, Bool.and_false]; rfl, z9.1⟩⟩) (Nat.le_of_ble_eq_true rfl) (Nat.le_of_ble_eq_true rfl) (fun M9 hq9 => ?_)
  obtain ⟨e9, hok⟩ := hq9
  subst e9
  rename Mm => M
  rw [show okI w 5 = q_in w 0 4 from okI_in (m := 5) (by decide) (by decide) w] at hok
  have hk0 : k_extent cm ar (nI j) w = 0 := by unfold k_extent; rw [qj, hok]; rfl
  obtain ⟨w9, hw9, rfl⟩ := q_in_N (a := 4) (by decide) hok
  refine m_iconst (v := 0) C dX7_extent_11 (by decide) ?_
  refine m_istore (L' := [(4, .int 0), (3, .ref (Z (100 + j))), (0, .ref (Z 0)), (1, .int (nI j)), (2, .int (nI w9))]) C dX7_extent_12 (by decide) rfl ?_
  refine m_lconst (v := 0) C dX7_extent_14 rfl ?_
  refine m_lstore (L' := [(5, .long 0), (4, .int 0), (3, .ref (Z (100 + j))), (0, .ref (Z 0)), (1, .int (nI j)), (2, .int (nI w9))]) C dX7_extent_15 (by decide) rfl ?_
  refine m_iconst (v := (-1)) C dX7_extent_17 (by decide) ?_
  refine m_istore (L' := [(7, .int ((-1))), (5, .long 0), (4, .int 0), (3, .ref (Z (100 + j))), (0, .ref (Z 0)), (1, .int (nI j)), (2, .int (nI w9))]) C dX7_extent_18 (by decide) rfl ?_
  refine m_iconst (v := (-1)) C dX7_extent_20 (by decide) ?_
  refine m_istore (L' := [(8, .int ((-1))), (7, .int ((-1))), (5, .long 0), (4, .int 0), (3, .ref (Z (100 + j))), (0, .ref (Z 0)), (1, .int (nI j)), (2, .int (nI w9))]) C dX7_extent_21 (by decide) rfl ?_
  refine m_iconst (v := 0) C dX7_extent_23 (by decide) ?_
  refine m_istore (L' := [(9, .int 0), (8, .int ((-1))), (7, .int ((-1))), (5, .long 0), (4, .int 0), (3, .ref (Z (100 + j))), (0, .ref (Z 0)), (1, .int (nI j)), (2, .int (nI w9))]) C dX7_extent_24 (by decide) rfl ?_
  refine m_sub (L' := [(9, .int 0), (4, .int 0), (5, .long 0), (7, .int ((-1))), (8, .int ((-1))), (3, .ref (Z (100 + j))), (2, .int (nI w9)), (0, .ref (Z 0))]) [0, 4, 3, 2, 1, 5, 8, 6] rfl ?_
  refine m_widen (k' := 3) (n' := 18) (Nat.le_of_ble_eq_true rfl) (Nat.le_of_ble_eq_true rfl) ?_
  refine lp_X7_extent hw hb hfv i_X7 i_X3 hj C (fun co ls gs nl9 M9 hR9 hco hls hgs => ?_) _ 0 0 (-1) (-1) nl M rfl (Nat.zero_le _) hR (fun x hx => bL_0 x) (Or.inl ⟨fun i hi => absurd hi (Nat.not_lt_zero i), rfl⟩) (Or.inl ⟨fun i hi => absurd hi (Nat.not_lt_zero i), rfl⟩)
  obtain ⟨⟨x0, x1, x2⟩, x3, x4⟩ := ext_r ar (pre9 ar j)
  rcases (show w9 = 0 ∨ w9 = 1 ∨ w9 = 2 ∨ w9 = 3 ∨ w9 = 4 by omega) with rfl | rfl | rfl | rfl | rfl
  · refine m_iload_n C dX7_extent_94 rfl 4 rfl ?_
    refine m_tableIn (tgt := 124) C dX7_extent_95 (by decide) (by decide) rfl (by decide) ?_
    refine m_iload C dX7_extent_124 0 rfl ?_
    exact m_iretX C (Nat.le_of_ble_eq_true rfl) (Nat.le_of_ble_eq_true rfl) dX7_extent_126 (⟨hk0, by unfold v_extent; rw [cj, show jN (nI 0) = 0 from rfl]; exact x0.symm, fi, nl9, rw, hfv, hR9⟩)
  · refine m_iload_n C dX7_extent_94 rfl 4 rfl ?_
    refine m_tableIn (tgt := 127) C dX7_extent_95 (by decide) (by decide) rfl (by decide) ?_
    refine m_lload C dX7_extent_127 1 rfl ?_
    refine m_callSFi (As := [.long co]) (st := []) (v := q_lo (bL co) 64) C (c_X7_lowestBit D A l) (va_cwS 1 C.1.2.2.2.2 gX7_extent_X7_lowestBit rfl rfl rfl (by decide +kernel) ⟨Nat.le_of_ble_eq_true rfl, Nat.le_of_ble_eq_true rfl⟩) rfl rfl (Nat.le_of_ble_eq_true rfl) dX7_extent_129 ⟨Nat.le_of_ble_eq_true rfl, Nat.le_of_ble_eq_true rfl⟩ ?_
    exact m_iretX C (Nat.le_of_ble_eq_true rfl) (Nat.le_of_ble_eq_true rfl) dX7_extent_132 (⟨hk0, by unfold v_extent; rw [cj, show jN (nI 1) = 1 from rfl]; exact isLo_u (isLo_cg (fun x hx => hco x hx) (q_lo_is (bL co))) x1, fi, nl9, rw, hfv, hR9⟩)
  · refine m_iload_n C dX7_extent_94 rfl 4 rfl ?_
    refine m_tableIn (tgt := 133) C dX7_extent_95 (by decide) (by decide) rfl (by decide) ?_
    refine m_lload C dX7_extent_133 1 rfl ?_
    refine m_callSFi (As := [.long co]) (st := []) (v := q_hi (bL co) 64) C (c_X7_highestBit D A l) (va_cwS 1 C.1.2.2.2.2 gX7_extent_X7_highestBit rfl rfl rfl (by decide +kernel) ⟨Nat.le_of_ble_eq_true rfl, Nat.le_of_ble_eq_true rfl⟩) rfl rfl (Nat.le_of_ble_eq_true rfl) dX7_extent_135 ⟨Nat.le_of_ble_eq_true rfl, Nat.le_of_ble_eq_true rfl⟩ ?_
    exact m_iretX C (Nat.le_of_ble_eq_true rfl) (Nat.le_of_ble_eq_true rfl) dX7_extent_138 (⟨hk0, by unfold v_extent; rw [cj, show jN (nI 2) = 2 from rfl]; exact isHi_u (isHi_cg (fun x hx => hco x hx) (q_hi_is (bL co) 64)) x2, fi, nl9, rw, hfv, hR9⟩)
  · refine m_iload_n C dX7_extent_94 rfl 4 rfl ?_
    refine m_tableIn (tgt := 139) C dX7_extent_95 (by decide) (by decide) rfl (by decide) ?_
    refine m_iload C dX7_extent_139 2 rfl ?_
    exact m_iretX C (Nat.le_of_ble_eq_true rfl) (Nat.le_of_ble_eq_true rfl) dX7_extent_141 (⟨hk0, by unfold v_extent; rw [cj, show jN (nI 3) = 3 from rfl]; exact isLo_u hls x3, fi, nl9, rw, hfv, hR9⟩)
  · refine m_iload_n C dX7_extent_94 rfl 4 rfl ?_
    refine m_tableOut (tgt := 142) C dX7_extent_95 (by decide) (by decide) ?_
    refine m_iload C dX7_extent_142 3 rfl ?_
    exact m_iretX C (Nat.le_of_ble_eq_true rfl) (Nat.le_of_ble_eq_true rfl) dX7_extent_144 (⟨hk0, by unfold v_extent; rw [cj, show jN (nI 4) = 4 from rfl]; exact isHi_u hgs x4, fi, nl9, rw, hfv, hR9⟩)
theorem dga_out {ar : rA} {cm : Nat} (hw : wf ar cm) (d : Int64) : ∀ k, q_dga ar d (cm + k) = q_dga ar d cm
  | 0 => rfl
  | k + 1 => by
    show (if ar 2 (cm + k) = 0 then q_dga ar d (cm + k) else _) = _
    rw [if_pos (hw.2.2.2.2.2 (cm + k) (by omega)).1, dga_out hw d k]
theorem dga_no {ar : rA} {cm n : Nat} (hw : wf ar cm) (d : Int64) (h : ¬ cP ar cm n) : q_dga ar d (n + 1) = q_dga ar d n := by
  have h2 : ar 2 n = 0 := by
    rcases Nat.lt_or_ge n cm with z | z
    · exact Decidable.not_not.mp (fun y => h ⟨z, y⟩)
    · exact (hw.2.2.2.2.2 n z).1
  show (if ar 2 n = 0 then q_dga ar d n else _) = _
  rw [if_pos h2]
theorem dga_s {ar : rA} {cm n : Nat} (d : Int64) (h : cP ar cm n) : q_dga ar d (n + 1) = q_dgn ar n (q_dga ar d n * 31 + (nI n).toInt64) 13 := by
  show (if ar 2 n = 0 then q_dga ar d n else _) = _
  rw [if_neg h.2]
set_option maxHeartbeats 4000000 in
set_option maxRecDepth 100000 in
theorem lp_X7_digest1 {p : Program} {l : Launch} {e : Env} {s : State} {m : MethodId} {args : Array Value} {below : List Frame} {meth : Method} {c : Code} {Q : State → Prop} {D : mD} {A : Nat → Prop} {Z : Nat → Nat} {F : Mm} {cm : Nat} {g : Int32} {ar : rA} {fi : Nat → Nat → Int32} {nl : Nat → Nat → Int64} {rw : Nat → Int32} {M : Mm} (hR : cS D Z F cm g ar fi nl (pre9 ar 0) rw M) (hw : wf ar cm) (hb : BD ar cm) (hfv : FV ar cm fi) (i_X7 : ∀ w ∈ wsX70, w ∈ wsX7_digest) (i_X3 : ∀ w ∈ wsX30, w ∈ wsX7_digest) {n9 : Nat} {d0 : Int64} (hn9 : cP ar cm n9) (C : mC p m meth c cX7_digest 6 s args wsX7_digest yX7_digest.cls D A yX7_digest (some .long)) (kx : mV p l e ({ frames := 10, cells := 0, slots := 0, locals := 620 } : Room) s m args below meth c 6 D A Q M 0 0 [(1, .long (q_dgn ar n9 d0 13)), (3, .int (nI n9)), (0, .ref (Z 0))] [] 96) : ∀ (N : Nat) (w9 : Nat), 13 - w9 = N → (w9 ≤ 13) → mV p l e ({ frames := 10, cells := 0, slots := 0, locals := 620 } : Room) s m args below meth c 6 D A Q M 0 0 [(5, .int (nI w9)), (1, .long (q_dgn ar n9 d0 w9)), (4, .ref (Z (100 + n9))), (3, .int (nI n9)), (0, .ref (Z 0))] [] 68 := by
  intro N
  induction N using Nat.strongRecOn with
  | _ N ih =>
    intro w9 hN hk
    refine m_iload C dX7_digest_68 0 rfl ?_
    refine m_bipush (v := 12) C dX7_digest_70 (by decide) ?_
    refine m_icmp_gt (tgt := 96) C dX7_digest_72 (by decide) (fun h_1 => ?_) (fun h_1 => ?_)
    · refine m_sub (L' := [(1, .long (q_dgn ar n9 d0 w9)), (3, .int (nI n9)), (0, .ref (Z 0))]) [1, 3, 4] rfl ?_
      have hkm : w9 = 13 := by
        rcases Nat.lt_or_ge 12 w9 with z | z
        · omega
        · exact absurd h_1 (nI_nlt (a := 12) (b := w9) (by omega) (by omega))
      subst hkm
      exact kx
    · have hkm : w9 < 13 := by
        rcases Nat.lt_or_ge w9 13 with z | z
        · exact z
        · exact absurd (nI_lt (a := 12) (b := w9) (by omega) (by omega)) h_1
      refine m_lload_n C dX7_digest_75 rfl 1 rfl ?_
      refine m_ldc2l (index := 219) (v := 31) C (by decide +kernel) dX7_digest_76 ?_
      refine m_lmul C dX7_digest_79 ?_
      refine m_aload C dX7_digest_80 2 rfl ?_
      refine m_iload C dX7_digest_82 0 rfl ?_
      refine m_callSFi (As := [.ref (Z (100 + n9)), .int (nI w9)]) (st := [.long ((q_dgn ar n9 d0 w9) * 31)]) (v := q_tld ar (chn ar n9) (plc ar n9) n9 w9) C (c_X7_detail D A l hR hw hb hfv hn9 hkm) (va_cwS 2 C.1.2.2.2.2 gX7_digest_X7_detail rfl rfl rfl (by decide +kernel) ⟨Nat.le_of_ble_eq_true rfl, Nat.le_of_ble_eq_true rfl⟩) rfl rfl (Nat.le_of_ble_eq_true rfl) dX7_digest_84 ⟨Nat.le_of_ble_eq_true rfl, Nat.le_of_ble_eq_true rfl⟩ ?_
      refine m_i2l C dX7_digest_87 rfl ?_
      refine m_ladd C dX7_digest_88 ?_
      refine m_l (y := q_dgn ar n9 d0 (w9 + 1)) (rfl) ?_
      refine m_lstore_n (L' := [(1, .long (q_dgn ar n9 d0 (w9 + 1))), (5, .int (nI w9)), (4, .ref (Z (100 + n9))), (3, .int (nI n9)), (0, .ref (Z 0))]) C dX7_digest_89 rfl (by decide) rfl ?_
      obtain ⟨x_2, ex_2⟩ : ∃ z : Int32, z = nI w9 + 1 := ⟨_, rfl⟩
      refine m_iinc (q := 1) (v := x_2) (L' := [(5, .int x_2), (1, .long (q_dgn ar n9 d0 (w9 + 1))), (4, .ref (Z (100 + n9))), (3, .int (nI n9)), (0, .ref (Z 0))]) C dX7_digest_90 rfl (by rw [ex_2]; rfl) (by decide) rfl ?_
      refine m_goto (tgt := 68) C dX7_digest_93 (by decide) ?_
      rw [nI_1] at ex_2
      subst ex_2
      refine m_sub (L' := [(5, .int (nI (w9 + 1))), (1, .long (q_dgn ar n9 d0 (w9 + 1))), (4, .ref (Z (100 + n9))), (3, .int (nI n9)), (0, .ref (Z 0))]) [0, 1, 2, 3, 4] rfl ?_
      exact ih (13 - (w9 + 1)) (by omega) (w9 + 1) rfl (by omega)
set_option maxHeartbeats 4000000 in
set_option maxRecDepth 100000 in
theorem lp_X7_digest2 {p : Program} {l : Launch} {e : Env} {s : State} {m : MethodId} {args : Array Value} {below : List Frame} {meth : Method} {c : Code} {Q : State → Prop} {D : mD} {A : Nat → Prop} {Z : Nat → Nat} {F : Mm} {cm : Nat} {g : Int32} {ar : rA} {fi : Nat → Nat → Int32} {nl : Nat → Nat → Int64} {rw : Nat → Int32} {M : Mm} (hR : cS D Z F cm g ar fi nl (pre9 ar 0) rw M) (hw : wf ar cm) (hb : BD ar cm) (hfv : FV ar cm fi) (i_X7 : ∀ w ∈ wsX70, w ∈ wsX7_digest) (i_X3 : ∀ w ∈ wsX30, w ∈ wsX7_digest) {d0 : Int64} (C : mC p m meth c cX7_digest 6 s args wsX7_digest yX7_digest.cls D A yX7_digest (some .long)) (kx : mV p l e ({ frames := 10, cells := 0, slots := 0, locals := 620 } : Room) s m args below meth c 6 D A Q M 0 0 [(1, .long (q_dga ar d0 40)), (0, .ref (Z 0))] [] 102) : ∀ (N : Nat) (n9 : Nat), 40 - n9 = N → (n9 ≤ 40) → mV p l e ({ frames := 10, cells := 0, slots := 0, locals := 620 } : Room) s m args below meth c 6 D A Q M 0 0 [(3, .int (nI n9)), (1, .long (q_dga ar d0 n9)), (0, .ref (Z 0))] [] 33 := by
  intro N
  induction N using Nat.strongRecOn with
  | _ N ih =>
    intro n9 hN hk
    refine m_iload_n C dX7_digest_33 rfl 0 rfl ?_
    refine m_bipush (v := 40) C dX7_digest_34 (by decide) ?_
    refine m_icmp_ge (tgt := 102) C dX7_digest_36 (by decide) (fun h_1 => ?_) (fun h_1 => ?_)
    · refine m_sub (L' := [(1, .long (q_dga ar d0 n9)), (0, .ref (Z 0))]) [1, 2] rfl ?_
      have hkm : n9 = 40 := by
        have := (nI_leI (a := 40) (b := n9) (by omega) (by omega)).mp h_1
        omega
      subst hkm
      exact kx
    · have hkm : n9 < 40 := by
        rcases Nat.lt_or_ge n9 40 with z | z
        · exact z
        · exact absurd (nI_le (a := 40) (b := n9) z (by omega)) h_1
      refine m_aload_n C dX7_digest_39 rfl 2 rfl ?_
      refine m_get (ref := "PaintLayers") C hR.me rfl i_X7 0 (by decide) (by decide +kernel) (fun x h => h) (v := .ref (Z 1)) rfl dX7_digest_40 ?_
      refine m_iload_n C dX7_digest_43 rfl 0 rfl ?_
      refine m_aald C hR.1.gna 2 rfl (vp_in_nI hkm (by omega)) dX7_digest_44 ?_
      rw [nI_clamp (show n9 < 2 ^ 31 by omega)]
      by_cases hjp : cP ar cm n9
      · rw [show naF Z cm ar n9 = some (Z (100 + n9)) from if_pos hjp]
        refine m_astore (L' := [(4, .ref (Z (100 + n9))), (3, .int (nI n9)), (1, .long (q_dga ar d0 n9)), (0, .ref (Z 0))]) C dX7_digest_45 (by decide) rfl ?_
        refine m_aload C dX7_digest_47 0 rfl ?_
        refine m_ifnull (x := some (Z (100 + n9))) (tgt := 96) C dX7_digest_49 (by decide) (fun h => absurd h (by simp)) (fun _ _ => ?_)
        refine m_lload_n C dX7_digest_52 rfl 2 rfl ?_
        refine m_ldc2l (index := 219) (v := 31) C (by decide +kernel) dX7_digest_53 ?_
        refine m_lmul C dX7_digest_56 ?_
        refine m_aload C dX7_digest_57 0 rfl ?_
        refine m_get (ref := "PaintLayers$Node") C (hR.nd hjp) rfl i_X3 0 (by decide) (by decide +kernel) (fun x h => h) (v := .int (nI n9)) rfl dX7_digest_59 ?_
        refine m_i2l C dX7_digest_62 rfl ?_
        refine m_ladd C dX7_digest_63 ?_
        refine m_lstore_n (L' := [(1, .long (((q_dga ar d0 n9) * 31) + ((nI n9).toInt64))), (4, .ref (Z (100 + n9))), (3, .int (nI n9)), (0, .ref (Z 0))]) C dX7_digest_64 rfl (by decide) rfl ?_
        refine m_iconst (v := 0) C dX7_digest_65 (by decide) ?_
        refine m_istore (L' := [(5, .int 0), (1, .long (((q_dga ar d0 n9) * 31) + ((nI n9).toInt64))), (4, .ref (Z (100 + n9))), (3, .int (nI n9)), (0, .ref (Z 0))]) C dX7_digest_66 (by decide) rfl ?_
        refine m_sub (L' := [(5, .int 0), (1, .long (((q_dga ar d0 n9) * 31) + ((nI n9).toInt64))), (4, .ref (Z (100 + n9))), (3, .int (nI n9)), (0, .ref (Z 0))]) [0, 1, 2, 3, 4] rfl ?_
        refine lp_X7_digest1 hR hw hb hfv i_X7 i_X3 hjp C ?_ _ 0 rfl (Nat.zero_le _)
        rw [← dga_s d0 hjp]
        obtain ⟨x_2, ex_2⟩ : ∃ z : Int32, z = nI n9 + 1 := ⟨_, rfl⟩
        refine m_iinc (q := 1) (v := x_2) (L' := [(3, .int x_2), (1, .long (q_dga ar d0 (n9 + 1))), (0, .ref (Z 0))]) C dX7_digest_96 rfl (by rw [ex_2]; rfl) (by decide) rfl ?_
        refine m_goto (tgt := 33) C dX7_digest_99 (by decide) ?_
        rw [nI_1] at ex_2
        subst ex_2
        refine m_sub (L' := [(3, .int (nI (n9 + 1))), (1, .long (q_dga ar d0 (n9 + 1))), (0, .ref (Z 0))]) [0, 1, 2] rfl ?_
        exact ih (40 - (n9 + 1)) (by omega) (n9 + 1) rfl (by omega)
      · rw [show naF Z cm ar n9 = none from if_neg hjp]
        refine m_astoreq (x := none) (L' := [(4, .null), (3, .int (nI n9)), (1, .long (q_dga ar d0 n9)), (0, .ref (Z 0))]) C dX7_digest_45 (by decide) rfl ?_
        refine m_aloadq (x := none) C dX7_digest_47 0 rfl ?_
        refine m_ifnull (x := none) (tgt := 96) C dX7_digest_49 (by decide) (fun _ => ?_) (fun q h => absurd h (by simp))
        rw [← dga_no hw d0 hjp]
        obtain ⟨x_3, ex_3⟩ : ∃ z : Int32, z = nI n9 + 1 := ⟨_, rfl⟩
        refine m_iinc (q := 1) (v := x_3) (L' := [(3, .int x_3), (4, .null), (1, .long (q_dga ar d0 (n9 + 1))), (0, .ref (Z 0))]) C dX7_digest_96 rfl (by rw [ex_3]; rfl) (by decide) rfl ?_
        refine m_goto (tgt := 33) C dX7_digest_99 (by decide) ?_
        rw [nI_1] at ex_3
        subst ex_3
        refine m_sub (L' := [(3, .int (nI (n9 + 1))), (1, .long (q_dga ar d0 (n9 + 1))), (0, .ref (Z 0))]) [0, 2, 3] rfl ?_
        exact ih (40 - (n9 + 1)) (by omega) (n9 + 1) rfl (by omega)
set_option maxHeartbeats 4000000 in
set_option maxRecDepth 100000 in
theorem lp_X7_digest3 {p : Program} {l : Launch} {e : Env} {s : State} {m : MethodId} {args : Array Value} {below : List Frame} {meth : Method} {c : Code} {Q : State → Prop} {D : mD} {A : Nat → Prop} {Z : Nat → Nat} {F : Mm} {cm : Nat} {g : Int32} {ar : rA} {fi : Nat → Nat → Int32} {nl : Nat → Nat → Int64} {rw : Nat → Int32} {M : Mm} (hR : cS D Z F cm g ar fi nl (pre9 ar 0) rw M) (hw : wf ar cm) (hb : BD ar cm) (hfv : FV ar cm fi) (i_X7 : ∀ w ∈ wsX70, w ∈ wsX7_digest) {d0 : Int64} (C : mC p m meth c cX7_digest 6 s args wsX7_digest yX7_digest.cls D A yX7_digest (some .long)) (kx : mV p l e ({ frames := 10, cells := 0, slots := 0, locals := 620 } : Room) s m args below meth c 6 D A Q M 0 0 [(1, .long (q_dgc (ar 16) d0 3072)), (0, .ref (Z 0))] [] 131) : ∀ (N : Nat) (i9 : Nat), 3072 - i9 = N → (i9 ≤ 3072) → mV p l e ({ frames := 10, cells := 0, slots := 0, locals := 620 } : Room) s m args below meth c 6 D A Q M 0 0 [(3, .int (nI i9)), (1, .long (q_dgc (ar 16) d0 i9)), (0, .ref (Z 0))] [] 104 := by
  intro N
  induction N using Nat.strongRecOn with
  | _ N ih =>
    intro i9 hN hk
    refine m_iload_n C dX7_digest_104 rfl 0 rfl ?_
    refine m_sipush (v := 3072) C dX7_digest_105 (by decide) ?_
    refine m_icmp_ge (tgt := 131) C dX7_digest_108 (by decide) (fun h_1 => ?_) (fun h_1 => ?_)
    · refine m_sub (L' := [(1, .long (q_dgc (ar 16) d0 i9)), (0, .ref (Z 0))]) [1, 2] rfl ?_
      have hkm : i9 = 3072 := by
        have := (nI_leI (a := 3072) (b := i9) (by omega) (by omega)).mp h_1
        omega
      subst hkm
      exact kx
    · have hkm : i9 < 3072 := by
        rcases Nat.lt_or_ge i9 3072 with z | z
        · exact z
        · exact absurd (nI_le (a := 3072) (b := i9) z (by omega)) h_1
      refine m_lload_n C dX7_digest_111 rfl 1 rfl ?_
      refine m_ldc2l (index := 219) (v := 31) C (by decide +kernel) dX7_digest_112 ?_
      refine m_lmul C dX7_digest_115 ?_
      refine m_aload_n C dX7_digest_116 rfl 2 rfl ?_
      refine m_get (ref := "PaintLayers") C hR.me rfl i_X7 3 (by decide) (by decide +kernel) (fun x h => h) (v := .ref (Z 2)) rfl dX7_digest_117 ?_
      refine m_iload_n C dX7_digest_120 rfl 0 rfl ?_
      refine m_iald C hR.1.gcv (vp_in_nI hkm (by omega)) dX7_digest_121 ?_
      rw [nI_clamp (show i9 < 2 ^ 31 by omega)]
      refine m_i2l C dX7_digest_122 rfl ?_
      refine m_ladd C dX7_digest_123 ?_
      refine m_l (y := q_dgc (ar 16) d0 (i9 + 1)) (rfl) ?_
      refine m_lstore_n (L' := [(1, .long (q_dgc (ar 16) d0 (i9 + 1))), (3, .int (nI i9)), (0, .ref (Z 0))]) C dX7_digest_124 rfl (by decide) rfl ?_
      obtain ⟨x_2, ex_2⟩ : ∃ z : Int32, z = nI i9 + 1 := ⟨_, rfl⟩
      refine m_iinc (q := 1) (v := x_2) (L' := [(3, .int x_2), (1, .long (q_dgc (ar 16) d0 (i9 + 1))), (0, .ref (Z 0))]) C dX7_digest_125 rfl (by rw [ex_2]; rfl) (by decide) rfl ?_
      refine m_goto (tgt := 104) C dX7_digest_128 (by decide) ?_
      rw [nI_1] at ex_2
      subst ex_2
      refine m_sub (L' := [(3, .int (nI (i9 + 1))), (1, .long (q_dgc (ar 16) d0 (i9 + 1))), (0, .ref (Z 0))]) [0, 1, 2] rfl ?_
      exact ih (3072 - (i9 + 1)) (by omega) (i9 + 1) rfl (by omega)
set_option maxHeartbeats 4000000 in
set_option maxRecDepth 100000 in
theorem lp_X7_digest4 {p : Program} {l : Launch} {e : Env} {s : State} {m : MethodId} {args : Array Value} {below : List Frame} {meth : Method} {c : Code} {Q : State → Prop} {D : mD} {A : Nat → Prop} {Z : Nat → Nat} {F : Mm} {cm : Nat} {g : Int32} {ar : rA} {fi : Nat → Nat → Int32} (hw : wf ar cm) (hb : BD ar cm) (hfv : FV ar cm fi) (i_X7 : ∀ w ∈ wsX70, w ∈ wsX7_digest) {d9 : Int64} (C : mC p m meth c cX7_digest 6 s args wsX7_digest yX7_digest.cls D A yX7_digest (some .long)) (kx : ∀ (t : Int64) (nl : Nat → Nat → Int64) (rw : Nat → Int32) (M : Mm), cS D Z F cm g ar fi nl (pre9 ar 0) rw M → (∀ tl, tl < 64 → bL t tl = q_tt ar g (pre9 ar 0) tl 48) → mV p l e ({ frames := 10, cells := 0, slots := 0, locals := 620 } : Room) s m args below meth c 6 D A Q M 0 0 [(3, .long t), (1, .long d9)] [] 158) : ∀ (N : Nat) (y9 : Nat) (t9 : Int64) (nl : Nat → Nat → Int64) (rw : Nat → Int32) (M : Mm), 48 - y9 = N → (y9 ≤ 48) → (cS D Z F cm g ar fi nl (pre9 ar 0) rw M) → (∀ tl, tl < 64 → bL t9 tl = q_tt ar g (pre9 ar 0) tl y9) → mV p l e ({ frames := 10, cells := 0, slots := 0, locals := 620 } : Room) s m args below meth c 6 D A Q M 0 0 [(5, .int (nI y9)), (3, .long t9), (1, .long d9), (0, .ref (Z 0))] [] 136 := by
  intro N
  induction N using Nat.strongRecOn with
  | _ N ih =>
    intro y9 t9 nl rw M hN hk hR ht
    refine m_iload C dX7_digest_136 0 rfl ?_
    refine m_bipush (v := 48) C dX7_digest_138 (by decide) ?_
    refine m_icmp_ge (tgt := 158) C dX7_digest_140 (by decide) (fun h_1 => ?_) (fun h_1 => ?_)
    · refine m_sub (L' := [(3, .long t9), (1, .long d9)]) [1, 2] rfl ?_
      have hkm : y9 = 48 := by
        have := (nI_leI (a := 48) (b := y9) (by omega) (by omega)).mp h_1
        omega
      subst hkm
      exact kx t9 nl rw M hR ht
    · have hkm : y9 < 48 := by
        rcases Nat.lt_or_ge y9 48 with z | z
        · exact z
        · exact absurd (nI_le (a := 48) (b := y9) z (by omega)) h_1
      have hy9 := hkm
      refine m_lload_n C dX7_digest_143 rfl 1 rfl ?_
      refine m_aload_n C dX7_digest_144 rfl 3 rfl ?_
      refine m_iload C dX7_digest_145 0 rfl ?_
      refine m_callVl (As := [.int (nI y9)]) (st := [.long t9]) C hR.me rfl (c_X7_changedTiles D A l hR hw hb hfv hy9) (cwV 1 C.1.2.2.2.2 gX7_digest_X7_changedTiles rfl rfl rfl (by decide +kernel) ⟨Nat.le_of_ble_eq_true rfl, Nat.le_of_ble_eq_true rfl⟩) rfl rfl (Nat.le_of_ble_eq_true rfl) dX7_digest_147 ⟨Nat.le_of_ble_eq_true rfl, Nat.le_of_ble_eq_true rfl⟩ (fun r1 M1 hq1 => ?_)
      obtain ⟨ht1, m1, rw1, hR1, -⟩ := hq1
      refine m_lor C dX7_digest_150 ?_
      refine m_lstore_n (L' := [(3, .long (t9 ||| r1)), (5, .int (nI y9)), (1, .long d9), (0, .ref (Z 0))]) C dX7_digest_151 rfl (by decide) rfl ?_
      obtain ⟨x_2, ex_2⟩ : ∃ z : Int32, z = nI y9 + 1 := ⟨_, rfl⟩
      refine m_iinc (q := 1) (v := x_2) (L' := [(5, .int x_2), (3, .long (t9 ||| r1)), (1, .long d9), (0, .ref (Z 0))]) C dX7_digest_152 rfl (by rw [ex_2]; rfl) (by decide) rfl ?_
      refine m_goto (tgt := 136) C dX7_digest_155 (by decide) ?_
      rw [nI_1] at ex_2
      subst ex_2
      refine m_sub (L' := [(5, .int (nI (y9 + 1))), (3, .long (t9 ||| r1)), (1, .long d9), (0, .ref (Z 0))]) [0, 1, 2, 3] rfl ?_
      exact ih (48 - (y9 + 1)) (by omega) (y9 + 1) _ m1 rw1 M1 rfl (by omega) hR1 (fun tl htl => by rw [bL_or, ht tl htl, ht1 tl htl]; rfl)
set_option maxHeartbeats 4000000 in
set_option maxRecDepth 100000 in
theorem c_X7_digest (D : mD) (A : Nat → Prop) (l : Launch) {Z : Nat → Nat} {F : Mm} {cm : Nat} {g : Int32} {ar : rA} {M : Mm} (hI : cI D Z F cm g ar M) (hw : wf ar cm) (hb : BD ar cm) : mMl D A l yX7_digest wsX7_digest ({ frames := 10, cells := 0, slots := 0, locals := 620 } : Room) [.ref (Z 0)] M (fun r M' => r = q_dig ar cm g ∧ cI D Z F cm g ar M') 0 0 := by
  refine m_start (cc := cX7_digest) (maxL := 6) (ret := (some .long)) (by decide) rfl (Nat.le_of_ble_eq_true rfl) ?_
  intro p e s m args below meth c C
  have i_X7 : ∀ w ∈ wsX70, w ∈ wsX7_digest := by decide +kernel
  have i_X3 : ∀ w ∈ wsX30, w ∈ wsX7_digest := by decide +kernel
  have iL : ∀ w ∈ wsJx4a65c0, w ∈ wsX7_digest := by decide +kernel
  refine m_sub (L' := [(0, .ref (Z 0))]) [0] rfl ?_
  have hcm := hw.1.2
  have hI9 := hI
  obtain ⟨fi, nl, rw, hfv, hR⟩ := hI9
  obtain ⟨b9, cap9, f9, mc9, h_a, hB9, hnc, h60, hf9, hall⟩ := hR.od
  refine m_ldc2l (index := 217) (v := 359) C (by decide +kernel) dX7_digest_0 ?_
  refine m_lstore_n (L' := [(1, .long 359), (0, .ref (Z 0))]) C dX7_digest_3 rfl (by decide) rfl ?_
  refine m_lload_n C dX7_digest_4 rfl 0 rfl ?_
  refine m_ldc2l (index := 219) (v := 31) C (by decide +kernel) dX7_digest_5 ?_
  refine m_lmul C dX7_digest_8 ?_
  refine m_l (y := 11129) (by decide) ?_
  refine m_aload_n C dX7_digest_9 rfl 1 rfl ?_
  refine m_get (ref := "PaintLayers") C hR.me rfl i_X7 2 (by decide) (by decide +kernel) (fun x h => h) (v := .ref (Z 240)) rfl dX7_digest_10 ?_
  refine m_callVFi (As := []) (st := [.long 11129]) (v := nI ((pre9 ar 0).length)) C h_a rfl (c_Jx4a65c_size_8abf5 D A l h_a) (cwV 0 C.1.2.2.2.2 gX7_digest_Jx4a65c_size_8abf5 rfl rfl rfl (by decide +kernel) ⟨Nat.le_of_ble_eq_true rfl, Nat.le_of_ble_eq_true rfl⟩) rfl rfl (Nat.le_of_ble_eq_true rfl) dX7_digest_13 ⟨Nat.le_of_ble_eq_true rfl, Nat.le_of_ble_eq_true rfl⟩ ?_
  refine m_i (y := nI (q_cnt ar cm)) (congrArg nI (len_cnt hw)) ?_
  refine m_i2l C dX7_digest_16 rfl ?_
  refine m_ladd C dX7_digest_17 ?_
  refine m_lstore_n (L' := [(1, .long (11129 + ((nI (q_cnt ar cm)).toInt64))), (0, .ref (Z 0))]) C dX7_digest_18 rfl (by decide) rfl ?_
  refine m_lload_n C dX7_digest_19 rfl 0 rfl ?_
  refine m_ldc2l (index := 219) (v := 31) C (by decide +kernel) dX7_digest_20 ?_
  refine m_lmul C dX7_digest_23 ?_
  refine m_aload_n C dX7_digest_24 rfl 1 rfl ?_
  refine m_get (ref := "PaintLayers") C hR.me rfl i_X7 6 (by decide) (by decide +kernel) (fun x h => h) (v := .int g) rfl dX7_digest_25 ?_
  refine m_i2l C dX7_digest_28 rfl ?_
  refine m_ladd C dX7_digest_29 ?_
  refine m_lstore_n (L' := [(1, .long (((11129 + ((nI (q_cnt ar cm)).toInt64)) * 31) + g.toInt64)), (0, .ref (Z 0))]) C dX7_digest_30 rfl (by decide) rfl ?_
  refine m_iconst (v := 0) C dX7_digest_31 (by decide) ?_
  refine m_istore_n (L' := [(3, .int 0), (1, .long (((11129 + ((nI (q_cnt ar cm)).toInt64)) * 31) + g.toInt64)), (0, .ref (Z 0))]) C dX7_digest_32 rfl (by decide) rfl ?_
  obtain ⟨d0, ed0⟩ : ∃ z : Int64, z = ((11129 + (nI (q_cnt ar cm)).toInt64) * 31 + g.toInt64) := ⟨_, rfl⟩
  rw [← ed0]
  refine m_sub (L' := [(3, .int 0), (1, .long d0), (0, .ref (Z 0))]) [0, 1, 2] rfl ?_
  refine lp_X7_digest2 hR hw hb hfv i_X7 i_X3 (d0 := d0) C ?_ _ 0 rfl (Nat.zero_le _)
  have e40 : q_dga ar d0 40 = q_dga ar d0 cm := by
    have := dga_out hw d0 (40 - cm)
    rw [show cm + (40 - cm) = 40 by omega] at this
    exact this
  rw [e40]
  refine m_iconst (v := 0) C dX7_digest_102 (by decide) ?_
  refine m_istore_n (L' := [(3, .int 0), (1, .long (q_dga ar d0 cm)), (0, .ref (Z 0))]) C dX7_digest_103 rfl (by decide) rfl ?_
  refine m_sub (L' := [(3, .int 0), (1, .long (q_dga ar d0 cm)), (0, .ref (Z 0))]) [0, 1, 2] rfl ?_
  refine lp_X7_digest3 hR hw hb hfv i_X7 (d0 := q_dga ar d0 cm) C ?_ _ 0 rfl (Nat.zero_le _)
  refine m_lconst (v := 0) C dX7_digest_131 rfl ?_
  refine m_lstore_n (L' := [(3, .long 0), (1, .long (q_dgc (ar 16) (q_dga ar d0 cm) 3072)), (0, .ref (Z 0))]) C dX7_digest_132 rfl (by decide) rfl ?_
  refine m_iconst (v := 0) C dX7_digest_133 (by decide) ?_
  refine m_istore (L' := [(5, .int 0), (3, .long 0), (1, .long (q_dgc (ar 16) (q_dga ar d0 cm) 3072)), (0, .ref (Z 0))]) C dX7_digest_134 (by decide) rfl ?_
  refine m_sub (L' := [(5, .int 0), (3, .long 0), (1, .long (q_dgc (ar 16) (q_dga ar d0 cm) 3072)), (0, .ref (Z 0))]) [0, 1, 2, 3] rfl ?_
  refine lp_X7_digest4 hw hb hfv i_X7 (d9 := q_dgc (ar 16) (q_dga ar d0 cm) 3072) C (fun t m1 rw1 M1 hR1 ht1 => ?_) _ 0 0 nl rw M rfl (Nat.zero_le _) hR (fun tl _ => bL_0 tl)
  refine m_lload_n C dX7_digest_158 rfl 1 rfl ?_
  refine m_ldc2l (index := 219) (v := 31) C (by decide +kernel) dX7_digest_159 ?_
  refine m_lmul C dX7_digest_162 ?_
  refine m_lload_n C dX7_digest_163 rfl 0 rfl ?_
  refine m_callSFi (As := [.long t]) (st := [.long ((q_dgc (ar 16) (q_dga ar d0 cm) 3072) * 31)]) (v := nI (cB (bL t) 64)) C (c_J13_bitCount_95d88 D A l) (va_cwS 1 C.1.2.2.2.2 gX7_digest_J13_bitCount_95d88 rfl rfl rfl (by decide +kernel) ⟨Nat.le_of_ble_eq_true rfl, Nat.le_of_ble_eq_true rfl⟩) rfl rfl (Nat.le_of_ble_eq_true rfl) dX7_digest_164 ⟨Nat.le_of_ble_eq_true rfl, Nat.le_of_ble_eq_true rfl⟩ ?_
  rw [tiles_n ht1]
  refine m_i2l C dX7_digest_167 rfl ?_
  refine m_ladd C dX7_digest_168 ?_
  exact m_lret C (Nat.le_of_ble_eq_true rfl) (Nat.le_of_ble_eq_true rfl) dX7_digest_169 (⟨by rw [ed0]; rfl, fi, m1, rw1, hfv, hR1⟩)
