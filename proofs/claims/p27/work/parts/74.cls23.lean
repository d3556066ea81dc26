/-! ===== counting bits; a row is mixed ===== -/
set_option maxHeartbeats 4000000 in
set_option maxRecDepth 100000 in
theorem c_J13_bitCount_95d88 (D : mD) (A : Nat → Prop) (l : Launch) {b : Int64} {M : Mm} : mMi D A l yJ13_bitCount_95d88 wsJ13_bitCount_95d88 ({ frames := 0, cells := 0, slots := 0, locals := 0 } : Room) [.long b] M (fun r M' => M' = M ∧ r = nI (cB (bL b) 64)) 0 0 := by
  refine m_start (cc := cJ13_bitCount_95d88) (maxL := 2) (ret := (some .int)) (by decide) rfl (Nat.le_of_ble_eq_true rfl) ?_
  intro p e s m args below meth c C
  refine m_sub (L' := [(0, .long b)]) [0] rfl ?_
  obtain ⟨n, hn, rfl⟩ := wb_of b
  have hS := (zS_b 8 n hn).2
  have hp8 : (256 : Nat) ^ 8 = 2 ^ 64 := by decide +kernel
  rw [hp8] at hS
  have hD := zT_d 8 n hn
  have hF := z_fin hD.1
  have r85 : rp 85 8 < 2 ^ 64 := by decide +kernel
  have r51 : rp 51 8 < 2 ^ 64 := by decide +kernel
  have r15 : rp 15 8 < 2 ^ 64 := by decide +kernel
  have h1 : z1 n 8 < 2 ^ 64 := Nat.lt_of_le_of_lt (Nat.sub_le _ _) hn
  have hT : zT n 8 < 2 ^ 64 := Nat.lt_of_le_of_lt Nat.and_le_right r15
  refine m_lload_n C dJ13_bitCount_95d88_0 rfl 0 rfl ?_
  refine m_lload_n C dJ13_bitCount_95d88_1 rfl 0 rfl ?_
  refine m_iconst (v := 1) C dJ13_bitCount_95d88_2 (by decide) ?_
  refine m_lushr C dJ13_bitCount_95d88_3 rfl ?_
  refine m_l (y := lN (n / 2 ^ 1)) (wb_shr (k := 1) hn (by decide)) ?_
  refine m_ldc2l (index := 314) (v := 6148914691236517205) C (by decide +kernel) dJ13_bitCount_95d88_4 ?_
  refine m_l (y := lN (rp 85 8)) (by decide +kernel) ?_
  refine m_land C dJ13_bitCount_95d88_7 ?_
  refine m_l (y := lN ((n / 2 ^ 1) &&& rp 85 8)) (wb_and (by omega) r85) ?_
  refine m_lsub C dJ13_bitCount_95d88_8 ?_
  refine m_l (y := lN (z1 n 8)) (lN_sub (Nat.le_trans Nat.and_le_left (Nat.div_le_self n 2))) ?_
  refine m_lstore_n (L' := [(0, .long (lN (z1 n 8)))]) C dJ13_bitCount_95d88_9 rfl (by decide) rfl ?_
  refine m_lload_n C dJ13_bitCount_95d88_10 rfl 0 rfl ?_
  refine m_ldc2l (index := 316) (v := 3689348814741910323) C (by decide +kernel) dJ13_bitCount_95d88_11 ?_
  refine m_l (y := lN (rp 51 8)) (by decide +kernel) ?_
  refine m_land C dJ13_bitCount_95d88_14 ?_
  refine m_l (y := lN (z1 n 8 &&& rp 51 8)) (wb_and h1 r51) ?_
  refine m_lload_n C dJ13_bitCount_95d88_15 rfl 0 rfl ?_
  refine m_iconst (v := 2) C dJ13_bitCount_95d88_16 (by decide) ?_
  refine m_lushr C dJ13_bitCount_95d88_17 rfl ?_
  refine m_l (y := lN (z1 n 8 / 2 ^ 2)) (wb_shr (k := 2) h1 (by decide)) ?_
  refine m_ldc2l (index := 316) (v := 3689348814741910323) C (by decide +kernel) dJ13_bitCount_95d88_18 ?_
  refine m_l (y := lN (rp 51 8)) (by decide +kernel) ?_
  refine m_land C dJ13_bitCount_95d88_21 ?_
  refine m_l (y := lN ((z1 n 8 / 2 ^ 2) &&& rp 51 8)) (wb_and (by omega) r51) ?_
  refine m_ladd C dJ13_bitCount_95d88_22 ?_
  refine m_l (y := lN (zS n 8)) (lN_add _ _) ?_
  refine m_lstore_n (L' := [(0, .long (lN (zS n 8)))]) C dJ13_bitCount_95d88_23 rfl (by decide) rfl ?_
  refine m_lload_n C dJ13_bitCount_95d88_24 rfl 0 rfl ?_
  refine m_lload_n C dJ13_bitCount_95d88_25 rfl 0 rfl ?_
  refine m_iconst (v := 4) C dJ13_bitCount_95d88_26 (by decide) ?_
  refine m_lushr C dJ13_bitCount_95d88_27 rfl ?_
  refine m_l (y := lN (zS n 8 / 2 ^ 4)) (wb_shr (k := 4) (by omega) (by decide)) ?_
  refine m_ladd C dJ13_bitCount_95d88_28 ?_
  refine m_l (y := lN (zS n 8 + zS n 8 / 2 ^ 4)) (lN_add _ _) ?_
  refine m_ldc2l (index := 318) (v := 1085102592571150095) C (by decide +kernel) dJ13_bitCount_95d88_29 ?_
  refine m_l (y := lN (rp 15 8)) (by decide +kernel) ?_
  refine m_land C dJ13_bitCount_95d88_32 ?_
  refine m_l (y := lN (zT n 8)) (wb_and (by omega) r15) ?_
  refine m_lstore_n (L' := [(0, .long (lN (zT n 8)))]) C dJ13_bitCount_95d88_33 rfl (by decide) rfl ?_
  refine m_lload_n C dJ13_bitCount_95d88_34 rfl 0 rfl ?_
  refine m_lload_n C dJ13_bitCount_95d88_35 rfl 0 rfl ?_
  refine m_bipush (v := 8) C dJ13_bitCount_95d88_36 (by decide) ?_
  refine m_lushr C dJ13_bitCount_95d88_38 rfl ?_
  refine m_l (y := lN (zT n 8 / 2 ^ 8)) (wb_shr (k := 8) hT (by decide)) ?_
  refine m_ladd C dJ13_bitCount_95d88_39 ?_
  refine m_l (y := lN (zT n 8 + zT n 8 / 256)) (lN_add _ _) ?_
  refine m_lstore_n (L' := [(0, .long (lN (zT n 8 + zT n 8 / 256)))]) C dJ13_bitCount_95d88_40 rfl (by decide) rfl ?_
  refine m_lload_n C dJ13_bitCount_95d88_41 rfl 0 rfl ?_
  refine m_lload_n C dJ13_bitCount_95d88_42 rfl 0 rfl ?_
  refine m_bipush (v := 16) C dJ13_bitCount_95d88_43 (by decide) ?_
  refine m_lushr C dJ13_bitCount_95d88_45 rfl ?_
  refine m_l (y := lN ((zT n 8 + zT n 8 / 256) / 2 ^ 16)) (wb_shr (k := 16) hF.1 (by decide)) ?_
  refine m_ladd C dJ13_bitCount_95d88_46 ?_
  refine m_l (y := lN ((zT n 8 + zT n 8 / 256) + (zT n 8 + zT n 8 / 256) / 65536)) (lN_add _ _) ?_
  refine m_lstore_n (L' := [(0, .long (lN ((zT n 8 + zT n 8 / 256) + (zT n 8 + zT n 8 / 256) / 65536)))]) C dJ13_bitCount_95d88_47 rfl (by decide) rfl ?_
  refine m_lload_n C dJ13_bitCount_95d88_48 rfl 0 rfl ?_
  refine m_lload_n C dJ13_bitCount_95d88_49 rfl 0 rfl ?_
  refine m_bipush (v := 32) C dJ13_bitCount_95d88_50 (by decide) ?_
  refine m_lushr C dJ13_bitCount_95d88_52 rfl ?_
  refine m_l (y := lN (((zT n 8 + zT n 8 / 256) + (zT n 8 + zT n 8 / 256) / 65536) / 2 ^ 32)) (wb_shr (k := 32) hF.2.1 (by decide)) ?_
  refine m_ladd C dJ13_bitCount_95d88_53 ?_
  refine m_l (y := lN (((zT n 8 + zT n 8 / 256) + (zT n 8 + zT n 8 / 256) / 65536) + ((zT n 8 + zT n 8 / 256) + (zT n 8 + zT n 8 / 256) / 65536) / 4294967296)) (lN_add _ _) ?_
  refine m_lstore_n (L' := [(0, .long (lN (((zT n 8 + zT n 8 / 256) + (zT n 8 + zT n 8 / 256) / 65536) + ((zT n 8 + zT n 8 / 256) + (zT n 8 + zT n 8 / 256) / 65536) / 4294967296)))]) C dJ13_bitCount_95d88_54 rfl (by decide) rfl ?_
  refine m_lload_n C dJ13_bitCount_95d88_55 rfl 0 rfl ?_
  refine m_l2i C dJ13_bitCount_95d88_56 rfl ?_
  refine m_i (y := nI (((zT n 8 + zT n 8 / 256) + (zT n 8 + zT n 8 / 256) / 65536) + ((zT n 8 + zT n 8 / 256) + (zT n 8 + zT n 8 / 256) / 65536) / 4294967296)) (lN_i _) ?_
  refine m_bipush (v := 127) C dJ13_bitCount_95d88_57 (by decide) ?_
  refine m_iand C dJ13_bitCount_95d88_59 ?_
  exact m_iret C (Nat.le_of_ble_eq_true rfl) (Nat.le_of_ble_eq_true rfl) dJ13_bitCount_95d88_60 (⟨rfl, by rw [nI_127, hF.2.2, hD.2, cB_bL]⟩)
def q_ly (b : Int64) (fl st : Int32) (rw : Nat → Int32) (i : Nat) : Nat → Int32 := fun k => if k < i ∧ bL b k = true then (rw k * (8 - st) + fl * st) / 8 else rw k
theorem q_ly_0 {b : Int64} {fl st : Int32} {rw : Nat → Int32} : q_ly b fl st rw 0 = rw := by
  funext k
  exact if_neg (fun z => absurd z.1 (Nat.not_lt_zero k))
theorem q_ly_n {b : Int64} {fl st : Int32} {rw : Nat → Int32} {i : Nat} (h : bL b i = false) : q_ly b fl st rw (i + 1) = q_ly b fl st rw i := by
  funext k
  unfold q_ly
  by_cases z : k = i
  · rw [z, if_neg (fun y => by rw [h] at y; cases y.2), if_neg (fun y => by omega)]
  · by_cases y : k < i ∧ bL b k = true
    · rw [if_pos y, if_pos ⟨by omega, y.2⟩]
    · rw [if_neg y, if_neg (fun u => y ⟨by omega, u.2⟩)]
theorem q_ly_s {b : Int64} {fl st : Int32} {rw : Nat → Int32} {i : Nat} (h : bL b i = true) : upd (q_ly b fl st rw i) i ((rw i * (8 - st) + fl * st) / 8) = q_ly b fl st rw (i + 1) := by
  funext k
  unfold upd q_ly
  by_cases z : k = i
  · rw [if_pos z, z, if_pos ⟨by omega, h⟩]
  · rw [if_neg z]
    by_cases y : k < i ∧ bL b k = true
    · rw [if_pos y, if_pos ⟨by omega, y.2⟩]
    · rw [if_neg y, if_neg (fun u => y ⟨by omega, u.2⟩)]
theorem q_ly_i {b : Int64} {fl st : Int32} {rw : Nat → Int32} {i : Nat} : q_ly b fl st rw i i = rw i := if_neg (fun z => absurd z.1 (Nat.lt_irrefl i))
theorem cS.srw {D : mD} {Z : Nat → Nat} {F : Mm} {cm : Nat} {g : Int32} {ar : rA} {fi : Nat → Nat → Int32} {nl : Nat → Nat → Int64} {L : List Nat} {rw : Nat → Int32} {M : Mm} (h : cS D Z F cm g ar fi nl L rw M) (rw' : Nat → Int32) : cS D Z F cm g ar fi nl L rw' (m_up M (Z 3) (jI D 64 rw')) := ⟨h.1.srw rw', h.2⟩
set_option maxHeartbeats 4000000 in
set_option maxRecDepth 100000 in
theorem lp_X7_layOn {p : Program} {l : Launch} {e : Env} {s : State} {m : MethodId} {args : Array Value} {below : List Frame} {meth : Method} {c : Code} {Q : State → Prop} {D : mD} {A : Nat → Prop} {Z : Nat → Nat} {F : Mm} {cm : Nat} {g : Int32} {ar : rA} {fi : Nat → Nat → Int32} {nl : Nat → Nat → Int64} {L : List Nat} {rw : Nat → Int32} (i_X7 : ∀ w ∈ wsX70, w ∈ wsX7_layOn) {b : Int64} {fl st : Int32} (C : mC p m meth c cX7_layOn 6 s args wsX7_layOn yX7_layOn.cls D A yX7_layOn none) (kx : ∀ M : Mm, cS D Z F cm g ar fi nl L (q_ly b fl st rw 64) M → mV p l e ({ frames := 1, cells := 0, slots := 0, locals := 60 } : Room) s m args below meth c 6 D A Q M 0 0 [(0, .ref (Z 0))] [] 53) : ∀ (N : Nat) (i9 : Nat) (M : Mm), 64 - i9 = N → (i9 ≤ 64) → (cS D Z F cm g ar fi nl L (q_ly b fl st rw i9) M) → mV p l e ({ frames := 1, cells := 0, slots := 0, locals := 60 } : Room) s m args below meth c 6 D A Q M 0 0 [(5, .int (nI i9)), (0, .ref (Z 0)), (1, .long b), (3, .int fl), (4, .int st)] [] 3 := by
  intro N
  induction N using Nat.strongRecOn with
  | _ N ih =>
    intro i9 M hN hk hR
    refine m_iload C dX7_layOn_3 0 rfl ?_
    refine m_bipush (v := 64) C dX7_layOn_5 (by decide) ?_
    refine m_icmp_ge (tgt := 53) C dX7_layOn_7 (by decide) (fun h_1 => ?_) (fun h_1 => ?_)
    · refine m_sub (L' := [(0, .ref (Z 0))]) [1] rfl ?_
      have hkm : i9 = 64 := by
        have := (nI_leI (a := 64) (b := i9) (by omega) (by omega)).mp h_1
        omega
      subst hkm
      exact kx M hR
    · have hkm : i9 < 64 := by
        rcases Nat.lt_or_ge i9 64 with z | z
        · exact z
        · exact absurd (nI_le (a := 64) (b := i9) z (by omega)) h_1
      refine m_lload_n C dX7_layOn_10 rfl 2 rfl ?_
      refine m_iload C dX7_layOn_11 0 rfl ?_
      refine m_callSFi (As := [.long b, .int (nI i9)]) (st := []) (v := bI (bL b i9)) C (c_X7_hasBit D A l (x := i9) (by omega)) (va_cwS 2 C.1.2.2.2.2 gX7_layOn_X7_hasBit rfl rfl rfl (by decide +kernel) ⟨Nat.le_of_ble_eq_true rfl, Nat.le_of_ble_eq_true rfl⟩) rfl rfl (Nat.le_of_ble_eq_true rfl) dX7_layOn_13 ⟨Nat.le_of_ble_eq_true rfl, Nat.le_of_ble_eq_true rfl⟩ ?_
      refine m_if_eq (tgt := 47) C dX7_layOn_16 (by decide) (fun hz_2 => ?_) (fun hz_2 => ?_)
      · have hz_2 := bI_z hz_2
        rw [← q_ly_n hz_2] at hR
        obtain ⟨x_3, ex_3⟩ : ∃ z : Int32, z = nI i9 + 1 := ⟨_, rfl⟩
        refine m_iinc (q := 0) (v := x_3) (L' := [(5, .int x_3), (0, .ref (Z 0)), (1, .long b), (3, .int fl), (4, .int st)]) C dX7_layOn_47 rfl (by rw [ex_3]; rfl) (by decide) rfl ?_
        refine m_goto (tgt := 3) C dX7_layOn_50 (by decide) ?_
        rw [nI_1] at ex_3
        subst ex_3
        refine m_sub (L' := [(5, .int (nI (i9 + 1))), (0, .ref (Z 0)), (1, .long b), (3, .int fl), (4, .int st)]) [0, 1, 2, 3, 4] rfl ?_
        exact ih (64 - (i9 + 1)) (by omega) (i9 + 1) M rfl (by omega) hR
      · have hz_2 := bI_n hz_2
        refine m_aload_n C dX7_layOn_19 rfl 1 rfl ?_
        refine m_get (ref := "PaintLayers") C hR.me rfl i_X7 4 (by decide) (by decide +kernel) (fun x h => h) (v := .ref (Z 3)) rfl dX7_layOn_20 ?_
        refine m_iload C dX7_layOn_23 0 rfl ?_
        refine m_aload_n C dX7_layOn_25 rfl 1 rfl ?_
        refine m_get (ref := "PaintLayers") C hR.me rfl i_X7 4 (by decide) (by decide +kernel) (fun x h => h) (v := .ref (Z 3)) rfl dX7_layOn_26 ?_
        refine m_iload C dX7_layOn_29 0 rfl ?_
        refine m_iald C hR.1.grw (vp_in_nI hkm (by omega)) dX7_layOn_31 ?_
        rw [nI_clamp (show i9 < 2 ^ 31 by omega), q_ly_i]
        refine m_bipush (v := 8) C dX7_layOn_32 (by decide) ?_
        refine m_iload C dX7_layOn_34 4 rfl ?_
        refine m_isub C dX7_layOn_36 ?_
        refine m_imul C dX7_layOn_37 ?_
        refine m_iload_n C dX7_layOn_38 rfl 3 rfl ?_
        refine m_iload C dX7_layOn_39 4 rfl ?_
        refine m_imul C dX7_layOn_41 ?_
        refine m_iadd C dX7_layOn_42 ?_
        refine m_bipush (v := 8) C dX7_layOn_43 (by decide) ?_
        refine m_idiv C dX7_layOn_45 (by decide) ?_
        refine m_iast C hR.1.grw (vp_in_nI hkm (by omega)) dX7_layOn_46 ?_
        rw [nI_clamp (show i9 < 2 ^ 31 by omega), q_ly_s hz_2]
        have hR9 := hR.srw (q_ly b fl st rw (i9 + 1))
        revert hR9
        generalize m_up M _ _ = M
        intro hR
        obtain ⟨x_4, ex_4⟩ : ∃ z : Int32, z = nI i9 + 1 := ⟨_, rfl⟩
        refine m_iinc (q := 0) (v := x_4) (L' := [(5, .int x_4), (0, .ref (Z 0)), (1, .long b), (3, .int fl), (4, .int st)]) C dX7_layOn_47 rfl (by rw [ex_4]; rfl) (by decide) rfl ?_
        refine m_goto (tgt := 3) C dX7_layOn_50 (by decide) ?_
        rw [nI_1] at ex_4
        subst ex_4
        refine m_sub (L' := [(5, .int (nI (i9 + 1))), (0, .ref (Z 0)), (1, .long b), (3, .int fl), (4, .int st)]) [0, 1, 2, 3, 4] rfl ?_
        exact ih (64 - (i9 + 1)) (by omega) (i9 + 1) M rfl (by omega) hR
set_option maxHeartbeats 4000000 in
set_option maxRecDepth 100000 in
theorem c_X7_layOn (D : mD) (A : Nat → Prop) (l : Launch) {Z : Nat → Nat} {F : Mm} {cm : Nat} {g : Int32} {ar : rA} {fi : Nat → Nat → Int32} {nl : Nat → Nat → Int64} {L : List Nat} {rw : Nat → Int32} {M : Mm} (hR : cS D Z F cm g ar fi nl L rw M) {b : Int64} {fl st : Int32} : mMv D A l yX7_layOn wsX7_layOn ({ frames := 1, cells := 0, slots := 0, locals := 60 } : Room) [.ref (Z 0), .long b, .int fl, .int st] M (cS D Z F cm g ar fi nl L (q_ly b fl st rw 64)) 0 0 := by
  refine m_start (cc := cX7_layOn) (maxL := 6) (ret := none) (by decide) rfl (Nat.le_of_ble_eq_true rfl) ?_
  intro p e s m args below meth c C
  have i_X7 : ∀ w ∈ wsX70, w ∈ wsX7_layOn := by decide +kernel
  refine m_sub (L' := [(0, .ref (Z 0)), (1, .long b), (3, .int fl), (4, .int st)]) [0, 1, 2, 3] rfl ?_
  refine m_iconst (v := 0) C dX7_layOn_0 (by decide) ?_
  refine m_istore (L' := [(5, .int 0), (0, .ref (Z 0)), (1, .long b), (3, .int fl), (4, .int st)]) C dX7_layOn_1 (by decide) rfl ?_
  refine m_sub (L' := [(5, .int 0), (0, .ref (Z 0)), (1, .long b), (3, .int fl), (4, .int st)]) [0, 1, 2, 3, 4] rfl ?_
  refine lp_X7_layOn i_X7 C (fun M9 hR9 => ?_) _ 0 M rfl (Nat.zero_le _) (by rw [q_ly_0]; exact hR)
  exact m_vret C (Nat.le_of_ble_eq_true rfl) (Nat.le_of_ble_eq_true rfl) dX7_layOn_53 (hR9)
theorem any_sh {ar : rA} {cm n : Nat} (hw : wf ar cm) (hn : cP ar cm n) (h3 : ¬ ar 3 n = 0) (px py : Int32) : q_any ar (pre9 ar n) px py = q_shown ar n px py := by
  obtain ⟨m, m1, m2, m3, m4, m5⟩ := wf_mny hw hn.1 hn.2
  rw [wf_pre hw hn.1 hn.2, m1, m4 h3, pks_0]
  simp [q_any]
theorem shown_gr {ar : rA} {n : Nat} (h3 : ar 3 n = 0) (px py : Int32) : q_shown ar n px py = false := by
  unfold q_shown q_sS
  rw [decide_eq_false (fun z => z h3), Bool.false_and, Bool.false_and]
theorem mx_n {ar : rA} {g : Int32} {L : List Nat} {k : Nat} {px py v : Int32} (hk : k < L.length) (hv : v = q_val ar g (L.take k) px py) (hs : q_shown ar (L.getD k 0) px py = false) : v = q_val ar g (L.take (k + 1)) px py := by
  rw [q_val_s hk, ← hv, q_mix, hs]
  rfl
theorem mx_s {ar : rA} {cm : Nat} {fi : Nat → Nat → Int32} {g : Int32} {L : List Nat} {k a : Nat} {px py : Int32} {b : Int64} {rw : Nat → Int32} {x : Nat} (hk : k < L.length) (hx : x < 64) (ha : a = L.getD k 0) (hv : rw x = q_val ar g (L.take k) px py) (hs : bL b x = q_shown ar a px py) (hfv : FV ar cm fi) (hn : cP ar cm a) : q_ly b (fi 2 a) (fi 3 a) rw 64 x = q_val ar g (L.take (k + 1)) px py := by
  have e2 : fi 2 a = q_fn ar a := hfv a hn 2 (by decide)
  have e3 : fi 3 a = q_sn ar a := hfv a hn 3 (by decide)
  rw [q_val_s hk, ← hv, ← ha, e2, e3]
  unfold q_ly q_mix q_lay
  rw [hs]
  by_cases z : q_shown ar a px py = true
  · rw [if_pos ⟨hx, z⟩, if_pos z]
  · rw [if_neg (fun y => z y.2), if_neg z]
set_option maxHeartbeats 4000000 in
set_option maxRecDepth 100000 in
theorem lp_X7_mixRow {p : Program} {l : Launch} {e : Env} {s : State} {m : MethodId} {args : Array Value} {below : List Frame} {meth : Method} {c : Code} {Q : State → Prop} {D : mD} {A : Nat → Prop} {Z : Nat → Nat} {F : Mm} {cm : Nat} {g : Int32} {ar : rA} {fi : Nat → Nat → Int32} (hw : wf ar cm) (hb : BD ar cm) (hfv : FV ar cm fi) (i_X7 : ∀ w ∈ wsX70, w ∈ wsX7_mixRow) (i_X3 : ∀ w ∈ wsX30, w ∈ wsX7_mixRow) (iL : ∀ w ∈ wsJx4a65c0, w ∈ wsX7_mixRow) {y9 : Nat} (hy9 : y9 < 48) {nl : Nat → Nat → Int64} (hs : SC ar cm nl 2 y9 (fun n => q_any ar (pre9 ar n))) (C : mC p m meth c cX7_mixRow 4 s args wsX7_mixRow yX7_mixRow.cls D A yX7_mixRow none) (kx : ∀ (rw : Nat → Int32) (M : Mm), cS D Z F cm g ar fi nl (pre9 ar 0) rw M → (∀ x, x < 64 → rw x = q_val ar g (pre9 ar 0) (nI x) (nI y9)) → mV p l e ({ frames := 8, cells := 0, slots := 0, locals := 480 } : Room) s m args below meth c 4 D A Q M 0 0 [(0, .ref (Z 0))] [] 79) : ∀ (N : Nat) (i9 : Nat) (rw : Nat → Int32) (M : Mm), (pre9 ar 0).length - i9 = N → (i9 ≤ (pre9 ar 0).length) → (cS D Z F cm g ar fi nl (pre9 ar 0) rw M) → (∀ x, x < 64 → rw x = q_val ar g ((pre9 ar 0).take i9) (nI x) (nI y9)) → mV p l e ({ frames := 8, cells := 0, slots := 0, locals := 480 } : Room) s m args below meth c 4 D A Q M 0 0 [(2, .int (nI i9)), (0, .ref (Z 0))] [] 18 := by
  intro N
  induction N using Nat.strongRecOn with
  | _ N ih =>
    intro i9 rw M hN hk hR hv
    have hcm := hw.1.2
    obtain ⟨b9, cap9, f9, mc9, h_a, hB9, hnc, h60, hf9, hall⟩ := hR.od
    refine m_iload_n C dX7_mixRow_18 rfl 0 rfl ?_
    refine m_aload_n C dX7_mixRow_19 rfl 1 rfl ?_
    refine m_get (ref := "PaintLayers") C hR.me rfl i_X7 2 (by decide) (by decide +kernel) (fun x h => h) (v := .ref (Z 240)) rfl dX7_mixRow_20 ?_
    refine m_callVFi (As := []) (st := [.int (nI i9)]) (v := nI ((pre9 ar 0).length)) C h_a rfl (c_Jx4a65c_size_8abf5 D A l h_a) (cwV 0 C.1.2.2.2.2 gX7_mixRow_Jx4a65c_size_8abf5 rfl rfl rfl (by decide +kernel) ⟨Nat.le_of_ble_eq_true rfl, Nat.le_of_ble_eq_true rfl⟩) rfl rfl (Nat.le_of_ble_eq_true rfl) dX7_mixRow_23 ⟨Nat.le_of_ble_eq_true rfl, Nat.le_of_ble_eq_true rfl⟩ ?_
    refine m_icmp_ge (tgt := 79) C dX7_mixRow_26 (by decide) (fun h_1 => ?_) (fun h_1 => ?_)
    · refine m_sub (L' := [(0, .ref (Z 0))]) [1] rfl ?_
      have hkm : i9 = (pre9 ar 0).length := by
        have := (nI_leI (a := (pre9 ar 0).length) (b := i9) (by omega) (by omega)).mp h_1
        omega
      rw [hkm, List.take_length] at hv
      exact kx rw M hR hv
    · have hkm : i9 < (pre9 ar 0).length := by
        rcases Nat.lt_or_ge i9 (pre9 ar 0).length with z | z
        · exact z
        · exact absurd (nI_le (a := (pre9 ar 0).length) (b := i9) z (by omega)) h_1
      obtain ⟨a9, ha9⟩ : ∃ z : Nat, z = (pre9 ar 0).getD i9 0 := ⟨_, rfl⟩
      have hna : cP ar cm a9 := by rw [ha9]; exact wf_preL hw (wf_root hw).1 (wf_root hw).2 i9 hkm
      refine m_aload_n C dX7_mixRow_29 rfl 1 rfl ?_
      refine m_get (ref := "PaintLayers") C hR.me rfl i_X7 2 (by decide) (by decide +kernel) (fun x h => h) (v := .ref (Z 240)) rfl dX7_mixRow_30 ?_
      refine m_iload_n C dX7_mixRow_33 rfl 0 rfl ?_
      have h_b := hB9.own (by omega)
      refine m_callVFq (As := [.int (nI i9)]) (st := []) C h_a rfl (c_Jx4a65c_get_915e3 D A l h_a h_b (j := i9) hkm ⟨hnc, by omega⟩) (cwV 1 C.1.2.2.2.2 gX7_mixRow_Jx4a65c_get_915e3 rfl rfl rfl (by decide +kernel) ⟨Nat.le_of_ble_eq_true rfl, Nat.le_of_ble_eq_true rfl⟩) rfl rfl (Nat.le_of_ble_eq_true rfl) dX7_mixRow_34 ⟨Nat.le_of_ble_eq_true rfl, Nat.le_of_ble_eq_true rfl⟩ ?_
      rw [hf9 i9 hkm, ← ha9]
      refine m_castN C (hR.nd hna) (by decide +kernel) dX7_mixRow_37 ?_
      refine m_astore_n (L' := [(3, .ref (Z (100 + a9))), (2, .int (nI i9)), (0, .ref (Z 0))]) C dX7_mixRow_40 rfl (by decide) rfl ?_
      refine m_aload_n C dX7_mixRow_41 rfl 0 rfl ?_
      refine m_get (ref := "PaintLayers$Node") C (hR.nd hna) rfl i_X3 1 (by decide) (by decide +kernel) (fun x h => h) (v := va_rf (nSh Z ar a9)) rfl dX7_mixRow_42 ?_
      by_cases h3 : ar 3 a9 = 0
      · rw [show nSh Z ar a9 = none from if_pos h3]
        refine m_ifnull (x := none) (tgt := 73) C dX7_mixRow_45 (by decide) (fun _ => ?_) (fun q h => absurd h (by simp))
        obtain ⟨x_2, ex_2⟩ : ∃ z : Int32, z = nI i9 + 1 := ⟨_, rfl⟩
        refine m_iinc (q := 1) (v := x_2) (L' := [(2, .int x_2), (3, .ref (Z (100 + a9))), (0, .ref (Z 0))]) C dX7_mixRow_73 rfl (by rw [ex_2]; rfl) (by decide) rfl ?_
        refine m_goto (tgt := 18) C dX7_mixRow_76 (by decide) ?_
        rw [nI_1] at ex_2
        subst ex_2
        refine m_sub (L' := [(2, .int (nI (i9 + 1))), (0, .ref (Z 0))]) [0, 2] rfl ?_
        exact ih ((pre9 ar 0).length - (i9 + 1)) (by omega) (i9 + 1) _ M rfl (by omega) hR (fun x hx => mx_n hkm (hv x hx) (by rw [← ha9]; exact shown_gr h3 _ _))
      · rw [show nSh Z ar a9 = some (Z (400 + a9)) from if_neg h3]
        refine m_ifnull (x := some (Z (400 + a9))) (tgt := 73) C dX7_mixRow_45 (by decide) (fun h => absurd h (by simp)) (fun _ _ => ?_)
        have hsb : ∀ x, x < 64 → bL (nl 2 a9) x = q_shown ar a9 (nI x) (nI y9) := fun x hx => by rw [hs a9 hna x hx]; exact any_sh hw hna h3 _ _
        refine m_aload_n C dX7_mixRow_48 rfl 0 rfl ?_
        refine m_get (ref := "PaintLayers$Node") C (hR.nd hna) rfl i_X3 18 (by decide) (by decide +kernel) (fun x h => h) (v := .long (nl 2 a9)) rfl dX7_mixRow_49 ?_
        refine m_lconst (v := 0) C dX7_mixRow_52 rfl ?_
        refine m_lcmp C dX7_mixRow_53 ?_
        refine m_if_eq (tgt := 73) C dX7_mixRow_54 (by decide) (fun h_3 => ?_) (fun h_3 => ?_)
        · have hz0 := lg_c0.mp h_3
          obtain ⟨x_4, ex_4⟩ : ∃ z : Int32, z = nI i9 + 1 := ⟨_, rfl⟩
          refine m_iinc (q := 1) (v := x_4) (L' := [(2, .int x_4), (3, .ref (Z (100 + a9))), (0, .ref (Z 0))]) C dX7_mixRow_73 rfl (by rw [ex_4]; rfl) (by decide) rfl ?_
          refine m_goto (tgt := 18) C dX7_mixRow_76 (by decide) ?_
          rw [nI_1] at ex_4
          subst ex_4
          refine m_sub (L' := [(2, .int (nI (i9 + 1))), (0, .ref (Z 0))]) [0, 2] rfl ?_
          exact ih ((pre9 ar 0).length - (i9 + 1)) (by omega) (i9 + 1) _ M rfl (by omega) hR (fun x hx => mx_n hkm (hv x hx) (by rw [← ha9, ← hsb x hx, hz0]; exact bL_0 x))
        · refine m_aload_n C dX7_mixRow_57 rfl 2 rfl ?_
          refine m_aload_n C dX7_mixRow_58 rfl 0 rfl ?_
          refine m_get (ref := "PaintLayers$Node") C (hR.nd hna) rfl i_X3 18 (by decide) (by decide +kernel) (fun x h => h) (v := .long (nl 2 a9)) rfl dX7_mixRow_59 ?_
          refine m_aload_n C dX7_mixRow_62 rfl 0 rfl ?_
          refine m_get (ref := "PaintLayers$Node") C (hR.nd hna) rfl i_X3 13 (by decide) (by decide +kernel) (fun x h => h) (v := .int (fi 2 a9)) rfl dX7_mixRow_63 ?_
          refine m_aload_n C dX7_mixRow_66 rfl 0 rfl ?_
          refine m_get (ref := "PaintLayers$Node") C (hR.nd hna) rfl i_X3 14 (by decide) (by decide +kernel) (fun x h => h) (v := .int (fi 3 a9)) rfl dX7_mixRow_67 ?_
          refine m_callVv (As := [.long (nl 2 a9), .int (fi 2 a9), .int (fi 3 a9)]) (st := []) C hR.me rfl (c_X7_layOn D A l hR) (cwV 3 C.1.2.2.2.2 gX7_mixRow_X7_layOn rfl rfl rfl (by decide +kernel) ⟨Nat.le_of_ble_eq_true rfl, Nat.le_of_ble_eq_true rfl⟩) rfl rfl (Nat.le_of_ble_eq_true rfl) dX7_mixRow_70 ⟨Nat.le_of_ble_eq_true rfl, Nat.le_of_ble_eq_true rfl⟩ (fun M9 hR9 => ?_)
          clear hB9 h_a hf9 hR hall hnc
          rename cS D Z F cm g ar fi nl (pre9 ar 0) _ M9 => hR
          rename Mm => M
          obtain ⟨x_5, ex_5⟩ : ∃ z : Int32, z = nI i9 + 1 := ⟨_, rfl⟩
          refine m_iinc (q := 1) (v := x_5) (L' := [(2, .int x_5), (3, .ref (Z (100 + a9))), (0, .ref (Z 0))]) C dX7_mixRow_73 rfl (by rw [ex_5]; rfl) (by decide) rfl ?_
          refine m_goto (tgt := 18) C dX7_mixRow_76 (by decide) ?_
          rw [nI_1] at ex_5
          subst ex_5
          refine m_sub (L' := [(2, .int (nI (i9 + 1))), (0, .ref (Z 0))]) [0, 2] rfl ?_
          exact ih ((pre9 ar 0).length - (i9 + 1)) (by omega) (i9 + 1) _ M rfl (by omega) hR (fun x hx => mx_s hkm hx ha9 (hv x hx) (hsb x hx) hfv hna)
set_option maxHeartbeats 4000000 in
set_option maxRecDepth 100000 in
theorem c_X7_mixRow (D : mD) (A : Nat → Prop) (l : Launch) {Z : Nat → Nat} {F : Mm} {cm : Nat} {g : Int32} {ar : rA} {fi : Nat → Nat → Int32} {nl : Nat → Nat → Int64} {rw : Nat → Int32} {M : Mm} (hR : cS D Z F cm g ar fi nl (pre9 ar 0) rw M) (hw : wf ar cm) (hb : BD ar cm) (hfv : FV ar cm fi) {y9 : Nat} (hy9 : y9 < 48) : mMv D A l yX7_mixRow wsX7_mixRow ({ frames := 8, cells := 0, slots := 0, locals := 480 } : Room) [.ref (Z 0), .int (nI y9)] M (fun M' => ∃ (nl' : Nat → Nat → Int64) (rw' : Nat → Int32), cS D Z F cm g ar fi nl' (pre9 ar 0) rw' M' ∧ ∀ x, x < 64 → rw' x = q_val ar g (pre9 ar 0) (nI x) (nI y9)) 0 0 := by
  refine m_start (cc := cX7_mixRow) (maxL := 4) (ret := none) (by decide) rfl (Nat.le_of_ble_eq_true rfl) ?_
  intro p e s m args below meth c C
  have i_X7 : ∀ w ∈ wsX70, w ∈ wsX7_mixRow := by decide +kernel
  have i_X3 : ∀ w ∈ wsX30, w ∈ wsX7_mixRow := by decide +kernel
  have iL : ∀ w ∈ wsJx4a65c0, w ∈ wsX7_mixRow := by decide +kernel
  refine m_sub (L' := [(0, .ref (Z 0)), (1, .int (nI y9))]) [0, 1] rfl ?_
  refine m_aload_n C dX7_mixRow_0 rfl 0 rfl ?_
  refine m_iload_n C dX7_mixRow_1 rfl 1 rfl ?_
  refine m_callVv (As := [.int (nI y9)]) (st := []) C hR.me rfl (c_X7_scanRow D A l hR hw hb hfv hy9) (cwV 1 C.1.2.2.2.2 gX7_mixRow_X7_scanRow rfl rfl rfl (by decide +kernel) ⟨Nat.le_of_ble_eq_true rfl, Nat.le_of_ble_eq_true rfl⟩) rfl rfl (Nat.le_of_ble_eq_true rfl) dX7_mixRow_2 ⟨Nat.le_of_ble_eq_true rfl, Nat.le_of_ble_eq_true rfl⟩ (fun M1 hq1 => ?_)
  obtain ⟨m1, hR1, hs1⟩ := hq1
  clear hR
  rename cS D Z F cm g ar fi m1 (pre9 ar 0) rw M1 => hR
  refine m_aload_n C dX7_mixRow_5 rfl 0 rfl ?_
  refine m_get (ref := "PaintLayers") C hR.me rfl i_X7 4 (by decide) (by decide +kernel) (fun x h => h) (v := .ref (Z 3)) rfl dX7_mixRow_6 ?_
  refine m_aload_n C dX7_mixRow_9 rfl 0 rfl ?_
  refine m_get (ref := "PaintLayers") C hR.me rfl i_X7 6 (by decide) (by decide +kernel) (fun x h => h) (v := .int g) rfl dX7_mixRow_10 ?_
  refine m_callSv (As := [.ref (Z 3), .int g]) (st := []) C (c_J7_fill_53178 D A l hR.1.grw (by decide)) (va_cwS 2 C.1.2.2.2.2 gX7_mixRow_J7_fill_53178 rfl rfl rfl (by decide +kernel) ⟨Nat.le_of_ble_eq_true rfl, Nat.le_of_ble_eq_true rfl⟩) rfl rfl (Nat.le_of_ble_eq_true rfl) dX7_mixRow_13 ⟨Nat.le_of_ble_eq_true rfl, Nat.le_of_ble_eq_true rfl⟩ (fun M2 hq2 => ?_)
  have hR2 := hR.srw (q_flF rw g 64)
  rw [← hq2] at hR2
  refine m_iconst (v := 0) C dX7_mixRow_16 (by decide) ?_
  refine m_istore_n (L' := [(2, .int 0), (0, .ref (Z 0)), (1, .int (nI y9))]) C dX7_mixRow_17 rfl (by decide) rfl ?_
  refine m_sub (L' := [(2, .int 0), (0, .ref (Z 0))]) [0, 1] rfl ?_
  refine lp_X7_mixRow hw hb hfv i_X7 i_X3 iL hy9 hs1 C (fun rw9 M9 hR9 h9 => ?_) _ 0 _ M2 rfl (Nat.zero_le _) hR2 (fun x hx => if_pos hx)
  exact m_vret C (Nat.le_of_ble_eq_true rfl) (Nat.le_of_ble_eq_true rfl) dX7_mixRow_79 (⟨m1, rw9, hR9, h9⟩)

