/-! ===== the reference: painting ===== -/
section REF3
variable {p : Program} {l : Launch} {e : Env} {R : Room} {s : State} {m : MethodId} {args : Array Value} {below : List Frame} {meth : Method} {c : Code} {nL : Nat} {D : mD} {A : Nat → Prop} {Q : State → Prop} {M : Mm} {k n : Nat} {L : List (Nat × Value)} {st : List Value} {pc : Nat} {cc : ByteArray} {Ts : List Cond} {own : String} {y0 : MethodName} {ret0 : Option FieldType} {G : Nat → Nat} {o : Nat} {F : Mm} {t cm g u : Int32} {ar : rA}
theorem r_ialdF (C : mC p m meth c cc nL s args Ts own D A y0 ret0) (hR : rW D G o F t cm g u ar M) {a w : Nat} {sh : Nat → Int32} (hF : F a = some (.inl (D.2.1 0, w, .inl sh))) {i : Int32} (j : Nat) (hj : j < w) (hw : w < 2 ^ 31) (hi : i = nI j) (d : decode cc pc = .ok (.iaload, 1)) (kk : mV p l e R s m args below meth c nL D A Q M k n L (.int (sh j) :: st) (pc + 1)) : mV p l e R s m args below meth c nL D A Q M k n L (.int i :: .ref a :: st) pc := by
  subst hi
  refine m_iald C (hR.2.2.2 _ _ hF).1 (vp_in_nI hj hw) d ?_
  rw [nI_clamp (by omega)]
  exact kk
theorem m_mmax (C : mC p m meth c cc nL s args Ts own D A y0 ret0) {index : Nat} (hlink : Cond.methodLink own index Lib.Math.max.name ∈ Ts) (hstat : Cond.static Lib.Math.max.name ∈ Ts) (hini : Cond.initialized "java/lang/Math" ∈ Ts) (hcode : Cond.code Lib.Math.max.name Lib.Math.max.code 2 (some .int) ∈ Ts) (hframes : 1 ≤ R.frames) (hlocals : (st.map fun v => v.category).sum + 13 ≤ R.locals) (hc : k ≤ R.cells) (hs : n ≤ R.slots) {x y : Int32} (d : decode cc pc = .ok (.invokestatic index, 3)) (kk : mV p l e R s m args below meth c nL D A Q M k n L (.int (if x < y then y else x) :: st) (pc + 3)) : mV p l e R s m args below meth c nL D A Q M k n L (.int y :: .int x :: st) pc :=
  fun H locs ls hW hS hl => va_mmax C.1.1 C.1.2.1 (by rw [C.1.2.2.1]; exact hl.1.symm) C.1.2.2.2.1 (C.1.2.2.2.2 _ hlink) (C.1.2.2.2.2 _ hstat) (C.1.2.2.2.2 _ hini) (C.1.2.2.2.2 _ hcode) hframes hlocals hc hs d (kk H locs ls hW hS hl)
theorem m_mmin (C : mC p m meth c cc nL s args Ts own D A y0 ret0) {index : Nat} (hlink : Cond.methodLink own index Lib.Math.min.name ∈ Ts) (hstat : Cond.static Lib.Math.min.name ∈ Ts) (hini : Cond.initialized "java/lang/Math" ∈ Ts) (hcode : Cond.code Lib.Math.min.name Lib.Math.min.code 2 (some .int) ∈ Ts) (hframes : 1 ≤ R.frames) (hlocals : (st.map fun v => v.category).sum + 13 ≤ R.locals) (hc : k ≤ R.cells) (hs : n ≤ R.slots) {x y : Int32} (d : decode cc pc = .ok (.invokestatic index, 3)) (kk : mV p l e R s m args below meth c nL D A Q M k n L (.int (if y < x then y else x) :: st) (pc + 3)) : mV p l e R s m args below meth c nL D A Q M k n L (.int y :: .int x :: st) pc :=
  fun H locs ls hW hS hl => va_mmin C.1.1 C.1.2.1 (by rw [C.1.2.2.1]; exact hl.1.symm) C.1.2.2.2.1 (C.1.2.2.2.2 _ hlink) (C.1.2.2.2.2 _ hstat) (C.1.2.2.2.2 _ hini) (C.1.2.2.2.2 _ hcode) hframes hlocals hc hs d (kk H locs ls hW hS hl)
end REF3
set_option maxHeartbeats 4000000 in
set_option maxRecDepth 100000 in
theorem lp_X8_changes {p : Program} {l : Launch} {e : Env} {s : State} {m : MethodId} {args : Array Value} {below : List Frame} {meth : Method} {c : Code} {Q : State → Prop} {D : mD} {A : Nat → Prop} {G : Nat → Nat} {o : Nat} {F : Mm} {t g : Int32} {cm : Nat} {ar : rA} {od : Nat → Int32} {M : Mm} {L9 : List Nat} (hR : rW D G o F t (nI cm) g (nI L9.length) (upA ar 17 od) M) (hw : wf ar cm) (hlen : L9.length ≤ 40) (hod : ∀ k, k < L9.length → od k = nI (L9.getD k 0)) (hL : ∀ k, k < L9.length → L9.getD k 0 < cm ∧ ¬ ar 2 (L9.getD k 0) = 0) (hcm : 1 ≤ cm ∧ cm ≤ 40) {tl : Nat} (htl : tl < 48) (C : mC p m meth c cX8_changes 6 s args wsX8_changes yX8_changes.cls D A yX8_changes (some .int)) (i8 : ∀ w ∈ wsX80, w ∈ wsX8_changes) (kx : mV p l e ({ frames := 47, cells := 0, slots := 0, locals := 3000 } : Room) s m args below meth c 6 D A Q M 0 0 [(3, .int (nI 64)), (2, .int (nI (q_chg ar g L9 tl 64))), (0, .ref o), (1, .int (nI tl))] [] 76) : ∀ (N : Nat) (k9 : Nat), 64 - k9 = N → (k9 ≤ 64) → mV p l e ({ frames := 47, cells := 0, slots := 0, locals := 3000 } : Room) s m args below meth c 6 D A Q M 0 0 [(3, .int (nI k9)), (2, .int (nI (q_chg ar g L9 tl k9))), (0, .ref o), (1, .int (nI tl))] [] 4 := by
  intro N
  induction N using Nat.strongRecOn with
  | _ N ih =>
    intro k9 hN hk
    refine m_iload_n C dX8_changes_4 rfl 0 rfl ?_
    refine m_bipush (v := 64) C dX8_changes_5 (by decide) ?_
    refine m_icmp_ge (tgt := 76) C dX8_changes_7 (by decide) (fun h_1 => ?_) (fun h_1 => ?_)
    · have hkm : k9 = 64 := by
        have := (nI_leI (a := 64) (b := k9) (by omega) (by omega)).mp h_1
        omega
      subst hkm
      exact kx
    · have hkm : k9 < 64 := by
        rcases Nat.lt_or_ge k9 64 with z | z
        · exact z
        · exact absurd (nI_le (a := 64) (b := k9) z (by omega)) h_1
      refine m_bipush (v := 8) C dX8_changes_10 (by decide) ?_
      refine m_iload_n C dX8_changes_12 rfl 3 rfl ?_
      refine m_bipush (v := 8) C dX8_changes_13 (by decide) ?_
      refine m_irem C dX8_changes_15 (by decide) ?_
      refine m_i (y := nI (tl % 8)) (pk_rem (a := tl) (d := 8) (by omega) (by decide) (by decide)) ?_
      refine m_imul C dX8_changes_16 ?_
      refine m_iload_n C dX8_changes_17 rfl 0 rfl ?_
      refine m_bipush (v := 8) C dX8_changes_18 (by decide) ?_
      refine m_irem C dX8_changes_20 (by decide) ?_
      refine m_i (y := nI (k9 % 8)) (pk_rem (a := k9) (d := 8) (by omega) (by decide) (by decide)) ?_
      refine m_iadd C dX8_changes_21 ?_
      refine m_i (y := nI (8 * (tl % 8) + k9 % 8)) (by rw [show (8 : Int32) = nI 8 from rfl, pk_mul, nI_add]) ?_
      refine m_istore (L' := [(4, .int (nI (8 * (tl % 8) + k9 % 8))), (3, .int (nI k9)), (2, .int (nI (q_chg ar g L9 tl k9))), (0, .ref o), (1, .int (nI tl))]) C dX8_changes_22 (by decide) rfl ?_
      refine m_bipush (v := 8) C dX8_changes_24 (by decide) ?_
      refine m_iload_n C dX8_changes_26 rfl 4 rfl ?_
      refine m_bipush (v := 8) C dX8_changes_27 (by decide) ?_
      refine m_idiv C dX8_changes_29 (by decide) ?_
      refine m_i (y := nI (tl / 8)) (pk_div (a := tl) (d := 8) (by omega) (by decide) (by decide)) ?_
      refine m_imul C dX8_changes_30 ?_
      refine m_iload_n C dX8_changes_31 rfl 1 rfl ?_
      refine m_bipush (v := 8) C dX8_changes_32 (by decide) ?_
      refine m_idiv C dX8_changes_34 (by decide) ?_
      refine m_i (y := nI (k9 / 8)) (pk_div (a := k9) (d := 8) (by omega) (by decide) (by decide)) ?_
      refine m_iadd C dX8_changes_35 ?_
      refine m_i (y := nI (8 * (tl / 8) + k9 / 8)) (by rw [show (8 : Int32) = nI 8 from rfl, pk_mul, nI_add]) ?_
      refine m_istore (L' := [(5, .int (nI (8 * (tl / 8) + k9 / 8))), (4, .int (nI (8 * (tl % 8) + k9 % 8))), (3, .int (nI k9)), (2, .int (nI (q_chg ar g L9 tl k9))), (0, .ref o), (1, .int (nI tl))]) C dX8_changes_36 (by decide) rfl ?_
      refine m_iload_n C dX8_changes_38 rfl 3 rfl ?_
      refine m_aload_n C dX8_changes_39 rfl 4 rfl ?_
      refine m_iload C dX8_changes_40 1 rfl ?_
      refine m_iload C dX8_changes_42 0 rfl ?_
      refine m_callVFi (As := [.int (nI (8 * (tl % 8) + k9 % 8)), .int (nI (8 * (tl / 8) + k9 / 8))]) (st := [.int (nI (q_chg ar g L9 tl k9))]) (v := q_val ar g L9 (nI (8 * (tl % 8) + k9 % 8)) (nI (8 * (tl / 8) + k9 / 8))) C hR.1 rfl (c_X8_valueOf D A l hR hw hlen hod hL (nI (8 * (tl % 8) + k9 % 8)) (nI (8 * (tl / 8) + k9 / 8))) (cwV 2 C.1.2.2.2.2 gX8_changes_X8_valueOf rfl rfl rfl (by decide +kernel) ⟨Nat.le_of_ble_eq_true rfl, Nat.le_of_ble_eq_true rfl⟩) rfl rfl (Nat.le_of_ble_eq_true rfl) dX8_changes_44 ⟨Nat.le_of_ble_eq_true rfl, Nat.le_of_ble_eq_true rfl⟩ ?_
      refine m_aload_n C dX8_changes_47 rfl 4 rfl ?_
      refine r_get C hR i8 16 (by decide) (by decide +kernel) rfl rfl dX8_changes_48 ?_
      refine m_bipush (v := 64) C dX8_changes_51 (by decide) ?_
      refine m_iload C dX8_changes_53 0 rfl ?_
      refine m_imul C dX8_changes_55 ?_
      refine m_iload C dX8_changes_56 1 rfl ?_
      refine m_iadd C dX8_changes_58 ?_
      refine r_iald C hR 16 (by decide) rfl (64 * (8 * (tl / 8) + k9 / 8) + (8 * (tl % 8) + k9 % 8)) (show (64 * (8 * (tl / 8) + k9 / 8) + (8 * (tl % 8) + k9 % 8)) < 3072 by omega) (by rw [show (64 : Int32) = nI 64 from rfl, pk_mul, nI_add]) dX8_changes_59 ?_
      refine m_i (y := ar 16 (64 * (8 * (tl / 8) + k9 / 8) + (8 * (tl % 8) + k9 % 8))) (rfl) ?_
      refine m_icmp_ne (tgt := 67) C dX8_changes_60 (by decide) (fun h_2 => ?_) (fun h_2 => ?_)
      · refine m_iconst (v := 1) C dX8_changes_67 (by decide) ?_
        refine m_iadd C dX8_changes_68 ?_
        refine m_istore_n (L' := [(2, .int ((nI (q_chg ar g L9 tl k9)) + 1)), (5, .int (nI (8 * (tl / 8) + k9 / 8))), (4, .int (nI (8 * (tl % 8) + k9 % 8))), (3, .int (nI k9)), (0, .ref o), (1, .int (nI tl))]) C dX8_changes_69 rfl (by decide) rfl ?_
        obtain ⟨x_3, ex_3⟩ : ∃ z : Int32, z = nI k9 + 1 := ⟨_, rfl⟩
        refine m_iinc (q := 3) (v := x_3) (L' := [(3, .int x_3), (2, .int ((nI (q_chg ar g L9 tl k9)) + 1)), (5, .int (nI (8 * (tl / 8) + k9 / 8))), (4, .int (nI (8 * (tl % 8) + k9 % 8))), (0, .ref o), (1, .int (nI tl))]) C dX8_changes_70 rfl (by rw [ex_3]; rfl) (by decide) rfl ?_
        refine m_goto (tgt := 4) C dX8_changes_73 (by decide) ?_
        rw [nI_1] at ex_3
        subst ex_3
        refine m_sub (L' := [(3, .int (nI (k9 + 1))), (2, .int ((nI (q_chg ar g L9 tl k9)) + 1)), (0, .ref o), (1, .int (nI tl))]) [0, 1, 4, 5] rfl ?_
        rw [show (nI (q_chg ar g L9 tl k9)) + 1 = nI (q_chg ar g L9 tl (k9 + 1)) by rw [q_chg, if_neg h_2, nI_1]]
        exact ih (64 - (k9 + 1)) (by omega) (k9 + 1) rfl (by omega)
      · refine m_iconst (v := 0) C dX8_changes_63 (by decide) ?_
        refine m_goto (tgt := 68) C dX8_changes_64 (by decide) ?_
        refine m_iadd C dX8_changes_68 ?_
        refine m_istore_n (L' := [(2, .int ((nI (q_chg ar g L9 tl k9)) + 0)), (5, .int (nI (8 * (tl / 8) + k9 / 8))), (4, .int (nI (8 * (tl % 8) + k9 % 8))), (3, .int (nI k9)), (0, .ref o), (1, .int (nI tl))]) C dX8_changes_69 rfl (by decide) rfl ?_
        obtain ⟨x_4, ex_4⟩ : ∃ z : Int32, z = nI k9 + 1 := ⟨_, rfl⟩
        refine m_iinc (q := 3) (v := x_4) (L' := [(3, .int x_4), (2, .int ((nI (q_chg ar g L9 tl k9)) + 0)), (5, .int (nI (8 * (tl / 8) + k9 / 8))), (4, .int (nI (8 * (tl % 8) + k9 % 8))), (0, .ref o), (1, .int (nI tl))]) C dX8_changes_70 rfl (by rw [ex_4]; rfl) (by decide) rfl ?_
        refine m_goto (tgt := 4) C dX8_changes_73 (by decide) ?_
        rw [nI_1] at ex_4
        subst ex_4
        refine m_sub (L' := [(3, .int (nI (k9 + 1))), (2, .int ((nI (q_chg ar g L9 tl k9)) + 0)), (0, .ref o), (1, .int (nI tl))]) [0, 1, 4, 5] rfl ?_
        rw [show (nI (q_chg ar g L9 tl k9)) + 0 = nI (q_chg ar g L9 tl (k9 + 1)) by rw [q_chg, if_pos h_2]; exact (show nI _ + nI 0 = nI _ by rw [nI_add])]
        exact ih (64 - (k9 + 1)) (by omega) (k9 + 1) rfl (by omega)
set_option maxHeartbeats 4000000 in
set_option maxRecDepth 100000 in
theorem c_X8_changes (D : mD) (A : Nat → Prop) (l : Launch) {G : Nat → Nat} {o : Nat} {F : Mm} {t g : Int32} {cm : Nat} {ar : rA} {od : Nat → Int32} {M : Mm} {L9 : List Nat} (hR : rW D G o F t (nI cm) g (nI L9.length) (upA ar 17 od) M) (hw : wf ar cm) (hlen : L9.length ≤ 40) (hod : ∀ k, k < L9.length → od k = nI (L9.getD k 0)) (hL : ∀ k, k < L9.length → L9.getD k 0 < cm ∧ ¬ ar 2 (L9.getD k 0) = 0) {tl : Nat} (htl : tl < 48) : mMi D A l yX8_changes wsX8_changes ({ frames := 47, cells := 0, slots := 0, locals := 3000 } : Room) [.ref o, .int (nI tl)] M (fun r M' => M' = M ∧ r = nI (q_chg ar g L9 tl 64)) 0 0 := by
  have hcm := hw.1
  refine m_start (cc := cX8_changes) (maxL := 6) (ret := (some .int)) (by decide) rfl (Nat.le_of_ble_eq_true rfl) ?_
  intro p e s m args below meth c C
  have i8 : ∀ w ∈ wsX80, w ∈ wsX8_changes := by decide +kernel
  refine m_sub (L' := [(0, .ref o), (1, .int (nI tl))]) [0, 1] rfl ?_
  refine m_iconst (v := 0) C dX8_changes_0 (by decide) ?_
  refine m_istore_n (L' := [(2, .int 0), (0, .ref o), (1, .int (nI tl))]) C dX8_changes_1 rfl (by decide) rfl ?_
  refine m_iconst (v := 0) C dX8_changes_2 (by decide) ?_
  refine m_istore_n (L' := [(3, .int 0), (2, .int 0), (0, .ref o), (1, .int (nI tl))]) C dX8_changes_3 rfl (by decide) rfl ?_
  refine m_sub (L' := [(3, .int 0), (2, .int 0), (0, .ref o), (1, .int (nI tl))]) [0, 1, 2, 3] rfl ?_
  refine lp_X8_changes hR hw hlen hod hL hcm htl C i8 ?_ _ 0 rfl (by decide)
  refine m_iload_n C dX8_changes_76 rfl 1 rfl ?_
  exact m_iret C (Nat.le_of_ble_eq_true rfl) (Nat.le_of_ble_eq_true rfl) dX8_changes_77 (⟨rfl, rfl⟩)
set_option maxHeartbeats 4000000 in
set_option maxRecDepth 100000 in
theorem c_X8_changed (D : mD) (A : Nat → Prop) (l : Launch) {G : Nat → Nat} {o : Nat} {F : Mm} {t g u : Int32} {cm : Nat} {ar : rA} {od : Nat → Int32} {M : Mm} (hR : rW D G o F t (nI cm) g u (upA ar 17 od) M) (hw : wf ar cm) (v : Int32) : mMi D A l yX8_changed wsX8_changed ({ frames := 48, cells := 0, slots := 0, locals := 3100 } : Room) [.ref o, .int v] M (fun r M' => (∃ (od2 : Nat → Int32) (u2 : Int32), rW D G o F (k_tile v) (nI cm) g u2 (upA ar 17 od2) M') ∧ (k_tile v = 0 → r = nI (q_chg ar g (pre9 ar 0) (jN v) 64))) 0 0 := by
  have hcm := hw.1
  refine m_start (cc := cX8_changed) (maxL := 2) (ret := (some .int)) (by decide) rfl (Nat.le_of_ble_eq_true rfl) ?_
  intro p e s m args below meth c C
  have i8 : ∀ w ∈ wsX80, w ∈ wsX8_changed := by decide +kernel
  refine m_sub (L' := [(0, .ref o), (1, .int v)]) [0, 1] rfl ?_
  refine m_aload_n C dX8_changed_0 rfl 0 rfl ?_
  refine m_iconst (v := 0) C dX8_changed_1 (by decide) ?_
  refine r_putT C hR i8 (by decide +kernel) dX8_changed_2 (fun M hR => ?_)
  refine m_iload_n C dX8_changed_5 rfl 1 rfl ?_
  refine m_iconst (v := 0) C dX8_changed_6 (by decide) ?_
  refine m_bipush (v := 47) C dX8_changed_7 (by decide) ?_
  refine m_callSFi (As := [.int v, .int 0, .int 47]) (st := []) C (c_X8_isIn D A l M v 0 47) (va_cwS 3 C.1.2.2.2.2 gX8_changed_X8_isIn rfl rfl rfl (by decide +kernel) ⟨Nat.le_of_ble_eq_true rfl, Nat.le_of_ble_eq_true rfl⟩) rfl rfl (Nat.le_of_ble_eq_true rfl) dX8_changed_9 ⟨Nat.le_of_ble_eq_true rfl, Nat.le_of_ble_eq_true rfl⟩ ?_
  refine m_if_ne (tgt := 21) C dX8_changed_12 (by decide) (fun h1 => ?_) (fun h1 => ?_)
  · have h1 := bI_n h1
    obtain ⟨tl, htl, htt⟩ := q_in_N (a := 47) (by decide) h1
    subst htt
    have htc : jN (nI tl) = tl := nI_clamp (by omega)
    refine m_aload_n C dX8_changed_21 rfl 0 rfl ?_
    refine m_iconst (v := 0) C dX8_changed_22 (by decide) ?_
    refine m_callVv (As := [.int 0]) (st := []) C hR.1 rfl (c_X8_walkAll D A l hR (n0 := 0) (by omega) (wf_tr40 hw (wf_root hw).1 (wf_root hw).2) (wf_pre40 hw (wf_root hw).1 (wf_root hw).2)) (cwV 1 C.1.2.2.2.2 gX8_changed_X8_walkAll rfl rfl rfl (by decide +kernel) ⟨Nat.le_of_ble_eq_true rfl, Nat.le_of_ble_eq_true rfl⟩) rfl rfl (Nat.le_of_ble_eq_true rfl) dX8_changed_23 ⟨Nat.le_of_ble_eq_true rfl, Nat.le_of_ble_eq_true rfl⟩ (fun M hq9 => ?_)
    obtain ⟨od2, hod, hR⟩ := hq9
    have hL := wf_preL hw (wf_root hw).1 (wf_root hw).2
    have hlen := wf_pre40 hw (wf_root hw).1 (wf_root hw).2
    refine m_aload_n C dX8_changed_26 rfl 0 rfl ?_
    refine m_iload_n C dX8_changed_27 rfl 1 rfl ?_
    refine m_callVFi (As := [.int (nI tl)]) (st := []) (v := nI (q_chg ar g (pre9 ar 0) tl 64)) C hR.1 rfl (c_X8_changes D A l (L9 := (pre9 ar 0)) hR hw hlen hod hL (tl := tl) (by omega)) (cwV 1 C.1.2.2.2.2 gX8_changed_X8_changes rfl rfl rfl (by decide +kernel) ⟨Nat.le_of_ble_eq_true rfl, Nat.le_of_ble_eq_true rfl⟩) rfl rfl (Nat.le_of_ble_eq_true rfl) dX8_changed_28 ⟨Nat.le_of_ble_eq_true rfl, Nat.le_of_ble_eq_true rfl⟩ ?_
    exact m_iret C (Nat.le_of_ble_eq_true rfl) (Nat.le_of_ble_eq_true rfl) dX8_changed_31 (by rw [show k_tile (nI tl) = 0 by simp [k_tile, h1]]; exact ⟨⟨_, _, hR⟩, fun _ => by rw [htc]⟩)
  · have h1 := bI_z h1
    refine m_aload_n C dX8_changed_15 rfl 0 rfl ?_
    refine m_iconst (v := 1) C dX8_changed_16 (by decide) ?_
    refine m_callVi (As := [.int 1]) (st := []) C hR.1 rfl (c_X8_fail D A l hR 1) (cwV 1 C.1.2.2.2.2 gX8_changed_X8_fail rfl rfl rfl (by decide +kernel) ⟨Nat.le_of_ble_eq_true rfl, Nat.le_of_ble_eq_true rfl⟩) rfl rfl (Nat.le_of_ble_eq_true rfl) dX8_changed_17 ⟨Nat.le_of_ble_eq_true rfl, Nat.le_of_ble_eq_true rfl⟩ (fun r M h => ?_)
    obtain ⟨rfl, hR⟩ := h
    exact m_iret C (Nat.le_of_ble_eq_true rfl) (Nat.le_of_ble_eq_true rfl) dX8_changed_20 (by rw [show k_tile v = 1 by simp [k_tile, h1]]; exact ⟨⟨_, _, hR⟩, fun z => absurd z (by decide)⟩)
set_option maxHeartbeats 4000000 in
set_option maxRecDepth 100000 in
theorem lp_X8_dirty {p : Program} {l : Launch} {e : Env} {s : State} {m : MethodId} {args : Array Value} {below : List Frame} {meth : Method} {c : Code} {Q : State → Prop} {D : mD} {A : Nat → Prop} {G : Nat → Nat} {o : Nat} {F : Mm} {t g : Int32} {cm : Nat} {ar : rA} {od : Nat → Int32} {M : Mm} {L9 : List Nat} (hR : rW D G o F t (nI cm) g (nI L9.length) (upA ar 17 od) M) (hw : wf ar cm) (hlen : L9.length ≤ 40) (hod : ∀ k, k < L9.length → od k = nI (L9.getD k 0)) (hL : ∀ k, k < L9.length → L9.getD k 0 < cm ∧ ¬ ar 2 (L9.getD k 0) = 0) (hcm : 1 ≤ cm ∧ cm ≤ 40) (C : mC p m meth c cX8_dirty 3 s args wsX8_dirty yX8_dirty.cls D A yX8_dirty (some .int)) (i8 : ∀ w ∈ wsX80, w ∈ wsX8_dirty) (kx : mV p l e ({ frames := 48, cells := 0, slots := 0, locals := 3100 } : Room) s m args below meth c 3 D A Q M 0 0 [(2, .int (nI 48)), (1, .int (nI (q_dty ar g L9 48))), (0, .ref o)] [] 37) : ∀ (N : Nat) (k9 : Nat), 48 - k9 = N → (k9 ≤ 48) → mV p l e ({ frames := 48, cells := 0, slots := 0, locals := 3100 } : Room) s m args below meth c 3 D A Q M 0 0 [(2, .int (nI k9)), (1, .int (nI (q_dty ar g L9 k9))), (0, .ref o)] [] 9 := by
  intro N
  induction N using Nat.strongRecOn with
  | _ N ih =>
    intro k9 hN hk
    refine m_iload_n C dX8_dirty_9 rfl 0 rfl ?_
    refine m_bipush (v := 48) C dX8_dirty_10 (by decide) ?_
    refine m_icmp_ge (tgt := 37) C dX8_dirty_12 (by decide) (fun h_1 => ?_) (fun h_1 => ?_)
    · have hkm : k9 = 48 := by
        have := (nI_leI (a := 48) (b := k9) (by omega) (by omega)).mp h_1
        omega
      subst hkm
      exact kx
    · have hkm : k9 < 48 := by
        rcases Nat.lt_or_ge k9 48 with z | z
        · exact z
        · exact absurd (nI_le (a := 48) (b := k9) z (by omega)) h_1
      have hcl := q_chg_le ar g L9 k9 64
      refine m_iload_n C dX8_dirty_15 rfl 1 rfl ?_
      refine m_aload_n C dX8_dirty_16 rfl 2 rfl ?_
      refine m_iload_n C dX8_dirty_17 rfl 0 rfl ?_
      refine m_callVFi (As := [.int (nI k9)]) (st := [.int (nI (q_dty ar g L9 k9))]) (v := nI (q_chg ar g L9 k9 64)) C hR.1 rfl (c_X8_changes D A l (L9 := L9) hR hw hlen hod hL (tl := k9) (by omega)) (cwV 1 C.1.2.2.2.2 gX8_dirty_X8_changes rfl rfl rfl (by decide +kernel) ⟨Nat.le_of_ble_eq_true rfl, Nat.le_of_ble_eq_true rfl⟩) rfl rfl (Nat.le_of_ble_eq_true rfl) dX8_dirty_18 ⟨Nat.le_of_ble_eq_true rfl, Nat.le_of_ble_eq_true rfl⟩ ?_
      refine m_if_le (tgt := 28) C dX8_dirty_21 (by decide) (fun h_2 => ?_) (fun h_2 => ?_)
      · have hcz : ¬ 0 < q_chg ar g L9 k9 64 := fun y => nI_nle y (by omega) h_2
        refine m_iconst (v := 0) C dX8_dirty_28 (by decide) ?_
        refine m_iadd C dX8_dirty_29 ?_
        refine m_istore_n (L' := [(1, .int ((nI (q_dty ar g L9 k9)) + 0)), (2, .int (nI k9)), (0, .ref o)]) C dX8_dirty_30 rfl (by decide) rfl ?_
        obtain ⟨x_3, ex_3⟩ : ∃ z : Int32, z = nI k9 + 1 := ⟨_, rfl⟩
        refine m_iinc (q := 1) (v := x_3) (L' := [(2, .int x_3), (1, .int ((nI (q_dty ar g L9 k9)) + 0)), (0, .ref o)]) C dX8_dirty_31 rfl (by rw [ex_3]; rfl) (by decide) rfl ?_
        refine m_goto (tgt := 9) C dX8_dirty_34 (by decide) ?_
        rw [nI_1] at ex_3
        subst ex_3
        refine m_sub (L' := [(2, .int (nI (k9 + 1))), (1, .int ((nI (q_dty ar g L9 k9)) + 0)), (0, .ref o)]) [0, 1, 2] rfl ?_
        rw [show (nI (q_dty ar g L9 k9)) + 0 = nI (q_dty ar g L9 (k9 + 1)) by rw [q_dty, if_neg hcz]; exact (show nI _ + nI 0 = nI _ by rw [nI_add])]
        exact ih (48 - (k9 + 1)) (by omega) (k9 + 1) rfl (by omega)
      · have hcz : 0 < q_chg ar g L9 k9 64 := by
          rcases Nat.eq_zero_or_pos (q_chg ar g L9 k9 64) with y | y
          · rw [y] at h_2; exact absurd (show nI 0 ≤ 0 by decide) h_2
          · exact y
        refine m_iconst (v := 1) C dX8_dirty_24 (by decide) ?_
        refine m_goto (tgt := 29) C dX8_dirty_25 (by decide) ?_
        refine m_iadd C dX8_dirty_29 ?_
        refine m_istore_n (L' := [(1, .int ((nI (q_dty ar g L9 k9)) + 1)), (2, .int (nI k9)), (0, .ref o)]) C dX8_dirty_30 rfl (by decide) rfl ?_
        obtain ⟨x_4, ex_4⟩ : ∃ z : Int32, z = nI k9 + 1 := ⟨_, rfl⟩
        refine m_iinc (q := 1) (v := x_4) (L' := [(2, .int x_4), (1, .int ((nI (q_dty ar g L9 k9)) + 1)), (0, .ref o)]) C dX8_dirty_31 rfl (by rw [ex_4]; rfl) (by decide) rfl ?_
        refine m_goto (tgt := 9) C dX8_dirty_34 (by decide) ?_
        rw [nI_1] at ex_4
        subst ex_4
        refine m_sub (L' := [(2, .int (nI (k9 + 1))), (1, .int ((nI (q_dty ar g L9 k9)) + 1)), (0, .ref o)]) [0, 1, 2] rfl ?_
        rw [show (nI (q_dty ar g L9 k9)) + 1 = nI (q_dty ar g L9 (k9 + 1)) by rw [q_dty, if_pos hcz, nI_1]]
        exact ih (48 - (k9 + 1)) (by omega) (k9 + 1) rfl (by omega)
set_option maxHeartbeats 4000000 in
set_option maxRecDepth 100000 in
theorem c_X8_dirty (D : mD) (A : Nat → Prop) (l : Launch) {G : Nat → Nat} {o : Nat} {F : Mm} {t g u : Int32} {cm : Nat} {ar : rA} {od : Nat → Int32} {M : Mm} (hR : rW D G o F t (nI cm) g u (upA ar 17 od) M) (hw : wf ar cm) : mMi D A l yX8_dirty wsX8_dirty ({ frames := 48, cells := 0, slots := 0, locals := 3100 } : Room) [.ref o] M (fun r M' => r = nI (q_dty ar g (pre9 ar 0) 48) ∧ ∃ od2 : Nat → Int32, (∀ k, k < (pre9 ar 0).length → od2 k = nI ((pre9 ar 0).getD k 0)) ∧ rW D G o F t (nI cm) g (nI (pre9 ar 0).length) (upA ar 17 od2) M') 0 0 := by
  have hcm := hw.1
  refine m_start (cc := cX8_dirty) (maxL := 3) (ret := (some .int)) (by decide) rfl (Nat.le_of_ble_eq_true rfl) ?_
  intro p e s m args below meth c C
  have i8 : ∀ w ∈ wsX80, w ∈ wsX8_dirty := by decide +kernel
  refine m_sub (L' := [(0, .ref o)]) [0] rfl ?_
  refine m_aload_n C dX8_dirty_0 rfl 0 rfl ?_
  refine m_iconst (v := 0) C dX8_dirty_1 (by decide) ?_
  refine m_callVv (As := [.int 0]) (st := []) C hR.1 rfl (c_X8_walkAll D A l hR (n0 := 0) (by omega) (wf_tr40 hw (wf_root hw).1 (wf_root hw).2) (wf_pre40 hw (wf_root hw).1 (wf_root hw).2)) (cwV 1 C.1.2.2.2.2 gX8_dirty_X8_walkAll rfl rfl rfl (by decide +kernel) ⟨Nat.le_of_ble_eq_true rfl, Nat.le_of_ble_eq_true rfl⟩) rfl rfl (Nat.le_of_ble_eq_true rfl) dX8_dirty_2 ⟨Nat.le_of_ble_eq_true rfl, Nat.le_of_ble_eq_true rfl⟩ (fun M hq9 => ?_)
  obtain ⟨od2, hod, hR⟩ := hq9
  have hL := wf_preL hw (wf_root hw).1 (wf_root hw).2
  have hlen := wf_pre40 hw (wf_root hw).1 (wf_root hw).2
  refine m_iconst (v := 0) C dX8_dirty_5 (by decide) ?_
  refine m_istore_n (L' := [(1, .int 0), (0, .ref o)]) C dX8_dirty_6 rfl (by decide) rfl ?_
  refine m_iconst (v := 0) C dX8_dirty_7 (by decide) ?_
  refine m_istore_n (L' := [(2, .int 0), (1, .int 0), (0, .ref o)]) C dX8_dirty_8 rfl (by decide) rfl ?_
  refine m_sub (L' := [(2, .int 0), (1, .int 0), (0, .ref o)]) [0, 1, 2] rfl ?_
  refine lp_X8_dirty (L9 := pre9 ar 0) hR hw hlen hod hL hcm C i8 ?_ _ 0 rfl (by decide)
  refine m_iload_n C dX8_dirty_37 rfl 1 rfl ?_
  exact m_iret C (Nat.le_of_ble_eq_true rfl) (Nat.le_of_ble_eq_true rfl) dX8_dirty_38 (⟨rfl, od2, hod, hR⟩)
set_option maxHeartbeats 4000000 in
set_option maxRecDepth 100000 in
theorem lp_X8_paint {p : Program} {l : Launch} {e : Env} {s : State} {m : MethodId} {args : Array Value} {below : List Frame} {meth : Method} {c : Code} {Q : State → Prop} {D : mD} {A : Nat → Prop} {G : Nat → Nat} {o : Nat} {F : Mm} {g : Int32} {cm : Nat} {ar : rA} {od : Nat → Int32} {L9 : List Nat} {r9 : Int32} (hw : wf ar cm) (hlen : L9.length ≤ 40) (hod : ∀ k, k < L9.length → od k = nI (L9.getD k 0)) (hL : ∀ k, k < L9.length → L9.getD k 0 < cm ∧ ¬ ar 2 (L9.getD k 0) = 0) (C : mC p m meth c cX8_paint 3 s args wsX8_paint yX8_paint.cls D A yX8_paint (some .int)) (i8 : ∀ w ∈ wsX80, w ∈ wsX8_paint) (kx : ∀ M : Mm, rW D G o F 0 (nI cm) g (nI L9.length) (upA (upA ar 16 (q_pnt ar g L9 (ar 16) 3072)) 17 od) M → mV p l e ({ frames := 49, cells := 0, slots := 0, locals := 3200 } : Room) s m args below meth c 3 D A Q M 0 0 [(2, .int (nI 3072)), (0, .ref o), (1, .int r9)] [] 43) : ∀ (N : Nat) (k9 : Nat) (M : Mm), 3072 - k9 = N → (k9 ≤ 3072) → (rW D G o F 0 (nI cm) g (nI L9.length) (upA (upA ar 16 (q_pnt ar g L9 (ar 16) k9)) 17 od) M) → mV p l e ({ frames := 49, cells := 0, slots := 0, locals := 3200 } : Room) s m args below meth c 3 D A Q M 0 0 [(2, .int (nI k9)), (0, .ref o), (1, .int r9)] [] 12 := by
  intro N
  induction N using Nat.strongRecOn with
  | _ N ih =>
    intro k9 M hN hk hR
    refine m_iload_n C dX8_paint_12 rfl 0 rfl ?_
    refine m_sipush (v := 3072) C dX8_paint_13 (by decide) ?_
    refine m_icmp_ge (tgt := 43) C dX8_paint_16 (by decide) (fun h_1 => ?_) (fun h_1 => ?_)
    · have hkm : k9 = 3072 := by
        have := (nI_leI (a := 3072) (b := k9) (by omega) (by omega)).mp h_1
        omega
      subst hkm
      exact kx M hR
    · have hkm : k9 < 3072 := by
        rcases Nat.lt_or_ge k9 3072 with z | z
        · exact z
        · exact absurd (nI_le (a := 3072) (b := k9) z (by omega)) h_1
      refine m_aload_n C dX8_paint_19 rfl 1 rfl ?_
      refine r_get C hR i8 16 (by decide) (by decide +kernel) rfl rfl dX8_paint_20 ?_
      refine m_iload_n C dX8_paint_23 rfl 0 rfl ?_
      refine m_aload_n C dX8_paint_24 rfl 1 rfl ?_
      refine m_iload_n C dX8_paint_25 rfl 0 rfl ?_
      refine m_bipush (v := 64) C dX8_paint_26 (by decide) ?_
      refine m_irem C dX8_paint_28 (by decide) ?_
      refine m_i (y := nI (k9 % 64)) (pk_rem (a := k9) (d := 64) (by omega) (by decide) (by decide)) ?_
      refine m_iload_n C dX8_paint_29 rfl 0 rfl ?_
      refine m_bipush (v := 64) C dX8_paint_30 (by decide) ?_
      refine m_idiv C dX8_paint_32 (by decide) ?_
      refine m_i (y := nI (k9 / 64)) (pk_div (a := k9) (d := 64) (by omega) (by decide) (by decide)) ?_
      refine m_callVFi (As := [.int (nI (k9 % 64)), .int (nI (k9 / 64))]) (st := [.int (nI k9), .ref (G 16)]) (v := q_val (upA ar 16 (q_pnt ar g L9 (ar 16) k9)) g L9 (nI (k9 % 64)) (nI (k9 / 64))) C hR.1 rfl (c_X8_valueOf D A l hR (cv_wf hw) hlen hod hL (nI (k9 % 64)) (nI (k9 / 64))) (cwV 2 C.1.2.2.2.2 gX8_paint_X8_valueOf rfl rfl rfl (by decide +kernel) ⟨Nat.le_of_ble_eq_true rfl, Nat.le_of_ble_eq_true rfl⟩) rfl rfl (Nat.le_of_ble_eq_true rfl) dX8_paint_33 ⟨Nat.le_of_ble_eq_true rfl, Nat.le_of_ble_eq_true rfl⟩ ?_
      refine m_i (y := q_val ar g L9 (nI (k9 % 64)) (nI (k9 / 64))) (cv_val _ _ _ _) ?_
      refine r_iast C hR 16 (by decide) rfl k9 (show k9 < 3072 by omega) (rfl) dX8_paint_36 (fun M hR => ?_)
      have hR := r_c17 (f := 16) (v := upd (q_pnt ar g L9 (ar 16) k9) k9 (q_val ar g L9 (nI (k9 % 64)) (nI (k9 / 64)))) (by decide) hR
      rw [upA_upA] at hR
      obtain ⟨x_2, ex_2⟩ : ∃ z : Int32, z = nI k9 + 1 := ⟨_, rfl⟩
      refine m_iinc (q := 0) (v := x_2) (L' := [(2, .int x_2), (0, .ref o), (1, .int r9)]) C dX8_paint_37 rfl (by rw [ex_2]; rfl) (by decide) rfl ?_
      refine m_goto (tgt := 12) C dX8_paint_40 (by decide) ?_
      rw [nI_1] at ex_2
      subst ex_2
      refine m_sub (L' := [(2, .int (nI (k9 + 1))), (0, .ref o), (1, .int r9)]) [0, 1, 2] rfl ?_
      exact ih (3072 - (k9 + 1)) (by omega) (k9 + 1) M rfl (by omega) hR
set_option maxHeartbeats 4000000 in
set_option maxRecDepth 100000 in
theorem c_X8_paint (D : mD) (A : Nat → Prop) (l : Launch) {G : Nat → Nat} {o : Nat} {F : Mm} {t g u : Int32} {cm : Nat} {ar : rA} {od : Nat → Int32} {M : Mm} (hR : rW D G o F t (nI cm) g u (upA ar 17 od) M) (hw : wf ar cm) : mMi D A l yX8_paint wsX8_paint ({ frames := 49, cells := 0, slots := 0, locals := 3200 } : Room) [.ref o] M (fun r M' => r = nI (q_dty ar g (pre9 ar 0) 48) ∧ ∃ (od2 : Nat → Int32) (u2 : Int32), rW D G o F 0 (nI cm) g u2 (upA (upA ar 16 (q_pnt ar g (pre9 ar 0) (ar 16) 3072)) 17 od2) M') 0 0 := by
  have hcm := hw.1
  refine m_start (cc := cX8_paint) (maxL := 3) (ret := (some .int)) (by decide) rfl (Nat.le_of_ble_eq_true rfl) ?_
  intro p e s m args below meth c C
  have i8 : ∀ w ∈ wsX80, w ∈ wsX8_paint := by decide +kernel
  refine m_sub (L' := [(0, .ref o)]) [0] rfl ?_
  refine m_aload_n C dX8_paint_0 rfl 0 rfl ?_
  refine m_iconst (v := 0) C dX8_paint_1 (by decide) ?_
  refine r_putT C hR i8 (by decide +kernel) dX8_paint_2 (fun M hR => ?_)
  refine m_aload_n C dX8_paint_5 rfl 0 rfl ?_
  refine m_callVi (As := []) (st := []) C hR.1 rfl (c_X8_dirty D A l hR hw) (cwV 0 C.1.2.2.2.2 gX8_paint_X8_dirty rfl rfl rfl (by decide +kernel) ⟨Nat.le_of_ble_eq_true rfl, Nat.le_of_ble_eq_true rfl⟩) rfl rfl (Nat.le_of_ble_eq_true rfl) dX8_paint_6 ⟨Nat.le_of_ble_eq_true rfl, Nat.le_of_ble_eq_true rfl⟩ (fun r M hq9 => ?_)
  obtain ⟨rfl, od2, hod, hR⟩ := hq9
  have hL := wf_preL hw (wf_root hw).1 (wf_root hw).2
  have hlen := wf_pre40 hw (wf_root hw).1 (wf_root hw).2
  refine m_istore_n (L' := [(1, .int (nI (q_dty ar g (pre9 ar 0) 48))), (0, .ref o)]) C dX8_paint_9 rfl (by decide) rfl ?_
  refine m_iconst (v := 0) C dX8_paint_10 (by decide) ?_
  refine m_istore_n (L' := [(2, .int 0), (1, .int (nI (q_dty ar g (pre9 ar 0) 48))), (0, .ref o)]) C dX8_paint_11 rfl (by decide) rfl ?_
  refine m_sub (L' := [(2, .int 0), (0, .ref o), (1, .int (nI (q_dty ar g (pre9 ar 0) 48)))]) [0, 2, 1] rfl ?_
  refine lp_X8_paint (L9 := pre9 ar 0) hw hlen hod hL C i8 (fun M hR => ?_) _ 0 M rfl (by decide) (by rw [q_pnt, upA_eq rfl]; exact hR)
  refine m_iload_n C dX8_paint_43 rfl 2 rfl ?_
  exact m_iret C (Nat.le_of_ble_eq_true rfl) (Nat.le_of_ble_eq_true rfl) dX8_paint_44 (⟨rfl, _, _, hR⟩)
set_option maxHeartbeats 4000000 in
set_option maxRecDepth 100000 in
theorem c_X8_painted (D : mD) (A : Nat → Prop) (l : Launch) {G : Nat → Nat} {o : Nat} {F : Mm} {t g u : Int32} {cm : Nat} {ar : rA} {od : Nat → Int32} {M : Mm} (hR : rW D G o F t (nI cm) g u (upA ar 17 od) M) (hw : wf ar cm) (x y : Int32) : mMi D A l yX8_painted wsX8_painted ({ frames := 48, cells := 0, slots := 0, locals := 3100 } : Room) [.ref o, .int x, .int y] M (fun r M' => (∃ (od2 : Nat → Int32) (u2 : Int32), rW D G o F (k_pix x y) (nI cm) g u2 (upA ar 17 od2) M') ∧ (k_pix x y = 0 → r = v_painted ar x y)) 0 0 := by
  have hcm := hw.1
  refine m_start (cc := cX8_painted) (maxL := 3) (ret := (some .int)) (by decide) rfl (Nat.le_of_ble_eq_true rfl) ?_
  intro p e s m args below meth c C
  have i8 : ∀ w ∈ wsX80, w ∈ wsX8_painted := by decide +kernel
  refine m_sub (L' := [(0, .ref o), (1, .int x), (2, .int y)]) [0, 1, 2] rfl ?_
  refine m_aload_n C dX8_painted_0 rfl 0 rfl ?_
  refine m_iconst (v := 0) C dX8_painted_1 (by decide) ?_
  refine r_putT C hR i8 (by decide +kernel) dX8_painted_2 (fun M hR => ?_)
  refine m_iload_n C dX8_painted_5 rfl 1 rfl ?_
  refine m_iload_n C dX8_painted_6 rfl 2 rfl ?_
  refine m_callSFi (As := [.int x, .int y]) (st := []) C (c_X8_isPixel D A l M x y) (va_cwS 2 C.1.2.2.2.2 gX8_painted_X8_isPixel rfl rfl rfl (by decide +kernel) ⟨Nat.le_of_ble_eq_true rfl, Nat.le_of_ble_eq_true rfl⟩) rfl rfl (Nat.le_of_ble_eq_true rfl) dX8_painted_7 ⟨Nat.le_of_ble_eq_true rfl, Nat.le_of_ble_eq_true rfl⟩ ?_
  refine m_if_eq (tgt := 27) C dX8_painted_10 (by decide) (fun h1 => ?_) (fun h1 => ?_)
  · have h1 := bI_z h1
    refine m_aload_n C dX8_painted_27 rfl 0 rfl ?_
    refine m_iconst (v := 1) C dX8_painted_28 (by decide) ?_
    refine m_callVi (As := [.int 1]) (st := []) C hR.1 rfl (c_X8_fail D A l hR 1) (cwV 1 C.1.2.2.2.2 gX8_painted_X8_fail rfl rfl rfl (by decide +kernel) ⟨Nat.le_of_ble_eq_true rfl, Nat.le_of_ble_eq_true rfl⟩) rfl rfl (Nat.le_of_ble_eq_true rfl) dX8_painted_29 ⟨Nat.le_of_ble_eq_true rfl, Nat.le_of_ble_eq_true rfl⟩ (fun r M h => ?_)
    obtain ⟨rfl, hR⟩ := h
    exact m_iret C (Nat.le_of_ble_eq_true rfl) (Nat.le_of_ble_eq_true rfl) dX8_painted_32 (by rw [show k_pix x y = 1 by simp [k_pix, h1]]; exact ⟨⟨_, _, hR⟩, fun z => absurd z (by decide)⟩)
  · have h1 := bI_n h1
    have hpx := h1
    rw [q_pix, Bool.and_eq_true] at hpx
    obtain ⟨jx, hjx, hxx⟩ := q_in_N (a := 63) (by decide) hpx.1
    subst hxx
    obtain ⟨jy, hjy, hyy⟩ := q_in_N (a := 47) (by decide) hpx.2
    subst hyy
    have hcx : jN (nI jx) = jx := nI_clamp (by omega)
    have hcy : jN (nI jy) = jy := nI_clamp (by omega)
    refine m_aload_n C dX8_painted_13 rfl 0 rfl ?_
    refine r_get C hR i8 16 (by decide) (by decide +kernel) rfl rfl dX8_painted_14 ?_
    refine m_bipush (v := 64) C dX8_painted_17 (by decide) ?_
    refine m_iload_n C dX8_painted_19 rfl 2 rfl ?_
    refine m_imul C dX8_painted_20 ?_
    refine m_iload_n C dX8_painted_21 rfl 1 rfl ?_
    refine m_iadd C dX8_painted_22 ?_
    refine r_iald C hR 16 (by decide) rfl (64 * jy + jx) (show (64 * jy + jx) < 3072 by omega) (by rw [show (64 : Int32) = nI 64 from rfl, pk_mul, nI_add]) dX8_painted_23 ?_
    refine m_i (y := ar 16 (64 * jy + jx)) (rfl) ?_
    refine m_goto (tgt := 32) C dX8_painted_24 (by decide) ?_
    exact m_iret C (Nat.le_of_ble_eq_true rfl) (Nat.le_of_ble_eq_true rfl) dX8_painted_32 (by rw [show k_pix (nI jx) (nI jy) = 0 by simp [k_pix, h1]]; exact ⟨⟨_, _, hR⟩, fun _ => by rw [v_painted, hcx, hcy]⟩)
