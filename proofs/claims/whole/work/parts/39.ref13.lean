/-! ===== the reference: mean, digest ===== -/
section DBL
variable {p : Program} {l : Launch} {e : Env} {R : Room} {s : State} {m : MethodId} {args : Array Value} {below : List Frame} {meth : Method} {c : Code} {nL : Nat} {D : mD} {A : Nat → Prop} {Q : State → Prop} {M : Mm} {k n : Nat} {L : List (Nat × Value)} {st : List Value} {pc : Nat} {cc : ByteArray} {Ts : List Cond} {own : String} {y0 : MethodName} {ret0 : Option FieldType}
theorem m_i2d (C : mC p m meth c cc nL s args Ts own D A y0 ret0) {x : Int32} (d : decode cc pc = .ok (.i2d, 1)) (kk : mV p l e R s m args below meth c nL D A Q M k n L (.double (FP.i2d x) :: st) (pc + 1)) : mV p l e R s m args below meth c nL D A Q M k n L (.int x :: st) pc := fun H locs ls hW hS hl => lv_i2d C.1.1 C.1.2.1 d (kk H locs ls hW hS hl)
theorem m_ddiv (C : mC p m meth c cc nL s args Ts own D A y0 ret0) {x y : UInt64} (hne : vf_n64 (FP.ddiv x y)) (d : decode cc pc = .ok (.ddiv, 1)) (kk : mV p l e R s m args below meth c nL D A Q M k n L (.double (FP.ddiv x y) :: st) (pc + 1)) : mV p l e R s m args below meth c nL D A Q M k n L (.double y :: .double x :: st) pc := fun H locs ls hW hS hl => lv_ddiv C.1.1 C.1.2.1 d hne (kk H locs ls hW hS hl)
theorem m_ldc2d (C : mC p m meth c cc nL s args Ts own D A y0 ret0) {index : Nat} {v : UInt64} (hc : Cond.constantDouble own index v ∈ Ts) (d : decode cc pc = .ok (.ldc2_w index, 3)) (kk : mV p l e R s m args below meth c nL D A Q M k n L (.double v :: st) (pc + 3)) : mV p l e R s m args below meth c nL D A Q M k n L st pc := fun H locs ls hW hS hl => lv_ldc2d C.1.1 C.1.2.1 C.1.2.2.2.1 (C.1.2.2.2.2 _ hc) d (kk H locs ls hW hS hl)
theorem m_ldc2l (C : mC p m meth c cc nL s args Ts own D A y0 ret0) {index : Nat} {v : Int64} (hc : Cond.constantLong own index v ∈ Ts) (d : decode cc pc = .ok (.ldc2_w index, 3)) (kk : mV p l e R s m args below meth c nL D A Q M k n L (.long v :: st) (pc + 3)) : mV p l e R s m args below meth c nL D A Q M k n L st pc := m_ldc2 C (C.1.2.2.2.2 _ hc) d kk
theorem m_dret (C : mC p m meth c cc nL s args Ts own D A y0 (some .double)) {post : UInt64 → Mm → Prop} {v : UInt64} {mc ms : Nat} (hk : k ≤ mc) (hn : n ≤ ms) (d : decode cc pc = .ok (.dreturn, 1)) (hp : post v M) : mV p l e R s m args below meth c nL D A (MQ below (va_Qd post (mB D A) A) args s mc ms A) M k n L [.double v] pc := by
  intro H locs ls hW hS hl
  have hlocks := C.2.2.1
  exact W.widen hk hn (W.dret C.1.1 C.1.2.1 C.2.2.2.2 (fun t ht hw => ⟨⟨v, M, rfl, hp, by show mW D A M t.heap; rw [ht]; exact hW⟩, hS.F ht⟩) hS.2.2 d)
def q_mean (cv : Nat → Int32) : UInt64 := FP.ddiv (FP.i2d (q_sum cv 3072)) 4658973814514778112
theorem q_mean_n (x : Int32) : vf_n64 (FP.ddiv (FP.i2d x) 4658973814514778112) := by
  have h := Jvm.Free.Fl.ddiv_out (Jvm.Free.Fl.noNaN64_no.mpr (by
    have := Jvm.Free.Fl.i2d_fin x
    exact Jvm.Free.Fl.noNaN64_no.mp (show Jvm.Free.Fl.NoNaN64 _ from UInt64.le_of_lt this))) (a := FP.i2d x) (b := 4658973814514778112) (by unfold Jvm.Free.Fl.Fin64; decide) (by unfold Jvm.Free.Fl.Nz64; decide)
  exact h
end DBL
set_option maxHeartbeats 4000000 in
set_option maxRecDepth 100000 in
theorem lp_X8_mean {p : Program} {l : Launch} {e : Env} {s : State} {m : MethodId} {args : Array Value} {below : List Frame} {meth : Method} {c : Code} {Q : State → Prop} {D : mD} {A : Nat → Prop} {G : Nat → Nat} {o : Nat} {F : Mm} {g u : Int32} {cm : Nat} {ar : rA} {od : Nat → Int32} {M : Mm} (hR : rW D G o F 0 (nI cm) g u (upA ar 17 od) M) (C : mC p m meth c cX8_mean 3 s args wsX8_mean yX8_mean.cls D A yX8_mean (some .double)) (i8 : ∀ w ∈ wsX80, w ∈ wsX8_mean) (kx : mV p l e ({ frames := 0, cells := 0, slots := 0, locals := 0 } : Room) s m args below meth c 3 D A Q M 0 0 [(2, .int (nI 3072)), (1, .int (q_sum (ar 16) 3072)), (0, .ref o)] [] 31) : ∀ (N : Nat) (k9 : Nat), 3072 - k9 = N → (k9 ≤ 3072) → mV p l e ({ frames := 0, cells := 0, slots := 0, locals := 0 } : Room) s m args below meth c 3 D A Q M 0 0 [(2, .int (nI k9)), (1, .int (q_sum (ar 16) k9)), (0, .ref o)] [] 9 := by
  intro N
  induction N using Nat.strongRecOn with
  | _ N ih =>
    intro k9 hN hk
    refine m_iload_n C dX8_mean_9 rfl 0 rfl ?_
    refine m_sipush (v := 3072) C dX8_mean_10 (by decide) ?_
    refine m_icmp_ge (tgt := 31) C dX8_mean_13 (by decide) (fun h_1 => ?_) (fun h_1 => ?_)
    · have hkm : k9 = 3072 := by
        have := (nI_leI (a := 3072) (b := k9) (by omega) (by omega)).mp h_1
        omega
      subst hkm
      exact kx
    · have hkm : k9 < 3072 := by
        rcases Nat.lt_or_ge k9 3072 with z | z
        · exact z
        · exact absurd (nI_le (a := 3072) (b := k9) z (by omega)) h_1
      refine m_iload_n C dX8_mean_16 rfl 1 rfl ?_
      refine m_aload_n C dX8_mean_17 rfl 2 rfl ?_
      refine r_get C hR i8 16 (by decide) (by decide +kernel) rfl rfl dX8_mean_18 ?_
      refine m_iload_n C dX8_mean_21 rfl 0 rfl ?_
      refine r_iald C hR 16 (by decide) rfl k9 (show k9 < 3072 by omega) (rfl) dX8_mean_22 ?_
      refine m_i (y := ar 16 k9) (rfl) ?_
      refine m_iadd C dX8_mean_23 ?_
      refine m_istore_n (L' := [(1, .int ((q_sum (ar 16) k9) + (ar 16 k9))), (2, .int (nI k9)), (0, .ref o)]) C dX8_mean_24 rfl (by decide) rfl ?_
      obtain ⟨x_2, ex_2⟩ : ∃ z : Int32, z = nI k9 + 1 := ⟨_, rfl⟩
      refine m_iinc (q := 1) (v := x_2) (L' := [(2, .int x_2), (1, .int ((q_sum (ar 16) k9) + (ar 16 k9))), (0, .ref o)]) C dX8_mean_25 rfl (by rw [ex_2]; rfl) (by decide) rfl ?_
      refine m_goto (tgt := 9) C dX8_mean_28 (by decide) ?_
      rw [nI_1] at ex_2
      subst ex_2
      refine m_sub (L' := [(2, .int (nI (k9 + 1))), (1, .int ((q_sum (ar 16) k9) + (ar 16 k9))), (0, .ref o)]) [0, 1, 2] rfl ?_
      exact ih (3072 - (k9 + 1)) (by omega) (k9 + 1) rfl (by omega)
set_option maxHeartbeats 4000000 in
set_option maxRecDepth 100000 in
theorem c_X8_mean (D : mD) (A : Nat → Prop) (l : Launch) {G : Nat → Nat} {o : Nat} {F : Mm} {t g u : Int32} {cm : Nat} {ar : rA} {od : Nat → Int32} {M : Mm} (hR : rW D G o F t (nI cm) g u (upA ar 17 od) M) : mMd D A l yX8_mean wsX8_mean ({ frames := 0, cells := 0, slots := 0, locals := 0 } : Room) [.ref o] M (fun r M' => r = q_mean (ar 16) ∧ rW D G o F 0 (nI cm) g u (upA ar 17 od) M') 0 0 := by
  refine m_start (cc := cX8_mean) (maxL := 3) (ret := (some .double)) (by decide) rfl (Nat.le_of_ble_eq_true rfl) ?_
  intro p e s m args below meth c C
  have i8 : ∀ w ∈ wsX80, w ∈ wsX8_mean := by decide +kernel
  refine m_sub (L' := [(0, .ref o)]) [0] rfl ?_
  refine m_aload_n C dX8_mean_0 rfl 0 rfl ?_
  refine m_iconst (v := 0) C dX8_mean_1 (by decide) ?_
  refine r_putT C hR i8 (by decide +kernel) dX8_mean_2 (fun M hR => ?_)
  refine m_iconst (v := 0) C dX8_mean_5 (by decide) ?_
  refine m_istore_n (L' := [(1, .int 0), (0, .ref o)]) C dX8_mean_6 rfl (by decide) rfl ?_
  refine m_iconst (v := 0) C dX8_mean_7 (by decide) ?_
  refine m_istore_n (L' := [(2, .int 0), (1, .int 0), (0, .ref o)]) C dX8_mean_8 rfl (by decide) rfl ?_
  refine m_sub (L' := [(2, .int 0), (1, .int 0), (0, .ref o)]) [0, 1, 2] rfl ?_
  refine lp_X8_mean hR C i8 ?_ _ 0 rfl (by decide)
  refine m_iload_n C dX8_mean_31 rfl 1 rfl ?_
  refine m_i2d C dX8_mean_32 ?_
  refine m_ldc2d (index := 183) (v := 4658973814514778112) C (by decide +kernel) dX8_mean_33 ?_
  refine m_ddiv C (q_mean_n _) dX8_mean_36 ?_
  exact m_dret C (Nat.le_refl _) (Nat.le_refl _) dX8_mean_37 ⟨rfl, hR⟩
set_option maxHeartbeats 4000000 in
set_option maxRecDepth 100000 in
theorem lp_X8_dgn {p : Program} {l : Launch} {e : Env} {s : State} {m : MethodId} {args : Array Value} {below : List Frame} {meth : Method} {c : Code} {Q : State → Prop} {D : mD} {A : Nat → Prop} {G : Nat → Nat} {o : Nat} {F : Mm} {g u : Int32} {cm : Nat} {ar : rA} {od : Nat → Int32} {M : Mm} (hR : rW D G o F 0 (nI cm) g u (upA ar 17 od) M) (hw : wf ar cm) {j : Nat} (hj : j < cm) (hp : ¬ ar 2 j = 0) {d0 : Int64} (C : mC p m meth c cX8_digest 5 s args wsX8_digest yX8_digest.cls D A yX8_digest (some .long)) (i8 : ∀ w ∈ wsX80, w ∈ wsX8_digest) (kx : mV p l e ({ frames := 49, cells := 0, slots := 0, locals := 3200 } : Room) s m args below meth c 5 D A Q M 0 0 [(1, .long (q_dgn ar j d0 13)), (3, .int (nI j)), (0, .ref o)] [] 87) : ∀ (N : Nat) (w9 : Nat), 13 - w9 = N → (w9 ≤ 13) → mV p l e ({ frames := 49, cells := 0, slots := 0, locals := 3200 } : Room) s m args below meth c 5 D A Q M 0 0 [(4, .int (nI w9)), (1, .long (q_dgn ar j d0 w9)), (3, .int (nI j)), (0, .ref o)] [] 59 := by
  intro N
  induction N using Nat.strongRecOn with
  | _ N ih =>
    intro w9 hN hk
    refine m_iload C dX8_digest_59 0 rfl ?_
    refine m_bipush (v := 13) C dX8_digest_61 (by decide) ?_
    refine m_icmp_ge (tgt := 87) C dX8_digest_63 (by decide) (fun h_1 => ?_) (fun h_1 => ?_)
    · have hkm : w9 = 13 := by
        have := (nI_leI (a := 13) (b := w9) (by omega) (by omega)).mp h_1
        omega
      refine m_sub (L' := [(1, .long (q_dgn ar j d0 w9)), (3, .int (nI j)), (0, .ref o)]) [1, 2, 3] rfl ?_
      subst hkm
      exact kx
    · have hkm : w9 < 13 := by
        rcases Nat.lt_or_ge w9 13 with z | z
        · exact z
        · exact absurd (nI_le (a := 13) (b := w9) z (by omega)) h_1
      have hw9 : w9 ≤ 12 := by omega
      refine m_lload_n C dX8_digest_66 rfl 1 rfl ?_
      refine m_ldc2l (index := 187) (v := 31) C (by decide +kernel) dX8_digest_67 ?_
      refine m_lmul C dX8_digest_70 ?_
      refine m_aload_n C dX8_digest_71 rfl 3 rfl ?_
      refine m_iload_n C dX8_digest_72 rfl 2 rfl ?_
      refine m_iload C dX8_digest_73 0 rfl ?_
      refine m_callVFi (As := [.int (nI j), .int (nI w9)]) (st := [.long ((q_dgn ar j d0 w9) * 31)]) C hR.1 rfl (c_X8_told D A l hR hw (n0 := j) (w9 := w9) hj hp hw9) (cwV 2 C.1.2.2.2.2 gX8_digest_X8_told rfl rfl rfl (by decide +kernel) ⟨Nat.le_of_ble_eq_true rfl, Nat.le_of_ble_eq_true rfl⟩) rfl rfl (Nat.le_of_ble_eq_true rfl) dX8_digest_75 ⟨Nat.le_of_ble_eq_true rfl, Nat.le_of_ble_eq_true rfl⟩ ?_
      refine m_i2l C dX8_digest_78 rfl ?_
      refine m_ladd C dX8_digest_79 ?_
      refine m_lstore_n (L' := [(1, .long (((q_dgn ar j d0 w9) * 31) + ((q_tld ar (chn ar j) (plc ar j) j w9).toInt64))), (4, .int (nI w9)), (3, .int (nI j)), (0, .ref o)]) C dX8_digest_80 rfl (by decide) rfl ?_
      obtain ⟨x_2, ex_2⟩ : ∃ z : Int32, z = nI w9 + 1 := ⟨_, rfl⟩
      refine m_iinc (q := 1) (v := x_2) (L' := [(4, .int x_2), (1, .long (((q_dgn ar j d0 w9) * 31) + ((q_tld ar (chn ar j) (plc ar j) j w9).toInt64))), (3, .int (nI j)), (0, .ref o)]) C dX8_digest_81 rfl (by rw [ex_2]; rfl) (by decide) rfl ?_
      refine m_goto (tgt := 59) C dX8_digest_84 (by decide) ?_
      rw [nI_1] at ex_2
      subst ex_2
      refine m_sub (L' := [(4, .int (nI (w9 + 1))), (1, .long (((q_dgn ar j d0 w9) * 31) + ((q_tld ar (chn ar j) (plc ar j) j w9).toInt64))), (3, .int (nI j)), (0, .ref o)]) [0, 1, 2, 3] rfl ?_
      rw [show ((q_dgn ar j d0 w9) * 31) + ((q_tld ar (chn ar j) (plc ar j) j w9).toInt64) = q_dgn ar j d0 (w9 + 1) from rfl]
      exact ih (13 - (w9 + 1)) (by omega) (w9 + 1) rfl (by omega)
set_option maxHeartbeats 4000000 in
set_option maxRecDepth 100000 in
theorem lp_X8_dga {p : Program} {l : Launch} {e : Env} {s : State} {m : MethodId} {args : Array Value} {below : List Frame} {meth : Method} {c : Code} {Q : State → Prop} {D : mD} {A : Nat → Prop} {G : Nat → Nat} {o : Nat} {F : Mm} {g u : Int32} {cm : Nat} {ar : rA} {od : Nat → Int32} {M : Mm} (hR : rW D G o F 0 (nI cm) g u (upA ar 17 od) M) (hw : wf ar cm) {d0 : Int64} (hcm : 1 ≤ cm ∧ cm ≤ 40) (C : mC p m meth c cX8_digest 5 s args wsX8_digest yX8_digest.cls D A yX8_digest (some .long)) (i8 : ∀ w ∈ wsX80, w ∈ wsX8_digest) (kx : mV p l e ({ frames := 49, cells := 0, slots := 0, locals := 3200 } : Room) s m args below meth c 5 D A Q M 0 0 [(1, .long (q_dga ar d0 cm)), (0, .ref o)] [] 93) : ∀ (N : Nat) (k9 : Nat), cm - k9 = N → (k9 ≤ cm) → mV p l e ({ frames := 49, cells := 0, slots := 0, locals := 3200 } : Room) s m args below meth c 5 D A Q M 0 0 [(3, .int (nI k9)), (1, .long (q_dga ar d0 k9)), (0, .ref o)] [] 27 := by
  intro N
  induction N using Nat.strongRecOn with
  | _ N ih =>
    intro k9 hN hk
    refine m_iload_n C dX8_digest_27 rfl 0 rfl ?_
    refine m_aload_n C dX8_digest_28 rfl 2 rfl ?_
    refine r_get C hR i8 1 (by decide) (by decide +kernel) rfl rfl dX8_digest_29 ?_
    refine m_icmp_ge (tgt := 93) C dX8_digest_32 (by decide) (fun h_1 => ?_) (fun h_1 => ?_)
    · have hkm : k9 = cm := by
        have := (nI_leI (a := cm) (b := k9) (by omega) (by omega)).mp h_1
        omega
      refine m_sub (L' := [(1, .long (q_dga ar d0 k9)), (0, .ref o)]) [1, 2] rfl ?_
      subst hkm
      exact kx
    · have hkm : k9 < cm := by
        rcases Nat.lt_or_ge k9 cm with z | z
        · exact z
        · exact absurd (nI_le (a := cm) (b := k9) z (by omega)) h_1
      refine m_aload_n C dX8_digest_35 rfl 2 rfl ?_
      refine r_get C hR i8 2 (by decide) (by decide +kernel) rfl rfl dX8_digest_36 ?_
      refine m_iload_n C dX8_digest_39 rfl 0 rfl ?_
      refine r_zald C hR 2 (by decide) rfl k9 (show k9 < 40 by omega) (rfl) dX8_digest_40 ?_
      refine m_i (y := ar 2 k9) (rfl) ?_
      refine m_if_ne (tgt := 47) C dX8_digest_41 (by decide) (fun hpr => ?_) (fun hpr => ?_)
      · refine m_lload_n C dX8_digest_47 rfl 1 rfl ?_
        refine m_ldc2l (index := 187) (v := 31) C (by decide +kernel) dX8_digest_48 ?_
        refine m_lmul C dX8_digest_51 ?_
        refine m_iload_n C dX8_digest_52 rfl 0 rfl ?_
        refine m_i2l C dX8_digest_53 rfl ?_
        refine m_ladd C dX8_digest_54 ?_
        refine m_lstore_n (L' := [(1, .long (((q_dga ar d0 k9) * 31) + ((nI k9).toInt64))), (3, .int (nI k9)), (0, .ref o)]) C dX8_digest_55 rfl (by decide) rfl ?_
        refine m_iconst (v := 0) C dX8_digest_56 (by decide) ?_
        refine m_istore (L' := [(4, .int 0), (1, .long (((q_dga ar d0 k9) * 31) + ((nI k9).toInt64))), (3, .int (nI k9)), (0, .ref o)]) C dX8_digest_57 (by decide) rfl ?_
        refine m_sub (L' := [(4, .int 0), (1, .long (((q_dga ar d0 k9) * 31) + ((nI k9).toInt64))), (3, .int (nI k9)), (0, .ref o)]) [0, 1, 2, 3] rfl ?_
        refine lp_X8_dgn hR hw hkm hpr C i8 ?_ _ 0 rfl (by decide)
        obtain ⟨x_2, ex_2⟩ : ∃ z : Int32, z = nI k9 + 1 := ⟨_, rfl⟩
        refine m_iinc (q := 1) (v := x_2) (L' := [(3, .int x_2), (1, .long (q_dgn ar k9 (((q_dga ar d0 k9) * 31) + ((nI k9).toInt64)) 13)), (0, .ref o)]) C dX8_digest_87 rfl (by rw [ex_2]; rfl) (by decide) rfl ?_
        refine m_goto (tgt := 27) C dX8_digest_90 (by decide) ?_
        rw [nI_1] at ex_2
        subst ex_2
        refine m_sub (L' := [(3, .int (nI (k9 + 1))), (1, .long (q_dgn ar k9 (((q_dga ar d0 k9) * 31) + ((nI k9).toInt64)) 13)), (0, .ref o)]) [0, 1, 2] rfl ?_
        rw [show q_dgn ar k9 (((q_dga ar d0 k9) * 31) + ((nI k9).toInt64)) 13 = q_dga ar d0 (k9 + 1) by rw [q_dga, if_neg hpr]]
        exact ih (cm - (k9 + 1)) (by omega) (k9 + 1) rfl (by omega)
      · refine m_goto (tgt := 87) C dX8_digest_44 (by decide) ?_
        obtain ⟨x_3, ex_3⟩ : ∃ z : Int32, z = nI k9 + 1 := ⟨_, rfl⟩
        refine m_iinc (q := 0) (v := x_3) (L' := [(3, .int x_3), (1, .long (q_dga ar d0 k9)), (0, .ref o)]) C dX8_digest_87 rfl (by rw [ex_3]; rfl) (by decide) rfl ?_
        refine m_goto (tgt := 27) C dX8_digest_90 (by decide) ?_
        rw [nI_1] at ex_3
        subst ex_3
        refine m_sub (L' := [(3, .int (nI (k9 + 1))), (1, .long (q_dga ar d0 k9)), (0, .ref o)]) [0, 1, 2] rfl ?_
        rw [show q_dga ar d0 k9 = q_dga ar d0 (k9 + 1) by rw [q_dga, if_pos hpr]]
        exact ih (cm - (k9 + 1)) (by omega) (k9 + 1) rfl (by omega)
set_option maxHeartbeats 4000000 in
set_option maxRecDepth 100000 in
theorem lp_X8_dgc {p : Program} {l : Launch} {e : Env} {s : State} {m : MethodId} {args : Array Value} {below : List Frame} {meth : Method} {c : Code} {Q : State → Prop} {D : mD} {A : Nat → Prop} {G : Nat → Nat} {o : Nat} {F : Mm} {g u : Int32} {cm : Nat} {ar : rA} {od : Nat → Int32} {M : Mm} (hR : rW D G o F 0 (nI cm) g u (upA ar 17 od) M) {d0 : Int64} (C : mC p m meth c cX8_digest 5 s args wsX8_digest yX8_digest.cls D A yX8_digest (some .long)) (i8 : ∀ w ∈ wsX80, w ∈ wsX8_digest) (kx : mV p l e ({ frames := 49, cells := 0, slots := 0, locals := 3200 } : Room) s m args below meth c 5 D A Q M 0 0 [(1, .long (q_dgc (ar 16) d0 3072)), (0, .ref o)] [] 122) : ∀ (N : Nat) (k9 : Nat), 3072 - k9 = N → (k9 ≤ 3072) → mV p l e ({ frames := 49, cells := 0, slots := 0, locals := 3200 } : Room) s m args below meth c 5 D A Q M 0 0 [(3, .int (nI k9)), (1, .long (q_dgc (ar 16) d0 k9)), (0, .ref o)] [] 95 := by
  intro N
  induction N using Nat.strongRecOn with
  | _ N ih =>
    intro k9 hN hk
    refine m_iload_n C dX8_digest_95 rfl 0 rfl ?_
    refine m_sipush (v := 3072) C dX8_digest_96 (by decide) ?_
    refine m_icmp_ge (tgt := 122) C dX8_digest_99 (by decide) (fun h_1 => ?_) (fun h_1 => ?_)
    · have hkm : k9 = 3072 := by
        have := (nI_leI (a := 3072) (b := k9) (by omega) (by omega)).mp h_1
        omega
      refine m_sub (L' := [(1, .long (q_dgc (ar 16) d0 k9)), (0, .ref o)]) [1, 2] rfl ?_
      subst hkm
      exact kx
    · have hkm : k9 < 3072 := by
        rcases Nat.lt_or_ge k9 3072 with z | z
        · exact z
        · exact absurd (nI_le (a := 3072) (b := k9) z (by omega)) h_1
      refine m_lload_n C dX8_digest_102 rfl 1 rfl ?_
      refine m_ldc2l (index := 187) (v := 31) C (by decide +kernel) dX8_digest_103 ?_
      refine m_lmul C dX8_digest_106 ?_
      refine m_aload_n C dX8_digest_107 rfl 2 rfl ?_
      refine r_get C hR i8 16 (by decide) (by decide +kernel) rfl rfl dX8_digest_108 ?_
      refine m_iload_n C dX8_digest_111 rfl 0 rfl ?_
      refine r_iald C hR 16 (by decide) rfl k9 (show k9 < 3072 by omega) (rfl) dX8_digest_112 ?_
      refine m_i (y := ar 16 k9) (rfl) ?_
      refine m_i2l C dX8_digest_113 rfl ?_
      refine m_ladd C dX8_digest_114 ?_
      refine m_lstore_n (L' := [(1, .long (((q_dgc (ar 16) d0 k9) * 31) + ((ar 16 k9).toInt64))), (3, .int (nI k9)), (0, .ref o)]) C dX8_digest_115 rfl (by decide) rfl ?_
      obtain ⟨x_2, ex_2⟩ : ∃ z : Int32, z = nI k9 + 1 := ⟨_, rfl⟩
      refine m_iinc (q := 1) (v := x_2) (L' := [(3, .int x_2), (1, .long (((q_dgc (ar 16) d0 k9) * 31) + ((ar 16 k9).toInt64))), (0, .ref o)]) C dX8_digest_116 rfl (by rw [ex_2]; rfl) (by decide) rfl ?_
      refine m_goto (tgt := 95) C dX8_digest_119 (by decide) ?_
      rw [nI_1] at ex_2
      subst ex_2
      refine m_sub (L' := [(3, .int (nI (k9 + 1))), (1, .long (((q_dgc (ar 16) d0 k9) * 31) + ((ar 16 k9).toInt64))), (0, .ref o)]) [0, 1, 2] rfl ?_
      rw [show ((q_dgc (ar 16) d0 k9) * 31) + ((ar 16 k9).toInt64) = q_dgc (ar 16) d0 (k9 + 1) from rfl]
      exact ih (3072 - (k9 + 1)) (by omega) (k9 + 1) rfl (by omega)
set_option maxHeartbeats 4000000 in
set_option maxRecDepth 100000 in
theorem c_X8_digest (D : mD) (A : Nat → Prop) (l : Launch) {G : Nat → Nat} {o : Nat} {F : Mm} {t g u : Int32} {cm : Nat} {ar : rA} {od : Nat → Int32} {M : Mm} (hR : rW D G o F t (nI cm) g u (upA ar 17 od) M) (hw : wf ar cm) : mMl D A l yX8_digest wsX8_digest ({ frames := 49, cells := 0, slots := 0, locals := 3200 } : Room) [.ref o] M (fun r M' => r = q_dig ar cm g ∧ ∃ (od2 : Nat → Int32) (u2 : Int32), rW D G o F 0 (nI cm) g u2 (upA ar 17 od2) M') 0 0 := by
  have hcm := hw.1
  refine m_start (cc := cX8_digest) (maxL := 5) (ret := (some .long)) (by decide) rfl (Nat.le_of_ble_eq_true rfl) ?_
  intro p e s m args below meth c C
  have i8 : ∀ w ∈ wsX80, w ∈ wsX8_digest := by decide +kernel
  refine m_sub (L' := [(0, .ref o)]) [0] rfl ?_
  refine m_aload_n C dX8_digest_0 rfl 0 rfl ?_
  refine m_iconst (v := 0) C dX8_digest_1 (by decide) ?_
  refine r_putT C hR i8 (by decide +kernel) dX8_digest_2 (fun M hR => ?_)
  refine m_ldc2l (index := 185) (v := 11129) C (by decide +kernel) dX8_digest_5 ?_
  refine m_aload_n C dX8_digest_8 rfl 0 rfl ?_
  refine m_callVFi (As := []) (st := [.long 11129]) C hR.1 rfl (c_X8_present D A l hR hw.1) (cwV 0 C.1.2.2.2.2 gX8_digest_X8_present rfl rfl rfl (by decide +kernel) ⟨Nat.le_of_ble_eq_true rfl, Nat.le_of_ble_eq_true rfl⟩) rfl rfl (Nat.le_of_ble_eq_true rfl) dX8_digest_9 ⟨Nat.le_of_ble_eq_true rfl, Nat.le_of_ble_eq_true rfl⟩ ?_
  refine m_i2l C dX8_digest_12 rfl ?_
  refine m_ladd C dX8_digest_13 ?_
  refine m_ldc2l (index := 187) (v := 31) C (by decide +kernel) dX8_digest_14 ?_
  refine m_lmul C dX8_digest_17 ?_
  refine m_aload_n C dX8_digest_18 rfl 0 rfl ?_
  refine r_get C hR i8 15 (by decide) (by decide +kernel) rfl rfl dX8_digest_19 ?_
  refine m_i2l C dX8_digest_22 rfl ?_
  refine m_ladd C dX8_digest_23 ?_
  refine m_lstore_n (L' := [(1, .long (((11129 + ((nI (q_cnt ar cm)).toInt64)) * 31) + g.toInt64)), (0, .ref o)]) C dX8_digest_24 rfl (by decide) rfl ?_
  refine m_iconst (v := 0) C dX8_digest_25 (by decide) ?_
  refine m_istore_n (L' := [(3, .int 0), (1, .long (((11129 + ((nI (q_cnt ar cm)).toInt64)) * 31) + g.toInt64)), (0, .ref o)]) C dX8_digest_26 rfl (by decide) rfl ?_
  refine m_sub (L' := [(3, .int 0), (1, .long (((11129 + ((nI (q_cnt ar cm)).toInt64)) * 31) + g.toInt64)), (0, .ref o)]) [0, 1, 2] rfl ?_
  refine lp_X8_dga hR hw hcm C i8 ?_ _ 0 rfl (Nat.zero_le _)
  refine m_iconst (v := 0) C dX8_digest_93 (by decide) ?_
  refine m_istore_n (L' := [(3, .int 0), (1, .long (q_dga ar (((11129 + ((nI (q_cnt ar cm)).toInt64)) * 31) + g.toInt64) cm)), (0, .ref o)]) C dX8_digest_94 rfl (by decide) rfl ?_
  refine m_sub (L' := [(3, .int 0), (1, .long (q_dga ar (((11129 + ((nI (q_cnt ar cm)).toInt64)) * 31) + g.toInt64) cm)), (0, .ref o)]) [0, 1, 2] rfl ?_
  refine lp_X8_dgc hR C i8 ?_ _ 0 rfl (Nat.zero_le _)
  refine m_lload_n C dX8_digest_122 rfl 0 rfl ?_
  refine m_ldc2l (index := 187) (v := 31) C (by decide +kernel) dX8_digest_123 ?_
  refine m_lmul C dX8_digest_126 ?_
  refine m_aload_n C dX8_digest_127 rfl 1 rfl ?_
  refine m_callVi (As := []) (st := [.long ((q_dgc (ar 16) (q_dga ar (((11129 + ((nI (q_cnt ar cm)).toInt64)) * 31) + g.toInt64) cm) 3072) * 31)]) C hR.1 rfl (c_X8_dirty D A l hR hw) (cwV 0 C.1.2.2.2.2 gX8_digest_X8_dirty rfl rfl rfl (by decide +kernel) ⟨Nat.le_of_ble_eq_true rfl, Nat.le_of_ble_eq_true rfl⟩) rfl rfl (Nat.le_of_ble_eq_true rfl) dX8_digest_128 ⟨Nat.le_of_ble_eq_true rfl, Nat.le_of_ble_eq_true rfl⟩ (fun r M hq9 => ?_)
  obtain ⟨rfl, od2, hod, hR⟩ := hq9
  have hL := wf_preL hw (wf_root hw).1 (wf_root hw).2
  have hlen := wf_pre40 hw (wf_root hw).1 (wf_root hw).2
  refine m_i2l C dX8_digest_131 rfl ?_
  refine m_ladd C dX8_digest_132 ?_
  exact m_lret C (Nat.le_of_ble_eq_true rfl) (Nat.le_of_ble_eq_true rfl) dX8_digest_133 (⟨rfl, _, _, hR⟩)
