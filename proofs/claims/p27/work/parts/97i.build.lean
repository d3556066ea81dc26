/-! ===== build ===== -/
set_option maxHeartbeats 4000000 in
set_option maxRecDepth 100000 in
theorem lp_L_build {p : Program} {l : Launch} {e : Env} {s : State} {m : MethodId} {args : Array Value} {below : List Frame} {meth : Method} {c : Code} {D : mD} {A : Nat → Prop} {z0 o b N : Nat} {xs : Nat → Int32} (hst : l.stackTraces = false) (hN : N < 2 ^ 31) (C : mC p m meth c cL_build 5 s args wsL_build yL_build.cls D A yL_build (some .boolean)) (hE : eX A b N xs s) : ∀ (N9 : Nat) (i : Nat) (M : Mm), 44 - i = N9 → (i ≤ 44) → (hAA D z0 o M) → mV p l e ({ frames := 46, cells := 4840, slots := 140800, locals := 1800 } : Room) s m args below meth c 5 D A (MQ below (va_Qi (fun r M' => r = 1 ∧ hAA D z0 o M') (mB D A) A) args s 4840 140800 A) M (i * 110) (i * 3200) [(4, .int (nI i)), (3, .int (nI 44)), (2, .ref b), (1, .ref o), (0, .ref z0)] [] 3 := by
  intro N9
  induction N9 using Nat.strongRecOn with
  | _ N9 ih =>
    intro i M hN9 hi hA
    refine m_iload C dL_build_3 0 rfl ?_
    refine m_iload_n C dL_build_5 rfl 1 rfl ?_
    refine m_icmp_ge (tgt := 71) C dL_build_6 (by decide) (fun h_1 => ?_) (fun h_1 => ?_)
    · have hij : i = 44 := by
        have := (nI_leI (a := 44) (b := i) (by omega) (by omega)).mp h_1
        omega
      refine m_iconst (v := 1) C dL_build_71 (by decide) ?_
      exact m_zret C (by omega) (by omega) dL_build_72 (Or.inr rfl) ⟨rfl, hA⟩
    · have hij : i < 44 := by
        rcases Nat.lt_or_ge i 44 with z | z
        · exact z
        · exact absurd (nI_le (a := 44) (b := i) z (by omega)) h_1
      refine m_aload_n C dL_build_9 rfl 4 rfl ?_
      refine m_aload_n C dL_build_10 rfl 3 rfl ?_
      refine m_iload C dL_build_11 0 rfl ?_
      refine m_iconst (v := 3) C dL_build_13 (by decide) ?_
      refine m_irem C dL_build_14 (by decide) ?_
      refine m_if_ne (tgt := 40) C dL_build_15 (by decide) (fun h_2 => ?_) (fun h_2 => ?_)
      · refine m_aload_n C dL_build_40 rfl 2 rfl ?_
        refine m_iload C dL_build_41 0 rfl ?_
        refine m_bipush (v := 16) C dL_build_43 (by decide) ?_
        refine m_irem C dL_build_45 (by decide) ?_
        rw [show (16 : Int32) = nI 16 from rfl, pk_rem (show i < 2 ^ 31 by omega) (by decide) (by decide)]
        refine e_callSi (As := [.ref b, .int (nI (i % 16))]) (st := [.ref o, .ref z0]) C hE (c_L_cell D A l (j := (i % 16)) (by omega) hN) (va_cwS 2 C.1.2.2.2.2 gL_build_L_cell rfl rfl rfl (by decide +kernel) ⟨Nat.le_of_ble_eq_true rfl, Nat.le_of_ble_eq_true rfl⟩) rfl rfl (Nat.le_of_ble_eq_true rfl) dL_build_46 ⟨by show i * 110 + 0 ≤ 4840; omega, by show i * 3200 + 0 ≤ 140800; omega⟩ (fun rc M1 hq1 => ?_)
        subst hq1
        rename Mm => M
        refine m_iload C dL_build_49 0 rfl ?_
        refine m_bipush (v := 16) C dL_build_51 (by decide) ?_
        refine m_idiv C dL_build_53 (by decide) ?_
        refine m_iconst (v := 3) C dL_build_54 (by decide) ?_
        refine m_imul C dL_build_55 ?_
        refine m_ishr C dL_build_56 ?_
        refine m_callSi (As := [.ref z0, .ref o, .int (rc >>> ((((nI i) / 16) * 3) &&& 31))]) (st := []) C (c_L_act D A l hst hA) (va_cwS 3 C.1.2.2.2.2 gL_build_L_act rfl rfl rfl (by decide +kernel) ⟨Nat.le_of_ble_eq_true rfl, Nat.le_of_ble_eq_true rfl⟩) rfl rfl (Nat.le_of_ble_eq_true rfl) dL_build_57 ⟨by show i * 110 + 0 + 110 ≤ 4840; omega, by show i * 3200 + 0 + 3200 ≤ 140800; omega⟩ (fun r3 M3 hq3 => ?_)
        obtain ⟨hr3, hA3⟩ := hq3
        subst hr3
        refine m_if_ne (tgt := 65) C dL_build_60 (by decide) (fun h_3 => ?_) (fun h_3 => ?_)
        · obtain ⟨x_4, ex_4⟩ : ∃ z : Int32, z = nI i + 1 := ⟨_, rfl⟩
          refine m_iinc (q := 0) (v := x_4) (L' := [(4, .int x_4), (3, .int (nI 44)), (2, .ref b), (1, .ref o), (0, .ref z0)]) C dL_build_65 rfl (by rw [ex_4]; rfl) (by decide) rfl ?_
          refine m_goto (tgt := 3) C dL_build_68 (by decide) ?_
          rw [nI_1] at ex_4
          subst ex_4
          refine m_sub (L' := [(4, .int (nI (i + 1))), (3, .int (nI 44)), (2, .ref b), (1, .ref o), (0, .ref z0)]) [0, 1, 2, 3, 4] rfl ?_
          refine mV_kn (k := (i + 1) * 110) (n := (i + 1) * 3200) (by omega) (by omega) ?_
          exact ih (44 - (i + 1)) (by omega) (i + 1) M3 rfl (by omega) hA3
        · exact absurd h_3 (by decide)
      · refine m_aload_n C dL_build_18 rfl 2 rfl ?_
        refine m_iload C dL_build_19 0 rfl ?_
        refine m_bipush (v := 16) C dL_build_21 (by decide) ?_
        refine m_irem C dL_build_23 (by decide) ?_
        rw [show (16 : Int32) = nI 16 from rfl, pk_rem (show i < 2 ^ 31 by omega) (by decide) (by decide)]
        refine e_callSi (As := [.ref b, .int (nI (i % 16))]) (st := [.ref o, .ref z0]) C hE (c_L_cell D A l (j := (i % 16)) (by omega) hN) (va_cwS 2 C.1.2.2.2.2 gL_build_L_cell rfl rfl rfl (by decide +kernel) ⟨Nat.le_of_ble_eq_true rfl, Nat.le_of_ble_eq_true rfl⟩) rfl rfl (Nat.le_of_ble_eq_true rfl) dL_build_24 ⟨by show i * 110 + 0 ≤ 4840; omega, by show i * 3200 + 0 ≤ 140800; omega⟩ (fun rc M1 hq1 => ?_)
        subst hq1
        rename Mm => M
        refine m_bipush (v := 13) C dL_build_27 (by decide) ?_
        refine m_imul C dL_build_29 ?_
        refine m_iconst (v := 1) C dL_build_30 (by decide) ?_
        refine m_iadd C dL_build_31 ?_
        refine m_iload C dL_build_32 0 rfl ?_
        refine m_iconst (v := 4) C dL_build_34 (by decide) ?_
        refine m_irem C dL_build_35 (by decide) ?_
        refine m_iadd C dL_build_36 ?_
        refine m_goto (tgt := 57) C dL_build_37 (by decide) ?_
        refine m_callSi (As := [.ref z0, .ref o, .int (((rc * 13) + 1) + ((nI i) - (nI i) / 4 * 4))]) (st := []) C (c_L_act D A l hst hA) (va_cwS 3 C.1.2.2.2.2 gL_build_L_act rfl rfl rfl (by decide +kernel) ⟨Nat.le_of_ble_eq_true rfl, Nat.le_of_ble_eq_true rfl⟩) rfl rfl (Nat.le_of_ble_eq_true rfl) dL_build_57 ⟨by show i * 110 + 0 + 110 ≤ 4840; omega, by show i * 3200 + 0 + 3200 ≤ 140800; omega⟩ (fun r3 M3 hq3 => ?_)
        obtain ⟨hr3, hA3⟩ := hq3
        subst hr3
        refine m_if_ne (tgt := 65) C dL_build_60 (by decide) (fun h_5 => ?_) (fun h_5 => ?_)
        · obtain ⟨x_6, ex_6⟩ : ∃ z : Int32, z = nI i + 1 := ⟨_, rfl⟩
          refine m_iinc (q := 0) (v := x_6) (L' := [(4, .int x_6), (3, .int (nI 44)), (2, .ref b), (1, .ref o), (0, .ref z0)]) C dL_build_65 rfl (by rw [ex_6]; rfl) (by decide) rfl ?_
          refine m_goto (tgt := 3) C dL_build_68 (by decide) ?_
          rw [nI_1] at ex_6
          subst ex_6
          refine m_sub (L' := [(4, .int (nI (i + 1))), (3, .int (nI 44)), (2, .ref b), (1, .ref o), (0, .ref z0)]) [0, 1, 2, 3, 4] rfl ?_
          refine mV_kn (k := (i + 1) * 110) (n := (i + 1) * 3200) (by omega) (by omega) ?_
          exact ih (44 - (i + 1)) (by omega) (i + 1) M3 rfl (by omega) hA3
        · exact absurd h_5 (by decide)
set_option maxHeartbeats 4000000 in
set_option maxRecDepth 100000 in
theorem c_L_build (D : mD) (A : Nat → Prop) (l : Launch) (hst : l.stackTraces = false) {z0 o b N : Nat} {xs : Nat → Int32} {M : Mm} (hN : N < 2 ^ 31) (hA : hAA D z0 o M) : eMi D A b N xs l yL_build wsL_build ({ frames := 46, cells := 4840, slots := 140800, locals := 1800 } : Room) [.ref z0, .ref o, .ref b, .int (nI 44)] M (fun r M' => r = 1 ∧ hAA D z0 o M') 4840 140800 := by
  refine e_start (cc := cL_build) (maxL := 5) (ret := (some .boolean)) (by decide) rfl (Nat.le_of_ble_eq_true rfl) ?_
  intro p e s m args below meth c C hE
  refine m_sub (L' := [(0, .ref z0), (1, .ref o), (2, .ref b), (3, .int (nI 44))]) [0, 1, 2, 3] rfl ?_
  refine m_iconst (v := 0) C dL_build_0 (by decide) ?_
  refine m_istore (L' := [(4, .int 0), (0, .ref z0), (1, .ref o), (2, .ref b), (3, .int (nI 44))]) C dL_build_1 (by decide) rfl ?_
  refine m_sub (L' := [(4, .int (nI 0)), (3, .int (nI 44)), (2, .ref b), (1, .ref o), (0, .ref z0)]) [0, 4, 3, 2, 1] rfl ?_
  refine mV_kn (k := 0 * 110) (n := 0 * 3200) rfl rfl ?_
  exact lp_L_build hst hN C hE _ 0 M rfl (by decide) hA
