/-! ===== the reference: what shows ===== -/
set_option maxHeartbeats 4000000 in
set_option maxRecDepth 100000 in
theorem lp_X8_isInTree {p : Program} {l : Launch} {e : Env} {s : State} {m : MethodId} {args : Array Value} {below : List Frame} {meth : Method} {c : Code} {Q : State → Prop} {D : mD} {A : Nat → Prop} {G : Nat → Nat} {o : Nat} {F : Mm} {t g u : Int32} {cm : Nat} {ar : rA} {od : Nat → Int32} {M : Mm} (hR : rW D G o F t (nI cm) g u (upA ar 17 od) M) (hw : wf ar cm) {n0 d : Nat} (hn : n0 < cm) (hp : ¬ ar 2 n0 = 0) (hn40 : n0 < 40) (hm : ar 5 n0 = nI (mny ar n0)) (hm39 : mny ar n0 ≤ 39) {px py : Int32} (ihd : ∀ k, k < mny ar n0 → mMi D A l yX8_isInTree wsX8_isInTree ({ frames := d + 3, cells := 0, slots := 0, locals := 60 * (d) + 200 } : Room) [.ref o, .int (nI (kid ar n0 k)), .int px, .int py] M (fun r M' => M' = M ∧ r = bI (q_inT ar (kid ar n0 k) px py)) 0 0) (C : mC p m meth c cX8_isInTree 6 s args wsX8_isInTree yX8_isInTree.cls D A yX8_isInTree (some .boolean)) (i8 : ∀ w ∈ wsX80, w ∈ wsX8_isInTree) (kx : ∀ x5 : Int32, mV p l e ({ frames := (d + 1) + 3, cells := 0, slots := 0, locals := 60 * ((d + 1)) + 200 } : Room) s m args below meth c 6 D A Q M 0 0 [(5, .int x5), (4, .int (bI ((pks ar n0 (mny ar n0)).any (q_sS ar px py)))), (0, .ref o), (1, .int (nI n0)), (2, .int px), (3, .int py)] [] 64) : ∀ (N : Nat) (k9 : Nat) (b9 : Bool), mny ar n0 - k9 = N → (k9 ≤ mny ar n0) → ((pks ar n0 k9).any (q_sS ar px py) = b9) → mV p l e ({ frames := (d + 1) + 3, cells := 0, slots := 0, locals := 60 * ((d + 1)) + 200 } : Room) s m args below meth c 6 D A Q M 0 0 [(5, .int (nI k9)), (4, .int (bI b9)), (0, .ref o), (1, .int (nI n0)), (2, .int px), (3, .int py)] [] 22 := by
  intro N
  induction N using Nat.strongRecOn with
  | _ N ih =>
    intro k9 b9 hN hk hb
    refine m_iload C dX8_isInTree_22 0 rfl ?_
    refine m_aload_n C dX8_isInTree_24 rfl 2 rfl ?_
    refine r_get C hR i8 5 (by decide) (by decide +kernel) rfl rfl dX8_isInTree_25 ?_
    refine m_iload_n C dX8_isInTree_28 rfl 3 rfl ?_
    refine r_iald C hR 5 (by decide) rfl n0 (show n0 < 40 by omega) (rfl) dX8_isInTree_29 ?_
    refine m_i (y := ar 5 n0) (rfl) ?_
    refine m_i (y := nI (mny ar n0)) (hm) ?_
    refine m_icmp_ge (tgt := 64) C dX8_isInTree_30 (by decide) (fun h_1 => ?_) (fun h_1 => ?_)
    · have hkm : k9 = mny ar n0 := by
        have := (nI_leI (by omega) (by omega)).mp h_1
        omega
      rw [← hb, hkm]
      exact kx _
    · have hkm : k9 < mny ar n0 := by
        rcases Nat.lt_or_ge k9 (mny ar n0) with z | z
        · exact z
        · exact absurd (nI_le z (by omega)) h_1
      refine m_iload C dX8_isInTree_33 1 rfl ?_
      refine m_if_ne (tgt := 64) C dX8_isInTree_35 (by decide) (fun h_2 => ?_) (fun h_2 => ?_)
      · have h_2 := bI_n h_2
        have hB := pks_any (mny ar n0 - k9) (hb.trans h_2)
        rw [show k9 + (mny ar n0 - k9) = mny ar n0 by omega] at hB
        rw [h_2, ← hB]
        exact kx _
      · have h_2 := bI_z h_2
        obtain ⟨k1, k2, k3, k4, k5, k6, k7, k8⟩ := wf_kid hw hn hp hkm
        refine m_aload_n C dX8_isInTree_38 rfl 2 rfl ?_
        refine m_aload_n C dX8_isInTree_39 rfl 2 rfl ?_
        refine r_get C hR i8 6 (by decide) (by decide +kernel) rfl rfl dX8_isInTree_40 ?_
        refine m_bipush (v := 40) C dX8_isInTree_43 (by decide) ?_
        refine m_iload_n C dX8_isInTree_45 rfl 3 rfl ?_
        refine m_imul C dX8_isInTree_46 ?_
        refine m_iload C dX8_isInTree_47 0 rfl ?_
        refine m_iadd C dX8_isInTree_49 ?_
        refine r_iald C hR 6 (by decide) rfl (40 * n0 + k9) (show (40 * n0 + k9) < 1600 by omega) (by rw [show (40 : Int32) = nI 40 from rfl, pk_mul, nI_add]) dX8_isInTree_50 ?_
        refine m_i (y := ar 6 (40 * n0 + k9)) (rfl) ?_
        refine m_i (y := nI (kid ar n0 k9)) (k4) ?_
        refine m_iload_n C dX8_isInTree_51 rfl 4 rfl ?_
        refine m_iload_n C dX8_isInTree_52 rfl 5 rfl ?_
        refine m_callVFi (As := [.int (nI (kid ar n0 k9)), .int px, .int py]) (st := []) C hR.1 rfl (ihd k9 hkm) (cwV 3 C.1.2.2.2.2 gX8_isInTree_X8_isInTree rfl rfl rfl (by decide +kernel) ⟨Nat.le_refl _, by show 8 + (6 + 11) + (60 * d + 200) ≤ 60 * (d + 1) + 200; omega⟩) rfl rfl (Nat.le_of_ble_eq_true rfl) dX8_isInTree_53 ⟨Nat.zero_le _, Nat.zero_le _⟩ ?_
        refine m_istore (L' := [(4, .int (bI (q_inT ar (kid ar n0 k9) px py))), (5, .int (nI k9)), (0, .ref o), (1, .int (nI n0)), (2, .int px), (3, .int py)]) C dX8_isInTree_56 (by decide) rfl ?_
        obtain ⟨x_3, ex_3⟩ : ∃ z : Int32, z = nI k9 + 1 := ⟨_, rfl⟩
        refine m_iinc (q := 1) (v := x_3) (L' := [(5, .int x_3), (4, .int (bI (q_inT ar (kid ar n0 k9) px py))), (0, .ref o), (1, .int (nI n0)), (2, .int px), (3, .int py)]) C dX8_isInTree_58 rfl (by rw [ex_3]; rfl) (by decide) rfl ?_
        refine m_goto (tgt := 22) C dX8_isInTree_61 (by decide) ?_
        rw [nI_1] at ex_3
        subst ex_3
        refine m_sub (L' := [(5, .int (nI (k9 + 1))), (4, .int (bI (q_inT ar (kid ar n0 k9) px py))), (0, .ref o), (1, .int (nI n0)), (2, .int px), (3, .int py)]) [0, 1, 2, 3, 4, 5] rfl ?_
        exact ih (mny ar n0 - (k9 + 1)) (by omega) (k9 + 1) _ rfl (by omega) (by rw [pks_s, List.any_append, hb, h_2, Bool.false_or]; rfl)
set_option maxHeartbeats 4000000 in
set_option maxRecDepth 100000 in
theorem c_X8_isInTreeD (D : mD) (A : Nat → Prop) (l : Launch) {G : Nat → Nat} {o : Nat} {F : Mm} {t g u : Int32} {cm : Nat} {ar : rA} {od : Nat → Int32} {M : Mm} (hR : rW D G o F t (nI cm) g u (upA ar 17 od) M) (hw : wf ar cm) (px py : Int32) : ∀ (d n0 : Nat), n0 < cm → ¬ ar 2 n0 = 0 → 41 ≤ d + (chn ar n0).length → mMi D A l yX8_isInTree wsX8_isInTree ({ frames := d + 3, cells := 0, slots := 0, locals := 60 * (d) + 200 } : Room) [.ref o, .int (nI n0), .int px, .int py] M (fun r M' => M' = M ∧ r = bI (q_inT ar n0 px py)) 0 0 := by
  intro d
  induction d with
  | zero =>
    intro n0 hn hp hd
    have := wf_chl hw hn hp
    omega
  | succ d ihd =>
    intro n0 hn hp hd
    have hcm := hw.1
    obtain ⟨m9, hm0, hm39, hm1, hm2, -⟩ := wf_mny hw hn hp
    subst hm0
    refine m_start (cc := cX8_isInTree) (maxL := 6) (ret := (some .boolean)) (by decide) rfl (Nat.le_of_ble_eq_true rfl) ?_
    intro p e s m args below meth c C
    have i8 : ∀ w ∈ wsX80, w ∈ wsX8_isInTree := by decide +kernel
    refine m_sub (L' := [(0, .ref o), (1, .int (nI n0)), (2, .int px), (3, .int py)]) [0, 1, 2, 3] rfl ?_
    refine m_aload_n C dX8_isInTree_0 rfl 0 rfl ?_
    refine m_iload_n C dX8_isInTree_1 rfl 1 rfl ?_
    refine m_callVFi (As := [.int (nI n0)]) (st := []) C hR.1 rfl (c_X8_isGroup D A l hR (j := n0) (by omega)) (cwV 1 C.1.2.2.2.2 gX8_isInTree_X8_isGroup rfl rfl rfl (by decide +kernel) ⟨by show 0 + 1 ≤ d + 1 + 3; omega, by show 8 + (2 + 11) + 0 ≤ 60 * (d + 1) + 200; omega⟩) rfl rfl (Nat.le_of_ble_eq_true rfl) dX8_isInTree_2 ⟨Nat.zero_le _, Nat.zero_le _⟩ ?_
    refine m_if_ne (tgt := 16) C dX8_isInTree_5 (by decide) (fun h_1 => ?_) (fun h_1 => ?_)
    · have h_1 := bI_n h_1
      have h_1 := of_decide_eq_true h_1
      refine m_iconst (v := 0) C dX8_isInTree_16 (by decide) ?_
      refine m_istore (L' := [(4, .int 0), (0, .ref o), (1, .int (nI n0)), (2, .int px), (3, .int py)]) C dX8_isInTree_17 (by decide) rfl ?_
      refine m_iconst (v := 0) C dX8_isInTree_19 (by decide) ?_
      refine m_istore (L' := [(5, .int 0), (4, .int 0), (0, .ref o), (1, .int (nI n0)), (2, .int px), (3, .int py)]) C dX8_isInTree_20 (by decide) rfl ?_
      refine m_sub (L' := [(5, .int 0), (4, .int 0), (0, .ref o), (1, .int (nI n0)), (2, .int px), (3, .int py)]) [0, 1, 2, 3, 4, 5] rfl ?_
      refine lp_X8_isInTree hR hw hn hp (by omega) hm1 hm39 (fun k hk => ?_) C i8 (fun x5 => ?_) _ 0 false rfl (Nat.zero_le _) rfl
      · obtain ⟨k1, k2, k3, k4, k5, k6, k7, k8⟩ := wf_kid hw hn hp hk
        exact ihd _ k1 k2 (by rw [k8, List.length_cons]; omega)
      · refine m_iload C dX8_isInTree_64 1 rfl ?_
        exact m_zret C (Nat.zero_le _) (Nat.zero_le _) dX8_isInTree_66 (bI_01 _) (⟨rfl, by rw [q_inT_gr hw hn hp h_1]⟩)
    · have h_1 := bI_z h_1
      have h_1 := of_decide_eq_false h_1
      refine m_aload_n C dX8_isInTree_8 rfl 0 rfl ?_
      refine m_iload_n C dX8_isInTree_9 rfl 1 rfl ?_
      refine m_iload_n C dX8_isInTree_10 rfl 2 rfl ?_
      refine m_iload_n C dX8_isInTree_11 rfl 3 rfl ?_
      refine m_callVFi (As := [.int (nI n0), .int px, .int py]) (st := []) C hR.1 rfl (c_X8_isInShape D A l hR hw hn hp px py) (cwV 3 C.1.2.2.2.2 gX8_isInTree_X8_isInShape rfl rfl rfl (by decide +kernel) ⟨by show 2 + 1 ≤ d + 1 + 3; omega, by show 8 + (16 + 11) + 80 ≤ 60 * (d + 1) + 200; omega⟩) rfl rfl (Nat.le_of_ble_eq_true rfl) dX8_isInTree_12 ⟨Nat.zero_le _, Nat.zero_le _⟩ ?_
      exact m_zret C (Nat.zero_le _) (Nat.zero_le _) dX8_isInTree_15 (bI_01 _) (⟨rfl, by rw [q_pre_sh hw hn hp h_1]⟩)
set_option maxHeartbeats 4000000 in
set_option maxRecDepth 100000 in
theorem c_X8_isMask (D : mD) (A : Nat → Prop) (l : Launch) {G : Nat → Nat} {o : Nat} {F : Mm} {t g u : Int32} {cm : Nat} {ar : rA} {od : Nat → Int32} {M : Mm} (hR : rW D G o F t (nI cm) g u (upA ar 17 od) M) (hw : wf ar cm) {n0 : Nat} (hn : n0 < cm) (hp : ¬ ar 2 n0 = 0) : mMi D A l yX8_isMask wsX8_isMask ({ frames := 0, cells := 0, slots := 0, locals := 0 } : Room) [.ref o, .int (nI n0)] M (fun r M' => M' = M ∧ r = bI (q_isM ar n0)) 0 0 := by
  have hcm := hw.1
  refine m_start (cc := cX8_isMask) (maxL := 2) (ret := (some .boolean)) (by decide) rfl (Nat.le_of_ble_eq_true rfl) ?_
  intro p e s m args below meth c C
  have i8 : ∀ w ∈ wsX80, w ∈ wsX8_isMask := by decide +kernel
  refine m_sub (L' := [(0, .ref o), (1, .int (nI n0))]) [0, 1] rfl ?_
  refine m_iload_n C dX8_isMask_0 rfl 1 rfl ?_
  refine m_if_eq (tgt := 40) C dX8_isMask_1 (by decide) (fun h_1 => ?_) (fun h_1 => ?_)
  · have hn0z : n0 = 0 := (nI_eq (by omega) (by decide)).mp (show nI n0 = nI 0 from h_1)
    refine m_iconst (v := 0) C dX8_isMask_40 (by decide) ?_
    exact m_zret C (Nat.le_of_ble_eq_true rfl) (Nat.le_of_ble_eq_true rfl) dX8_isMask_41 (Or.inl rfl) (⟨rfl, by simp [q_isM, bI, Int32.not_lt, Int32.not_le, hn0z]⟩)
  · have hn0z : ¬ n0 = 0 := fun y => h_1 (by rw [y]; rfl)
    obtain ⟨z1, z2, z3, z4, z5⟩ := wf_place hw hn hp hn0z
    refine m_aload_n C dX8_isMask_4 rfl 0 rfl ?_
    refine r_get C hR i8 13 (by decide) (by decide +kernel) rfl rfl dX8_isMask_5 ?_
    refine m_aload_n C dX8_isMask_8 rfl 0 rfl ?_
    refine r_get C hR i8 4 (by decide) (by decide +kernel) rfl rfl dX8_isMask_9 ?_
    refine m_iload_n C dX8_isMask_12 rfl 1 rfl ?_
    refine r_iald C hR 4 (by decide) rfl n0 (show n0 < 40 by omega) (rfl) dX8_isMask_13 ?_
    refine m_i (y := ar 4 n0) (rfl) ?_
    refine m_i (y := nI (par9 ar n0)) (z2) ?_
    refine r_zald C hR 13 (by decide) rfl (par9 ar n0) (show (par9 ar n0) < 40 by omega) (rfl) dX8_isMask_14 ?_
    refine m_i (y := ar 13 (par9 ar n0)) (rfl) ?_
    refine m_if_eq (tgt := 40) C dX8_isMask_15 (by decide) (fun h_2 => ?_) (fun h_2 => ?_)
    · refine m_iconst (v := 0) C dX8_isMask_40 (by decide) ?_
      exact m_zret C (Nat.le_of_ble_eq_true rfl) (Nat.le_of_ble_eq_true rfl) dX8_isMask_41 (Or.inl rfl) (⟨rfl, by simp [q_isM, bI, Int32.not_lt, Int32.not_le, hn0z, h_2]⟩)
    · refine m_aload_n C dX8_isMask_18 rfl 0 rfl ?_
      refine r_get C hR i8 6 (by decide) (by decide +kernel) rfl rfl dX8_isMask_19 ?_
      refine m_bipush (v := 40) C dX8_isMask_22 (by decide) ?_
      refine m_aload_n C dX8_isMask_24 rfl 0 rfl ?_
      refine r_get C hR i8 4 (by decide) (by decide +kernel) rfl rfl dX8_isMask_25 ?_
      refine m_iload_n C dX8_isMask_28 rfl 1 rfl ?_
      refine r_iald C hR 4 (by decide) rfl n0 (show n0 < 40 by omega) (rfl) dX8_isMask_29 ?_
      refine m_i (y := ar 4 n0) (rfl) ?_
      refine m_i (y := nI (par9 ar n0)) (z2) ?_
      refine m_imul C dX8_isMask_30 ?_
      refine r_iald C hR 6 (by decide) rfl (40 * par9 ar n0) (show (40 * par9 ar n0) < 1600 by omega) (by rw [show (40 : Int32) = nI 40 from rfl, pk_mul]) dX8_isMask_31 ?_
      refine m_i (y := ar 6 (40 * par9 ar n0)) (rfl) ?_
      refine m_iload_n C dX8_isMask_32 rfl 1 rfl ?_
      refine m_icmp_ne (tgt := 40) C dX8_isMask_33 (by decide) (fun h_3 => ?_) (fun h_3 => ?_)
      · refine m_iconst (v := 0) C dX8_isMask_40 (by decide) ?_
        exact m_zret C (Nat.le_of_ble_eq_true rfl) (Nat.le_of_ble_eq_true rfl) dX8_isMask_41 (Or.inl rfl) (⟨rfl, by simp [q_isM, bI, Int32.not_lt, Int32.not_le, hn0z, h_2, h_3]⟩)
      · refine m_iconst (v := 1) C dX8_isMask_36 (by decide) ?_
        refine m_goto (tgt := 41) C dX8_isMask_37 (by decide) ?_
        exact m_zret C (Nat.le_of_ble_eq_true rfl) (Nat.le_of_ble_eq_true rfl) dX8_isMask_41 (Or.inr rfl) (⟨rfl, by simp [q_isM, bI, Int32.not_lt, Int32.not_le, hn0z, h_2, h_3]⟩)
set_option maxHeartbeats 4000000 in
set_option maxRecDepth 100000 in
theorem lp_X8_isShown {p : Program} {l : Launch} {e : Env} {s : State} {m : MethodId} {args : Array Value} {below : List Frame} {meth : Method} {c : Code} {Q : State → Prop} {D : mD} {A : Nat → Prop} {G : Nat → Nat} {o : Nat} {F : Mm} {t g u : Int32} {cm : Nat} {ar : rA} {od : Nat → Int32} {M : Mm} (hR : rW D G o F t (nI cm) g u (upA ar 17 od) M) (hw : wf ar cm) (hcm : 1 ≤ cm ∧ cm ≤ 40) {n0 : Nat} (hn : n0 < cm) {px py : Int32} {B : Bool} (C : mC p m meth c cX8_isShown 5 s args wsX8_isShown yX8_isShown.cls D A yX8_isShown (some .boolean)) (i8 : ∀ w ∈ wsX80, w ∈ wsX8_isShown) (kt : ∀ x4 : Int32, true = B → mV p l e ({ frames := 45, cells := 0, slots := 0, locals := 2800 } : Room) s m args below meth c 5 D A Q M 0 0 [(4, .int x4), (0, .ref o), (1, .int (nI n0)), (2, .int px), (3, .int py)] [] 147) (kf49 : ∀ x4 : Int32, false = B → mV p l e ({ frames := 45, cells := 0, slots := 0, locals := 2800 } : Room) s m args below meth c 5 D A Q M 0 0 [(4, .int x4), (0, .ref o), (1, .int (nI n0)), (2, .int px), (3, .int py)] [.int 0] 49) (kf97 : ∀ x4 : Int32, false = B → mV p l e ({ frames := 45, cells := 0, slots := 0, locals := 2800 } : Room) s m args below meth c 5 D A Q M 0 0 [(4, .int x4), (0, .ref o), (1, .int (nI n0)), (2, .int px), (3, .int py)] [.int 0] 97) (kf134 : ∀ x4 : Int32, false = B → mV p l e ({ frames := 45, cells := 0, slots := 0, locals := 2800 } : Room) s m args below meth c 5 D A Q M 0 0 [(4, .int x4), (0, .ref o), (1, .int (nI n0)), (2, .int px), (3, .int py)] [.int 0] 134) : ∀ (N : Nat) (l1 : List Nat), l1.length = N → (CH ar l1) → (l1.all (q_okA ar n0 px py) = B) → (∀ a l2, l1 = a :: l2 → a < cm ∧ ¬ ar 2 a = 0 ∧ chn ar a = a :: l2 ∧ (¬ a = n0 → 0 < mny ar a)) → mV p l e ({ frames := 45, cells := 0, slots := 0, locals := 2800 } : Room) s m args below meth c 5 D A Q M 0 0 [(4, .int (q_at l1)), (0, .ref o), (1, .int (nI n0)), (2, .int px), (3, .int py)] [] 23 := by
  intro N
  induction N using Nat.strongRecOn with
  | _ N ih =>
    intro l1 hN hl1 hB hl3
    rcases l1 with _ | ⟨a, l2⟩
    · show mV p l e ({ frames := 45, cells := 0, slots := 0, locals := 2800 } : Room) s m args below meth c 5 D A Q M 0 0 [(4, .int ((-1))), (0, .ref o), (1, .int (nI n0)), (2, .int px), (3, .int py)] [] 23
      refine m_iload C dX8_isShown_23 0 rfl ?_
      refine m_iconst (v := (-1)) C dX8_isShown_25 (by decide) ?_
      refine m_icmp_eq (tgt := 147) C dX8_isShown_26 (by decide) (fun h_1 => ?_) (fun h_1 => ?_)
      · exact kt _ (by rw [← hB]; rfl)
      · exact absurd h_1 (by decide)
    · show mV p l e ({ frames := 45, cells := 0, slots := 0, locals := 2800 } : Room) s m args below meth c 5 D A Q M 0 0 [(4, .int (nI a)), (0, .ref o), (1, .int (nI n0)), (2, .int px), (3, .int py)] [] 23
      obtain ⟨ha40, ha0, hpa, hl2⟩ := hl1
      obtain ⟨hac, hap, hach, ham⟩ := hl3 a l2 rfl
      refine m_iload C dX8_isShown_23 0 rfl ?_
      refine m_iconst (v := (-1)) C dX8_isShown_25 (by decide) ?_
      refine m_icmp_eq (tgt := 147) C dX8_isShown_26 (by decide) (fun h_2 => ?_) (fun h_2 => ?_)
      · exact absurd h_2 (nI_nm1 (by omega))
      · refine m_aload_n C dX8_isShown_29 rfl 1 rfl ?_
        refine r_get C hR i8 12 (by decide) (by decide +kernel) rfl rfl dX8_isShown_30 ?_
        refine m_iload C dX8_isShown_33 0 rfl ?_
        refine r_zald C hR 12 (by decide) rfl a (show a < 40 by omega) (rfl) dX8_isShown_35 ?_
        refine m_i (y := ar 12 a) (rfl) ?_
        refine m_if_ne (tgt := 48) C dX8_isShown_36 (by decide) (fun h_3 => ?_) (fun h_3 => ?_)
        · refine m_iconst (v := 0) C dX8_isShown_48 (by decide) ?_
          exact kf49 _ (by rw [← hB]; simp [q_okA, q_clpA, q_mskA, h_3])
        · refine m_aload_n C dX8_isShown_39 rfl 1 rfl ?_
          refine m_iload C dX8_isShown_40 0 rfl ?_
          refine m_callVFi (As := [.int (nI a)]) (st := []) C hR.1 rfl (c_X8_isMask D A l hR hw hac hap) (cwV 1 C.1.2.2.2.2 gX8_isShown_X8_isMask rfl rfl rfl (by decide +kernel) ⟨Nat.le_of_ble_eq_true rfl, Nat.le_of_ble_eq_true rfl⟩) rfl rfl (Nat.le_of_ble_eq_true rfl) dX8_isShown_42 ⟨Nat.le_of_ble_eq_true rfl, Nat.le_of_ble_eq_true rfl⟩ ?_
          refine m_if_eq (tgt := 50) C dX8_isShown_45 (by decide) (fun h_4 => ?_) (fun h_4 => ?_)
          · have h_4 := bI_z h_4
            refine m_aload_n C dX8_isShown_50 rfl 1 rfl ?_
            refine r_get C hR i8 14 (by decide) (by decide +kernel) rfl rfl dX8_isShown_51 ?_
            refine m_iconst (v := 4) C dX8_isShown_54 (by decide) ?_
            refine m_iload C dX8_isShown_55 0 rfl ?_
            refine m_imul C dX8_isShown_57 ?_
            refine m_iconst (v := 2) C dX8_isShown_58 (by decide) ?_
            refine m_iadd C dX8_isShown_59 ?_
            refine r_iald C hR 14 (by decide) rfl (4 * a + 2) (show (4 * a + 2) < 160 by omega) (by rw [show (4 : Int32) = nI 4 from rfl, show (2 : Int32) = nI 2 from rfl, pk_mul, nI_add]) dX8_isShown_60 ?_
            refine m_i (y := ar 14 (4 * a + 2)) (rfl) ?_
            refine m_if_le (tgt := 98) C dX8_isShown_61 (by decide) (fun h_5 => ?_) (fun h_5 => ?_)
            · refine m_iload C dX8_isShown_98 0 rfl ?_
              refine m_iload_n C dX8_isShown_100 rfl 2 rfl ?_
              refine m_icmp_eq (tgt := 135) C dX8_isShown_101 (by decide) (fun h_6 => ?_) (fun h_6 => ?_)
              · have han : a = n0 := (nI_eq (by omega) (by omega)).mp h_6
                have hqd : decide (a = n0) = true := decide_eq_true han
                refine m_aload_n C dX8_isShown_135 rfl 1 rfl ?_
                refine r_get C hR i8 4 (by decide) (by decide +kernel) rfl rfl dX8_isShown_136 ?_
                refine m_iload C dX8_isShown_139 0 rfl ?_
                refine r_iald C hR 4 (by decide) rfl a (show a < 40 by omega) (rfl) dX8_isShown_141 ?_
                refine m_i (y := ar 4 a) (rfl) ?_
                refine m_i (y := q_at l2) (hpa) ?_
                refine m_istore (L' := [(4, .int (q_at l2)), (0, .ref o), (1, .int (nI n0)), (2, .int px), (3, .int py)]) C dX8_isShown_142 (by decide) rfl ?_
                refine m_goto (tgt := 23) C dX8_isShown_144 (by decide) ?_
                refine m_sub (L' := [(4, .int (q_at l2)), (0, .ref o), (1, .int (nI n0)), (2, .int px), (3, .int py)]) [0, 1, 2, 3, 4] rfl ?_
                refine ih _ (by simp at hN; omega) l2 rfl hl2 (by rw [← hB]; simp [q_okA, q_clpA, q_mskA, h_3, h_4, h_5, hqd]) (fun b l3 hbl => ?_)
                subst hbl
                have hane : ¬ a = 0 := fun y => by cases ha0.mpr y
                obtain ⟨q8, k8, m9, hT1, hT0, hTq, hTqp, hTq3, hT00, hT2, hT3, hT4, hT5, hT6, hTc⟩ := wf_par hw hac hap hane
                have hbq : b = q8 := by
                  have := hpa
                  rw [hT1] at this
                  exact ((nI_eq (by omega) (by have := hl2.1; omega)).mp this).symm
                subst hbq
                rw [hach] at hTc
                exact ⟨hTq, hTqp, (List.cons.inj hTc).2.symm, fun _ => by rw [mny, hT4, nI_clamp (by omega)]; omega⟩
              · have han : ¬ a = n0 := fun y => h_6 (by rw [y])
                have hmk : 0 < mny ar a := ham han
                obtain ⟨k1, k2, k3, k4, k5, k6, k7, k8⟩ := wf_kid hw hac hap hmk
                refine m_aload_n C dX8_isShown_104 rfl 1 rfl ?_
                refine r_get C hR i8 13 (by decide) (by decide +kernel) rfl rfl dX8_isShown_105 ?_
                refine m_iload C dX8_isShown_108 0 rfl ?_
                refine r_zald C hR 13 (by decide) rfl a (show a < 40 by omega) (rfl) dX8_isShown_110 ?_
                refine m_i (y := ar 13 a) (rfl) ?_
                refine m_if_eq (tgt := 135) C dX8_isShown_111 (by decide) (fun h_7 => ?_) (fun h_7 => ?_)
                · refine m_aload_n C dX8_isShown_135 rfl 1 rfl ?_
                  refine r_get C hR i8 4 (by decide) (by decide +kernel) rfl rfl dX8_isShown_136 ?_
                  refine m_iload C dX8_isShown_139 0 rfl ?_
                  refine r_iald C hR 4 (by decide) rfl a (show a < 40 by omega) (rfl) dX8_isShown_141 ?_
                  refine m_i (y := ar 4 a) (rfl) ?_
                  refine m_i (y := q_at l2) (hpa) ?_
                  refine m_istore (L' := [(4, .int (q_at l2)), (0, .ref o), (1, .int (nI n0)), (2, .int px), (3, .int py)]) C dX8_isShown_142 (by decide) rfl ?_
                  refine m_goto (tgt := 23) C dX8_isShown_144 (by decide) ?_
                  refine m_sub (L' := [(4, .int (q_at l2)), (0, .ref o), (1, .int (nI n0)), (2, .int px), (3, .int py)]) [0, 1, 2, 3, 4] rfl ?_
                  refine ih _ (by simp at hN; omega) l2 rfl hl2 (by rw [← hB]; simp [q_okA, q_clpA, q_mskA, h_3, h_4, h_5, han, h_7]) (fun b l3 hbl => ?_)
                  subst hbl
                  have hane : ¬ a = 0 := fun y => by cases ha0.mpr y
                  obtain ⟨q8, k8, m9, hT1, hT0, hTq, hTqp, hTq3, hT00, hT2, hT3, hT4, hT5, hT6, hTc⟩ := wf_par hw hac hap hane
                  have hbq : b = q8 := by
                    have := hpa
                    rw [hT1] at this
                    exact ((nI_eq (by omega) (by have := hl2.1; omega)).mp this).symm
                  subst hbq
                  rw [hach] at hTc
                  exact ⟨hTq, hTqp, (List.cons.inj hTc).2.symm, fun _ => by rw [mny, hT4, nI_clamp (by omega)]; omega⟩
                · refine m_aload_n C dX8_isShown_114 rfl 1 rfl ?_
                  refine m_aload_n C dX8_isShown_115 rfl 1 rfl ?_
                  refine r_get C hR i8 6 (by decide) (by decide +kernel) rfl rfl dX8_isShown_116 ?_
                  refine m_bipush (v := 40) C dX8_isShown_119 (by decide) ?_
                  refine m_iload C dX8_isShown_121 0 rfl ?_
                  refine m_imul C dX8_isShown_123 ?_
                  refine r_iald C hR 6 (by decide) rfl (40 * a) (show (40 * a) < 1600 by omega) (by rw [show (40 : Int32) = nI 40 from rfl, pk_mul]) dX8_isShown_124 ?_
                  refine m_i (y := ar 6 (40 * a)) (rfl) ?_
                  refine m_i (y := nI (kid ar a 0)) (k4) ?_
                  refine m_iload_n C dX8_isShown_125 rfl 3 rfl ?_
                  refine m_iload_n C dX8_isShown_126 rfl 4 rfl ?_
                  refine m_callVFi (As := [.int (nI (kid ar a 0)), .int px, .int py]) (st := []) (v := bI (q_inT ar (kid ar a 0) px py)) C hR.1 rfl (c_X8_isInTreeD D A l hR hw px py 41 (kid ar a 0) k1 k2 (by omega)) (cwV 3 C.1.2.2.2.2 gX8_isShown_X8_isInTree rfl rfl rfl (by decide +kernel) ⟨Nat.le_of_ble_eq_true rfl, Nat.le_of_ble_eq_true rfl⟩) rfl rfl (Nat.le_of_ble_eq_true rfl) dX8_isShown_127 ⟨Nat.le_of_ble_eq_true rfl, Nat.le_of_ble_eq_true rfl⟩ ?_
                  refine m_if_ne (tgt := 135) C dX8_isShown_130 (by decide) (fun h_8 => ?_) (fun h_8 => ?_)
                  · have h_8 := bI_n h_8
                    refine m_aload_n C dX8_isShown_135 rfl 1 rfl ?_
                    refine r_get C hR i8 4 (by decide) (by decide +kernel) rfl rfl dX8_isShown_136 ?_
                    refine m_iload C dX8_isShown_139 0 rfl ?_
                    refine r_iald C hR 4 (by decide) rfl a (show a < 40 by omega) (rfl) dX8_isShown_141 ?_
                    refine m_i (y := ar 4 a) (rfl) ?_
                    refine m_i (y := q_at l2) (hpa) ?_
                    refine m_istore (L' := [(4, .int (q_at l2)), (0, .ref o), (1, .int (nI n0)), (2, .int px), (3, .int py)]) C dX8_isShown_142 (by decide) rfl ?_
                    refine m_goto (tgt := 23) C dX8_isShown_144 (by decide) ?_
                    refine m_sub (L' := [(4, .int (q_at l2)), (0, .ref o), (1, .int (nI n0)), (2, .int px), (3, .int py)]) [0, 1, 2, 3, 4] rfl ?_
                    refine ih _ (by simp at hN; omega) l2 rfl hl2 (by rw [← hB]; simp [q_okA, q_clpA, q_mskA, h_3, h_4, h_5, han, h_7, h_8]) (fun b l3 hbl => ?_)
                    subst hbl
                    have hane : ¬ a = 0 := fun y => by cases ha0.mpr y
                    obtain ⟨q8, k8, m9, hT1, hT0, hTq, hTqp, hTq3, hT00, hT2, hT3, hT4, hT5, hT6, hTc⟩ := wf_par hw hac hap hane
                    have hbq : b = q8 := by
                      have := hpa
                      rw [hT1] at this
                      exact ((nI_eq (by omega) (by have := hl2.1; omega)).mp this).symm
                    subst hbq
                    rw [hach] at hTc
                    exact ⟨hTq, hTqp, (List.cons.inj hTc).2.symm, fun _ => by rw [mny, hT4, nI_clamp (by omega)]; omega⟩
                  · have h_8 := bI_z h_8
                    refine m_iconst (v := 0) C dX8_isShown_133 (by decide) ?_
                    exact kf134 _ (by rw [← hB]; simp [q_okA, q_clpA, q_mskA, h_3, h_4, h_5, han, h_7, h_8])
            · refine m_aload_n C dX8_isShown_64 rfl 1 rfl ?_
              refine r_get C hR i8 14 (by decide) (by decide +kernel) rfl rfl dX8_isShown_65 ?_
              refine m_iconst (v := 4) C dX8_isShown_68 (by decide) ?_
              refine m_iload C dX8_isShown_69 0 rfl ?_
              refine m_imul C dX8_isShown_71 ?_
              refine m_i (y := nI (4 * a)) (by rw [show (4 : Int32) = nI 4 from rfl, pk_mul]) ?_
              refine m_iload_n C dX8_isShown_72 rfl 3 rfl ?_
              refine m_aload_n C dX8_isShown_73 rfl 1 rfl ?_
              refine m_iload C dX8_isShown_74 0 rfl ?_
              refine m_iconst (v := 0) C dX8_isShown_76 (by decide) ?_
              refine m_callVFi (As := [.int (nI a), .int 0]) (st := [.int px, .int (nI (4 * a)), .ref (G 14)]) (v := q_off ar 8 (a :: l2) 0) C hR.1 rfl (c_X8_offset D A l hR (l0 := a :: l2) ⟨ha40, ha0, hpa, hl2⟩ false) (cwV 2 C.1.2.2.2.2 gX8_isShown_X8_offset rfl rfl rfl (by decide +kernel) ⟨Nat.le_of_ble_eq_true rfl, Nat.le_of_ble_eq_true rfl⟩) rfl rfl (Nat.le_of_ble_eq_true rfl) dX8_isShown_77 ⟨Nat.le_of_ble_eq_true rfl, Nat.le_of_ble_eq_true rfl⟩ ?_
              refine m_isub C dX8_isShown_80 ?_
              refine m_iload_n C dX8_isShown_81 rfl 4 rfl ?_
              refine m_aload_n C dX8_isShown_82 rfl 1 rfl ?_
              refine m_iload C dX8_isShown_83 0 rfl ?_
              refine m_iconst (v := 1) C dX8_isShown_85 (by decide) ?_
              refine m_callVFi (As := [.int (nI a), .int 1]) (st := [.int py, .int (px - (q_off ar 8 (a :: l2) 0)), .int (nI (4 * a)), .ref (G 14)]) (v := q_off ar 9 (a :: l2) 0) C hR.1 rfl (c_X8_offset D A l hR (l0 := a :: l2) ⟨ha40, ha0, hpa, hl2⟩ true) (cwV 2 C.1.2.2.2.2 gX8_isShown_X8_offset rfl rfl rfl (by decide +kernel) ⟨Nat.le_of_ble_eq_true rfl, Nat.le_of_ble_eq_true rfl⟩) rfl rfl (Nat.le_of_ble_eq_true rfl) dX8_isShown_86 ⟨Nat.le_of_ble_eq_true rfl, Nat.le_of_ble_eq_true rfl⟩ ?_
              refine m_isub C dX8_isShown_89 ?_
              refine m_callSFi (As := [.ref (G 14), .int (nI (4 * a)), .int (px - (q_off ar 8 (a :: l2) 0)), .int (py - (q_off ar 9 (a :: l2) 0))]) (st := []) (v := bI (q_box (ar 14) (4 * a) (px - (q_off ar 8 (a :: l2) 0)) (py - (q_off ar 9 (a :: l2) 0)))) C (c_X8_isWithin_ D A l hR (f := 14) (a := 4 * a) (by decide) rfl (show _ < 160 by omega) (px - (q_off ar 8 (a :: l2) 0)) (py - (q_off ar 9 (a :: l2) 0))) (va_cwS 4 C.1.2.2.2.2 gX8_isShown_X8_isWithin_ rfl rfl rfl (by decide +kernel) ⟨Nat.le_of_ble_eq_true rfl, Nat.le_of_ble_eq_true rfl⟩) rfl rfl (Nat.le_of_ble_eq_true rfl) dX8_isShown_90 ⟨Nat.le_of_ble_eq_true rfl, Nat.le_of_ble_eq_true rfl⟩ ?_
              refine m_i (y := bI (q_box (ar 14) (4 * a) (px - q_off ar 8 (chn ar a) 0) (py - q_off ar 9 (chn ar a) 0))) (by rw [hach]) ?_
              refine m_if_ne (tgt := 98) C dX8_isShown_93 (by decide) (fun h_9 => ?_) (fun h_9 => ?_)
              · have h_9 := bI_n h_9
                refine m_iload C dX8_isShown_98 0 rfl ?_
                refine m_iload_n C dX8_isShown_100 rfl 2 rfl ?_
                refine m_icmp_eq (tgt := 135) C dX8_isShown_101 (by decide) (fun h_10 => ?_) (fun h_10 => ?_)
                · have han : a = n0 := (nI_eq (by omega) (by omega)).mp h_10
                  have hqd : decide (a = n0) = true := decide_eq_true han
                  refine m_aload_n C dX8_isShown_135 rfl 1 rfl ?_
                  refine r_get C hR i8 4 (by decide) (by decide +kernel) rfl rfl dX8_isShown_136 ?_
                  refine m_iload C dX8_isShown_139 0 rfl ?_
                  refine r_iald C hR 4 (by decide) rfl a (show a < 40 by omega) (rfl) dX8_isShown_141 ?_
                  refine m_i (y := ar 4 a) (rfl) ?_
                  refine m_i (y := q_at l2) (hpa) ?_
                  refine m_istore (L' := [(4, .int (q_at l2)), (0, .ref o), (1, .int (nI n0)), (2, .int px), (3, .int py)]) C dX8_isShown_142 (by decide) rfl ?_
                  refine m_goto (tgt := 23) C dX8_isShown_144 (by decide) ?_
                  refine m_sub (L' := [(4, .int (q_at l2)), (0, .ref o), (1, .int (nI n0)), (2, .int px), (3, .int py)]) [0, 1, 2, 3, 4] rfl ?_
                  refine ih _ (by simp at hN; omega) l2 rfl hl2 (by rw [← hB]; simp [q_okA, q_clpA, q_mskA, h_3, h_4, Int32.not_le.mp h_5, h_5, h_9, hqd]) (fun b l3 hbl => ?_)
                  subst hbl
                  have hane : ¬ a = 0 := fun y => by cases ha0.mpr y
                  obtain ⟨q8, k8, m9, hT1, hT0, hTq, hTqp, hTq3, hT00, hT2, hT3, hT4, hT5, hT6, hTc⟩ := wf_par hw hac hap hane
                  have hbq : b = q8 := by
                    have := hpa
                    rw [hT1] at this
                    exact ((nI_eq (by omega) (by have := hl2.1; omega)).mp this).symm
                  subst hbq
                  rw [hach] at hTc
                  exact ⟨hTq, hTqp, (List.cons.inj hTc).2.symm, fun _ => by rw [mny, hT4, nI_clamp (by omega)]; omega⟩
                · have han : ¬ a = n0 := fun y => h_10 (by rw [y])
                  have hmk : 0 < mny ar a := ham han
                  obtain ⟨k1, k2, k3, k4, k5, k6, k7, k8⟩ := wf_kid hw hac hap hmk
                  refine m_aload_n C dX8_isShown_104 rfl 1 rfl ?_
                  refine r_get C hR i8 13 (by decide) (by decide +kernel) rfl rfl dX8_isShown_105 ?_
                  refine m_iload C dX8_isShown_108 0 rfl ?_
                  refine r_zald C hR 13 (by decide) rfl a (show a < 40 by omega) (rfl) dX8_isShown_110 ?_
                  refine m_i (y := ar 13 a) (rfl) ?_
                  refine m_if_eq (tgt := 135) C dX8_isShown_111 (by decide) (fun h_11 => ?_) (fun h_11 => ?_)
                  · refine m_aload_n C dX8_isShown_135 rfl 1 rfl ?_
                    refine r_get C hR i8 4 (by decide) (by decide +kernel) rfl rfl dX8_isShown_136 ?_
                    refine m_iload C dX8_isShown_139 0 rfl ?_
                    refine r_iald C hR 4 (by decide) rfl a (show a < 40 by omega) (rfl) dX8_isShown_141 ?_
                    refine m_i (y := ar 4 a) (rfl) ?_
                    refine m_i (y := q_at l2) (hpa) ?_
                    refine m_istore (L' := [(4, .int (q_at l2)), (0, .ref o), (1, .int (nI n0)), (2, .int px), (3, .int py)]) C dX8_isShown_142 (by decide) rfl ?_
                    refine m_goto (tgt := 23) C dX8_isShown_144 (by decide) ?_
                    refine m_sub (L' := [(4, .int (q_at l2)), (0, .ref o), (1, .int (nI n0)), (2, .int px), (3, .int py)]) [0, 1, 2, 3, 4] rfl ?_
                    refine ih _ (by simp at hN; omega) l2 rfl hl2 (by rw [← hB]; simp [q_okA, q_clpA, q_mskA, h_3, h_4, Int32.not_le.mp h_5, h_5, h_9, han, h_11]) (fun b l3 hbl => ?_)
                    subst hbl
                    have hane : ¬ a = 0 := fun y => by cases ha0.mpr y
                    obtain ⟨q8, k8, m9, hT1, hT0, hTq, hTqp, hTq3, hT00, hT2, hT3, hT4, hT5, hT6, hTc⟩ := wf_par hw hac hap hane
                    have hbq : b = q8 := by
                      have := hpa
                      rw [hT1] at this
                      exact ((nI_eq (by omega) (by have := hl2.1; omega)).mp this).symm
                    subst hbq
                    rw [hach] at hTc
                    exact ⟨hTq, hTqp, (List.cons.inj hTc).2.symm, fun _ => by rw [mny, hT4, nI_clamp (by omega)]; omega⟩
                  · refine m_aload_n C dX8_isShown_114 rfl 1 rfl ?_
                    refine m_aload_n C dX8_isShown_115 rfl 1 rfl ?_
                    refine r_get C hR i8 6 (by decide) (by decide +kernel) rfl rfl dX8_isShown_116 ?_
                    refine m_bipush (v := 40) C dX8_isShown_119 (by decide) ?_
                    refine m_iload C dX8_isShown_121 0 rfl ?_
                    refine m_imul C dX8_isShown_123 ?_
                    refine r_iald C hR 6 (by decide) rfl (40 * a) (show (40 * a) < 1600 by omega) (by rw [show (40 : Int32) = nI 40 from rfl, pk_mul]) dX8_isShown_124 ?_
                    refine m_i (y := ar 6 (40 * a)) (rfl) ?_
                    refine m_i (y := nI (kid ar a 0)) (k4) ?_
                    refine m_iload_n C dX8_isShown_125 rfl 3 rfl ?_
                    refine m_iload_n C dX8_isShown_126 rfl 4 rfl ?_
                    refine m_callVFi (As := [.int (nI (kid ar a 0)), .int px, .int py]) (st := []) (v := bI (q_inT ar (kid ar a 0) px py)) C hR.1 rfl (c_X8_isInTreeD D A l hR hw px py 41 (kid ar a 0) k1 k2 (by omega)) (cwV 3 C.1.2.2.2.2 gX8_isShown_X8_isInTree rfl rfl rfl (by decide +kernel) ⟨Nat.le_of_ble_eq_true rfl, Nat.le_of_ble_eq_true rfl⟩) rfl rfl (Nat.le_of_ble_eq_true rfl) dX8_isShown_127 ⟨Nat.le_of_ble_eq_true rfl, Nat.le_of_ble_eq_true rfl⟩ ?_
                    refine m_if_ne (tgt := 135) C dX8_isShown_130 (by decide) (fun h_12 => ?_) (fun h_12 => ?_)
                    · have h_12 := bI_n h_12
                      refine m_aload_n C dX8_isShown_135 rfl 1 rfl ?_
                      refine r_get C hR i8 4 (by decide) (by decide +kernel) rfl rfl dX8_isShown_136 ?_
                      refine m_iload C dX8_isShown_139 0 rfl ?_
                      refine r_iald C hR 4 (by decide) rfl a (show a < 40 by omega) (rfl) dX8_isShown_141 ?_
                      refine m_i (y := ar 4 a) (rfl) ?_
                      refine m_i (y := q_at l2) (hpa) ?_
                      refine m_istore (L' := [(4, .int (q_at l2)), (0, .ref o), (1, .int (nI n0)), (2, .int px), (3, .int py)]) C dX8_isShown_142 (by decide) rfl ?_
                      refine m_goto (tgt := 23) C dX8_isShown_144 (by decide) ?_
                      refine m_sub (L' := [(4, .int (q_at l2)), (0, .ref o), (1, .int (nI n0)), (2, .int px), (3, .int py)]) [0, 1, 2, 3, 4] rfl ?_
                      refine ih _ (by simp at hN; omega) l2 rfl hl2 (by rw [← hB]; simp [q_okA, q_clpA, q_mskA, h_3, h_4, Int32.not_le.mp h_5, h_5, h_9, han, h_11, h_12]) (fun b l3 hbl => ?_)
                      subst hbl
                      have hane : ¬ a = 0 := fun y => by cases ha0.mpr y
                      obtain ⟨q8, k8, m9, hT1, hT0, hTq, hTqp, hTq3, hT00, hT2, hT3, hT4, hT5, hT6, hTc⟩ := wf_par hw hac hap hane
                      have hbq : b = q8 := by
                        have := hpa
                        rw [hT1] at this
                        exact ((nI_eq (by omega) (by have := hl2.1; omega)).mp this).symm
                      subst hbq
                      rw [hach] at hTc
                      exact ⟨hTq, hTqp, (List.cons.inj hTc).2.symm, fun _ => by rw [mny, hT4, nI_clamp (by omega)]; omega⟩
                    · have h_12 := bI_z h_12
                      refine m_iconst (v := 0) C dX8_isShown_133 (by decide) ?_
                      exact kf134 _ (by rw [← hB]; simp [q_okA, q_clpA, q_mskA, h_3, h_4, Int32.not_le.mp h_5, h_5, h_9, han, h_11, h_12])
              · have h_9 := bI_z h_9
                refine m_iconst (v := 0) C dX8_isShown_96 (by decide) ?_
                exact kf97 _ (by rw [← hB]; simp [q_okA, q_clpA, q_mskA, h_3, h_4, Int32.not_le.mp h_5, h_5, h_9])
          · have h_4 := bI_n h_4
            refine m_iconst (v := 0) C dX8_isShown_48 (by decide) ?_
            exact kf49 _ (by rw [← hB]; simp [q_okA, q_clpA, q_mskA, h_3, h_4])
set_option maxHeartbeats 4000000 in
set_option maxRecDepth 100000 in
theorem c_X8_isShown (D : mD) (A : Nat → Prop) (l : Launch) {G : Nat → Nat} {o : Nat} {F : Mm} {t g u : Int32} {cm : Nat} {ar : rA} {od : Nat → Int32} {M : Mm} (hR : rW D G o F t (nI cm) g u (upA ar 17 od) M) (hw : wf ar cm) {n0 : Nat} (hn : n0 < cm) (hp : ¬ ar 2 n0 = 0) (px py : Int32) : mMi D A l yX8_isShown wsX8_isShown ({ frames := 45, cells := 0, slots := 0, locals := 2800 } : Room) [.ref o, .int (nI n0), .int px, .int py] M (fun r M' => M' = M ∧ r = bI (q_shown ar n0 px py)) 0 0 := by
  have hcm := hw.1
  obtain ⟨l2, hch, hCH, hl39, hmem, hnd⟩ := wf_at hw hn hp
  refine m_start (cc := cX8_isShown) (maxL := 5) (ret := (some .boolean)) (by decide) rfl (Nat.le_of_ble_eq_true rfl) ?_
  intro p e s m args below meth c C
  have i8 : ∀ w ∈ wsX80, w ∈ wsX8_isShown := by decide +kernel
  refine m_sub (L' := [(0, .ref o), (1, .int (nI n0)), (2, .int px), (3, .int py)]) [0, 1, 2, 3] rfl ?_
  refine m_aload_n C dX8_isShown_0 rfl 0 rfl ?_
  refine m_iload_n C dX8_isShown_1 rfl 1 rfl ?_
  refine m_callVFi (As := [.int (nI n0)]) (st := []) C hR.1 rfl (c_X8_isGroup D A l hR (j := n0) (by omega)) (cwV 1 C.1.2.2.2.2 gX8_isShown_X8_isGroup rfl rfl rfl (by decide +kernel) ⟨Nat.le_of_ble_eq_true rfl, Nat.le_of_ble_eq_true rfl⟩) rfl rfl (Nat.le_of_ble_eq_true rfl) dX8_isShown_2 ⟨Nat.le_of_ble_eq_true rfl, Nat.le_of_ble_eq_true rfl⟩ ?_
  refine m_if_ne (tgt := 18) C dX8_isShown_5 (by decide) (fun h_1 => ?_) (fun h_1 => ?_)
  · have h_1 := bI_n h_1
    have h_1 := of_decide_eq_true h_1
    refine m_iconst (v := 0) C dX8_isShown_18 (by decide) ?_
    exact m_zret C (Nat.le_of_ble_eq_true rfl) (Nat.le_of_ble_eq_true rfl) dX8_isShown_19 (Or.inl rfl) (⟨rfl, by simp [q_shown, q_sS, bI, Int32.not_lt, Int32.not_le, h_1]⟩)
  · have h_1 := bI_z h_1
    have h_1 := of_decide_eq_false h_1
    refine m_aload_n C dX8_isShown_8 rfl 0 rfl ?_
    refine m_iload_n C dX8_isShown_9 rfl 1 rfl ?_
    refine m_iload_n C dX8_isShown_10 rfl 2 rfl ?_
    refine m_iload_n C dX8_isShown_11 rfl 3 rfl ?_
    refine m_callVFi (As := [.int (nI n0), .int px, .int py]) (st := []) C hR.1 rfl (c_X8_isInShape D A l hR hw hn hp px py) (cwV 3 C.1.2.2.2.2 gX8_isShown_X8_isInShape rfl rfl rfl (by decide +kernel) ⟨Nat.le_of_ble_eq_true rfl, Nat.le_of_ble_eq_true rfl⟩) rfl rfl (Nat.le_of_ble_eq_true rfl) dX8_isShown_12 ⟨Nat.le_of_ble_eq_true rfl, Nat.le_of_ble_eq_true rfl⟩ ?_
    refine m_if_ne (tgt := 20) C dX8_isShown_15 (by decide) (fun h_2 => ?_) (fun h_2 => ?_)
    · have h_2 := bI_n h_2
      refine m_iload_n C dX8_isShown_20 rfl 1 rfl ?_
      refine m_istore (L' := [(4, .int (nI n0)), (0, .ref o), (1, .int (nI n0)), (2, .int px), (3, .int py)]) C dX8_isShown_21 (by decide) rfl ?_
      refine m_sub (L' := [(4, .int (nI n0)), (0, .ref o), (1, .int (nI n0)), (2, .int px), (3, .int py)]) [0, 1, 2, 3, 4] rfl ?_
      have hcha : ∀ a l3, chn ar n0 = a :: l3 → a < cm ∧ ¬ ar 2 a = 0 ∧ chn ar a = a :: l3 ∧ (¬ a = n0 → 0 < mny ar a) := by
        intro a l3 hal
        rw [hch] at hal
        cases hal
        exact ⟨hn, hp, hch, fun y => absurd rfl y⟩
      rw [hch] at hcha
      have hsh : q_shown ar n0 px py = (n0 :: l2).all (q_okA ar n0 px py) := by
        rw [q_shown, hch]
        simp [q_sS, h_1, h_2]
      refine lp_X8_isShown (B := (n0 :: l2).all (q_okA ar n0 px py)) hR hw hcm hn C i8 (fun x4 hB => ?_) (fun x4 hB => ?_) (fun x4 hB => ?_) (fun x4 hB => ?_) _ (n0 :: l2) rfl hCH rfl hcha
      · refine m_iconst (v := 1) C dX8_isShown_147 (by decide) ?_
        exact m_zret C (Nat.le_of_ble_eq_true rfl) (Nat.le_of_ble_eq_true rfl) dX8_isShown_148 (Or.inr rfl) (⟨rfl, by rw [hsh, ← hB]; rfl⟩)
      · exact m_zret C (Nat.le_of_ble_eq_true rfl) (Nat.le_of_ble_eq_true rfl) dX8_isShown_49 (Or.inl rfl) (⟨rfl, by rw [hsh, ← hB]; rfl⟩)
      · exact m_zret C (Nat.le_of_ble_eq_true rfl) (Nat.le_of_ble_eq_true rfl) dX8_isShown_97 (Or.inl rfl) (⟨rfl, by rw [hsh, ← hB]; rfl⟩)
      · exact m_zret C (Nat.le_of_ble_eq_true rfl) (Nat.le_of_ble_eq_true rfl) dX8_isShown_134 (Or.inl rfl) (⟨rfl, by rw [hsh, ← hB]; rfl⟩)
    · have h_2 := bI_z h_2
      refine m_iconst (v := 0) C dX8_isShown_18 (by decide) ?_
      exact m_zret C (Nat.le_of_ble_eq_true rfl) (Nat.le_of_ble_eq_true rfl) dX8_isShown_19 (Or.inl rfl) (⟨rfl, by simp [q_shown, q_sS, bI, Int32.not_lt, Int32.not_le, h_1, h_2]⟩)
