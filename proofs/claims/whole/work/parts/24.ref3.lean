/-! ===== the reference: ways up and down ===== -/
set_option maxHeartbeats 4000000 in
set_option maxRecDepth 100000 in
theorem lp_X8_isWithin {p : Program} {l : Launch} {e : Env} {s : State} {m : MethodId} {args : Array Value} {below : List Frame} {meth : Method} {c : Code} {Q : State → Prop} {D : mD} {A : Nat → Prop} {G : Nat → Nat} {o : Nat} {F : Mm} {t g u : Int32} {cm : Nat} {ar : rA} {od : Nat → Int32} {M : Mm} (hR : rW D G o F t (nI cm) g u (upA ar 17 od) M) {n0 : Int32} {b9 : Nat} {B : Bool} (hb9 : b9 < 40) (C : mC p m meth c cX8_isWithin 4 s args wsX8_isWithin yX8_isWithin.cls D A yX8_isWithin (some .boolean)) (i8 : ∀ w ∈ wsX80, w ∈ wsX8_isWithin) (kx : ∀ v : Int32, v = (if B = true then nI b9 else -1) → mV p l e ({ frames := 0, cells := 0, slots := 0, locals := 0 } : Room) s m args below meth c 4 D A Q M 0 0 [(3, .int v), (0, .ref o), (1, .int n0), (2, .int (nI b9))] [] 22) : ∀ (N : Nat) (l1 : List Nat), l1.length = N → CH ar l1 → decide (b9 ∈ l1) = B → mV p l e ({ frames := 0, cells := 0, slots := 0, locals := 0 } : Room) s m args below meth c 4 D A Q M 0 0 [(3, .int (q_at l1)), (0, .ref o), (1, .int n0), (2, .int (nI b9))] [] 2 := by
  intro N
  induction N using Nat.strongRecOn with
  | _ N ih =>
    intro l1 hN hl1 hB
    rcases l1 with _ | ⟨a, l2⟩
    · show mV p l e ({ frames := 0, cells := 0, slots := 0, locals := 0 } : Room) s m args below meth c 4 D A Q M 0 0 [(3, .int ((-1))), (0, .ref o), (1, .int n0), (2, .int (nI b9))] [] 2
      refine m_iload_n C dX8_isWithin_2 rfl 0 rfl ?_
      refine m_iconst (v := (-1)) C dX8_isWithin_3 (by decide) ?_
      refine m_icmp_eq (tgt := 22) C dX8_isWithin_4 (by decide) (fun h_1 => ?_) (fun h_1 => ?_)
      · exact kx _ (by rw [← hB]; simp)
      · exact absurd rfl h_1
    · show mV p l e ({ frames := 0, cells := 0, slots := 0, locals := 0 } : Room) s m args below meth c 4 D A Q M 0 0 [(3, .int (nI a)), (0, .ref o), (1, .int n0), (2, .int (nI b9))] [] 2
      obtain ⟨ha40, ha0, hpa, hl2⟩ := hl1
      refine m_iload_n C dX8_isWithin_2 rfl 0 rfl ?_
      refine m_iconst (v := (-1)) C dX8_isWithin_3 (by decide) ?_
      refine m_icmp_eq (tgt := 22) C dX8_isWithin_4 (by decide) (fun h_2 => ?_) (fun h_2 => ?_)
      · exact absurd h_2 (nI_nm1 (by omega))
      · refine m_iload_n C dX8_isWithin_7 rfl 0 rfl ?_
        refine m_iload_n C dX8_isWithin_8 rfl 3 rfl ?_
        refine m_icmp_eq (tgt := 22) C dX8_isWithin_9 (by decide) (fun h_3 => ?_) (fun h_3 => ?_)
        · have hab : a = b9 := (nI_eq (by omega) (by omega)).mp h_3
          exact kx _ (by rw [← hB, hab]; simp)
        · have hab : ¬ b9 = a := fun z => h_3 (by rw [z])
          refine m_aload_n C dX8_isWithin_12 rfl 1 rfl ?_
          refine r_get C hR i8 4 (by decide) (by decide +kernel) rfl rfl dX8_isWithin_13 ?_
          refine m_iload_n C dX8_isWithin_16 rfl 0 rfl ?_
          refine r_iald C hR 4 (by decide) rfl a (show a < 40 by omega) (rfl) dX8_isWithin_17 ?_
          refine m_i (y := ar 4 a) (rfl) ?_
          refine m_i (y := q_at l2) (hpa) ?_
          refine m_istore_n (L' := [(3, .int (q_at l2)), (0, .ref o), (1, .int n0), (2, .int (nI b9))]) C dX8_isWithin_18 rfl (by decide) rfl ?_
          refine m_goto (tgt := 2) C dX8_isWithin_19 (by decide) ?_
          refine m_sub (L' := [(3, .int (q_at l2)), (0, .ref o), (1, .int n0), (2, .int (nI b9))]) [0, 1, 2, 3] rfl ?_
          exact ih _ (by simp at hN; omega) l2 rfl hl2 (by rw [← hB]; simp [hab])
set_option maxHeartbeats 4000000 in
set_option maxRecDepth 100000 in
theorem c_X8_isWithin (D : mD) (A : Nat → Prop) (l : Launch) {G : Nat → Nat} {o : Nat} {F : Mm} {t g u : Int32} {cm : Nat} {ar : rA} {od : Nat → Int32} {M : Mm} (hR : rW D G o F t (nI cm) g u (upA ar 17 od) M) {l0 : List Nat} (hl : CH ar l0) {b9 : Nat} (hb9 : b9 < 40) : mMi D A l yX8_isWithin wsX8_isWithin ({ frames := 0, cells := 0, slots := 0, locals := 0 } : Room) [.ref o, .int (q_at l0), .int (nI b9)] M (fun r M' => M' = M ∧ r = bI (decide (b9 ∈ l0))) 0 0 := by
  refine m_start (cc := cX8_isWithin) (maxL := 4) (ret := (some .boolean)) (by decide) rfl (Nat.le_of_ble_eq_true rfl) ?_
  intro p e s m args below meth c C
  have i8 : ∀ w ∈ wsX80, w ∈ wsX8_isWithin := by decide +kernel
  refine m_sub (L' := [(0, .ref o), (1, .int (q_at l0)), (2, .int (nI b9))]) [0, 1, 2] rfl ?_
  refine m_iload_n C dX8_isWithin_0 rfl 1 rfl ?_
  refine m_istore_n (L' := [(3, .int (q_at l0)), (0, .ref o), (1, .int (q_at l0)), (2, .int (nI b9))]) C dX8_isWithin_1 rfl (by decide) rfl ?_
  refine m_sub (L' := [(3, .int (q_at l0)), (0, .ref o), (1, .int (q_at l0)), (2, .int (nI b9))]) [0, 1, 2, 3] rfl ?_
  refine lp_X8_isWithin (B := decide (b9 ∈ l0)) hR hb9 C i8 (fun v hv => ?_) _ l0 rfl hl rfl
  refine m_iload_n C dX8_isWithin_22 rfl 0 rfl ?_
  refine m_iload_n C dX8_isWithin_23 rfl 3 rfl ?_
  refine m_icmp_ne (tgt := 31) C dX8_isWithin_24 (by decide) (fun h_1 => ?_) (fun h_1 => ?_)
  · have hB : b9 ∉ l0 := by
      intro z
      rw [if_pos (by simpa using z)] at hv
      exact h_1 hv
    refine m_iconst (v := 0) C dX8_isWithin_31 (by decide) ?_
    exact m_zret C (Nat.le_of_ble_eq_true rfl) (Nat.le_of_ble_eq_true rfl) dX8_isWithin_32 (Or.inl rfl) (⟨rfl, by simp [hB, bI]⟩)
  · have hB : b9 ∈ l0 := by
      rcases Decidable.em (b9 ∈ l0) with z | z
      · exact z
      · rw [if_neg (by simpa using z)] at hv
        exact absurd (h_1.symm.trans hv) (nI_nm1 (by omega))
    refine m_iconst (v := 1) C dX8_isWithin_27 (by decide) ?_
    refine m_goto (tgt := 32) C dX8_isWithin_28 (by decide) ?_
    exact m_zret C (Nat.le_of_ble_eq_true rfl) (Nat.le_of_ble_eq_true rfl) dX8_isWithin_32 (Or.inr rfl) (⟨rfl, by simp [hB, bI]⟩)
set_option maxHeartbeats 4000000 in
set_option maxRecDepth 100000 in
theorem lp_X8_fillOf {p : Program} {l : Launch} {e : Env} {s : State} {m : MethodId} {args : Array Value} {below : List Frame} {meth : Method} {c : Code} {Q : State → Prop} {D : mD} {A : Nat → Prop} {G : Nat → Nat} {o : Nat} {F : Mm} {t g u : Int32} {cm : Nat} {ar : rA} {od : Nat → Int32} {M : Mm} (hR : rW D G o F t (nI cm) g u (upA ar 17 od) M) {n0 v : Int32} (C : mC p m meth c cX8_fillOf 3 s args wsX8_fillOf yX8_fillOf.cls D A yX8_fillOf (some .int)) (i8 : ∀ w ∈ wsX80, w ∈ wsX8_fillOf) (kx34 : 255 = v → mV p l e ({ frames := 0, cells := 0, slots := 0, locals := 0 } : Room) s m args below meth c 3 D A Q M 0 0 [(2, .int ((-1))), (0, .ref o), (1, .int n0)] [] 34) (kx23 : ∀ {x : Int32} (r : Int32), r = v → mV p l e ({ frames := 0, cells := 0, slots := 0, locals := 0 } : Room) s m args below meth c 3 D A Q M 0 0 [(2, .int x), (0, .ref o), (1, .int n0)] [.int r] 23) : ∀ (N : Nat) (l1 : List Nat), l1.length = N → CH ar l1 → q_fill ar l1 = v → mV p l e ({ frames := 0, cells := 0, slots := 0, locals := 0 } : Room) s m args below meth c 3 D A Q M 0 0 [(2, .int (q_at l1)), (0, .ref o), (1, .int n0)] [] 2 := by
  intro N
  induction N using Nat.strongRecOn with
  | _ N ih =>
    intro l1 hN hl1 hB
    rcases l1 with _ | ⟨a, l2⟩
    · show mV p l e ({ frames := 0, cells := 0, slots := 0, locals := 0 } : Room) s m args below meth c 3 D A Q M 0 0 [(2, .int ((-1))), (0, .ref o), (1, .int n0)] [] 2
      refine m_iload_n C dX8_fillOf_2 rfl 0 rfl ?_
      refine m_iconst (v := (-1)) C dX8_fillOf_3 (by decide) ?_
      refine m_icmp_eq (tgt := 34) C dX8_fillOf_4 (by decide) (fun h_1 => ?_) (fun h_1 => ?_)
      · exact kx34 (by rw [← hB]; rfl)
      · exact absurd rfl h_1
    · show mV p l e ({ frames := 0, cells := 0, slots := 0, locals := 0 } : Room) s m args below meth c 3 D A Q M 0 0 [(2, .int (nI a)), (0, .ref o), (1, .int n0)] [] 2
      obtain ⟨ha40, ha0, hpa, hl2⟩ := hl1
      refine m_iload_n C dX8_fillOf_2 rfl 0 rfl ?_
      refine m_iconst (v := (-1)) C dX8_fillOf_3 (by decide) ?_
      refine m_icmp_eq (tgt := 34) C dX8_fillOf_4 (by decide) (fun h_2 => ?_) (fun h_2 => ?_)
      · exact absurd h_2 (nI_nm1 (by omega))
      · refine m_aload_n C dX8_fillOf_7 rfl 1 rfl ?_
        refine r_get C hR i8 10 (by decide) (by decide +kernel) rfl rfl dX8_fillOf_8 ?_
        refine m_iload_n C dX8_fillOf_11 rfl 0 rfl ?_
        refine r_iald C hR 10 (by decide) rfl a (show a < 40 by omega) (rfl) dX8_fillOf_12 ?_
        refine m_i (y := ar 10 a) (rfl) ?_
        refine m_iconst (v := (-1)) C dX8_fillOf_13 (by decide) ?_
        refine m_icmp_eq (tgt := 24) C dX8_fillOf_14 (by decide) (fun h_3 => ?_) (fun h_3 => ?_)
        · refine m_aload_n C dX8_fillOf_24 rfl 1 rfl ?_
          refine r_get C hR i8 4 (by decide) (by decide +kernel) rfl rfl dX8_fillOf_25 ?_
          refine m_iload_n C dX8_fillOf_28 rfl 0 rfl ?_
          refine r_iald C hR 4 (by decide) rfl a (show a < 40 by omega) (rfl) dX8_fillOf_29 ?_
          refine m_i (y := ar 4 a) (rfl) ?_
          refine m_i (y := q_at l2) (hpa) ?_
          refine m_istore_n (L' := [(2, .int (q_at l2)), (0, .ref o), (1, .int n0)]) C dX8_fillOf_30 rfl (by decide) rfl ?_
          refine m_goto (tgt := 2) C dX8_fillOf_31 (by decide) ?_
          refine m_sub (L' := [(2, .int (q_at l2)), (0, .ref o), (1, .int n0)]) [0, 1, 2] rfl ?_
          exact ih _ (by simp at hN; omega) l2 rfl hl2 (by rw [← hB, q_fill, if_pos h_3])
        · refine m_aload_n C dX8_fillOf_17 rfl 1 rfl ?_
          refine r_get C hR i8 10 (by decide) (by decide +kernel) rfl rfl dX8_fillOf_18 ?_
          refine m_iload_n C dX8_fillOf_21 rfl 0 rfl ?_
          refine r_iald C hR 10 (by decide) rfl a (show a < 40 by omega) (rfl) dX8_fillOf_22 ?_
          refine m_i (y := ar 10 a) (rfl) ?_
          exact kx23 _ (by rw [← hB, q_fill, if_neg h_3])
set_option maxHeartbeats 4000000 in
set_option maxRecDepth 100000 in
theorem c_X8_fillOf (D : mD) (A : Nat → Prop) (l : Launch) {G : Nat → Nat} {o : Nat} {F : Mm} {t g u : Int32} {cm : Nat} {ar : rA} {od : Nat → Int32} {M : Mm} (hR : rW D G o F t (nI cm) g u (upA ar 17 od) M) {l0 : List Nat} (hl : CH ar l0) : mMi D A l yX8_fillOf wsX8_fillOf ({ frames := 0, cells := 0, slots := 0, locals := 0 } : Room) [.ref o, .int (q_at l0)] M (fun r M' => M' = M ∧ r = q_fill ar l0) 0 0 := by
  refine m_start (cc := cX8_fillOf) (maxL := 3) (ret := (some .int)) (by decide) rfl (Nat.le_of_ble_eq_true rfl) ?_
  intro p e s m args below meth c C
  have i8 : ∀ w ∈ wsX80, w ∈ wsX8_fillOf := by decide +kernel
  refine m_sub (L' := [(0, .ref o), (1, .int (q_at l0))]) [0, 1] rfl ?_
  refine m_iload_n C dX8_fillOf_0 rfl 1 rfl ?_
  refine m_istore_n (L' := [(2, .int (q_at l0)), (0, .ref o), (1, .int (q_at l0))]) C dX8_fillOf_1 rfl (by decide) rfl ?_
  refine m_sub (L' := [(2, .int (q_at l0)), (0, .ref o), (1, .int (q_at l0))]) [0, 1, 2] rfl ?_
  refine lp_X8_fillOf hR C i8 (fun hv => ?_) (fun {x} r hv => ?_) _ l0 rfl hl rfl
  · refine m_sipush (v := 255) C dX8_fillOf_34 (by decide) ?_
    exact m_iret C (Nat.le_of_ble_eq_true rfl) (Nat.le_of_ble_eq_true rfl) dX8_fillOf_37 (⟨rfl, hv⟩)
  · exact m_iret C (Nat.le_of_ble_eq_true rfl) (Nat.le_of_ble_eq_true rfl) dX8_fillOf_23 (⟨rfl, hv⟩)
set_option maxHeartbeats 4000000 in
set_option maxRecDepth 100000 in
theorem c_X8_strengthD (D : mD) (A : Nat → Prop) (l : Launch) {G : Nat → Nat} {o : Nat} {F : Mm} {t g u : Int32} {cm : Nat} {ar : rA} {od : Nat → Int32} {M : Mm} (hR : rW D G o F t (nI cm) g u (upA ar 17 od) M) : ∀ (d a : Nat) (l2 : List Nat), CH ar (a :: l2) → l2.length ≤ d → mMi D A l yX8_strength wsX8_strength ({ frames := d, cells := 0, slots := 0, locals := 40 * d } : Room) [.ref o, .int (nI a)] M (fun r M' => M' = M ∧ r = q_str ar (a :: l2)) 0 0 := by
  intro d
  induction d with
  | zero =>
    intro a l2 hl hd
    obtain ⟨ha40, ha0, hpa, hl2⟩ := hl
    refine m_start (cc := cX8_strength) (maxL := 3) (ret := (some .int)) (by decide) rfl (Nat.le_of_ble_eq_true rfl) ?_
    intro p e s m args below meth c C
    have i8 : ∀ w ∈ wsX80, w ∈ wsX8_strength := by decide +kernel
    refine m_sub (L' := [(0, .ref o), (1, .int (nI a))]) [0, 1] rfl ?_
    refine m_iload_n C dX8_strength_0 rfl 1 rfl ?_
    refine m_if_ne (tgt := 9) C dX8_strength_1 (by decide) (fun h_1 => ?_) (fun h_1 => ?_)
    · exact absurd (show nI a = 0 by rw [ha0.mp (List.length_eq_zero_iff.mp (by omega))]; rfl) h_1
    · have haz : a = 0 := (nI_eq (by omega) (by decide)).mp (show nI a = nI 0 from h_1)
      have hlz : l2 = [] := ha0.mpr haz
      subst hlz
      refine m_bipush (v := 8) C dX8_strength_4 (by decide) ?_
      refine m_goto (tgt := 19) C dX8_strength_6 (by decide) ?_
      refine m_istore_n (L' := [(2, .int 8), (0, .ref o), (1, .int (nI a))]) C dX8_strength_19 rfl (by decide) rfl ?_
      refine m_iload_n C dX8_strength_20 rfl 0 rfl ?_
      refine m_aload_n C dX8_strength_21 rfl 1 rfl ?_
      refine r_get C hR i8 11 (by decide) (by decide +kernel) rfl rfl dX8_strength_22 ?_
      refine m_iload_n C dX8_strength_25 rfl 2 rfl ?_
      refine r_iald C hR 11 (by decide) rfl a (show a < 40 by omega) (rfl) dX8_strength_26 ?_
      refine m_i (y := ar 11 a) (rfl) ?_
      refine m_imul C dX8_strength_27 ?_
      refine m_bipush (v := 8) C dX8_strength_28 (by decide) ?_
      refine m_idiv C dX8_strength_30 (by decide) ?_
      exact m_iret C (Nat.zero_le _) (Nat.zero_le _) dX8_strength_31 (⟨rfl, rfl⟩)
  | succ d ihd =>
    intro a l2 hl hd
    obtain ⟨ha40, ha0, hpa, hl2⟩ := hl
    refine m_start (cc := cX8_strength) (maxL := 3) (ret := (some .int)) (by decide) rfl (Nat.le_of_ble_eq_true rfl) ?_
    intro p e s m args below meth c C
    have i8 : ∀ w ∈ wsX80, w ∈ wsX8_strength := by decide +kernel
    refine m_sub (L' := [(0, .ref o), (1, .int (nI a))]) [0, 1] rfl ?_
    refine m_iload_n C dX8_strength_0 rfl 1 rfl ?_
    refine m_if_ne (tgt := 9) C dX8_strength_1 (by decide) (fun h_2 => ?_) (fun h_2 => ?_)
    · rcases l2 with _ | ⟨b, l3⟩
      · exact absurd (show nI a = 0 by rw [ha0.mp rfl]; rfl) h_2
      · refine m_aload_n C dX8_strength_9 rfl 0 rfl ?_
        refine m_aload_n C dX8_strength_10 rfl 0 rfl ?_
        refine r_get C hR i8 4 (by decide) (by decide +kernel) rfl rfl dX8_strength_11 ?_
        refine m_iload_n C dX8_strength_14 rfl 1 rfl ?_
        refine r_iald C hR 4 (by decide) rfl a (show a < 40 by omega) (rfl) dX8_strength_15 ?_
        refine m_i (y := ar 4 a) (rfl) ?_
        refine m_i (y := nI b) (hpa) ?_
        refine m_callVFi (As := [.int (nI b)]) (st := []) C hR.1 rfl (ihd b l3 hl2 (by simp at hd; omega)) (cwV 1 C.1.2.2.2.2 gX8_strength_X8_strength rfl rfl rfl (by decide +kernel) ⟨Nat.le_refl _, by show 8 + (3 + 11) + 40 * d ≤ 40 * (d + 1); omega⟩) rfl rfl (Nat.le_of_ble_eq_true rfl) dX8_strength_16 ⟨Nat.zero_le _, Nat.zero_le _⟩ ?_
        refine m_istore_n (L' := [(2, .int (q_str ar (b :: l3))), (0, .ref o), (1, .int (nI a))]) C dX8_strength_19 rfl (by decide) rfl ?_
        refine m_iload_n C dX8_strength_20 rfl 0 rfl ?_
        refine m_aload_n C dX8_strength_21 rfl 1 rfl ?_
        refine r_get C hR i8 11 (by decide) (by decide +kernel) rfl rfl dX8_strength_22 ?_
        refine m_iload_n C dX8_strength_25 rfl 2 rfl ?_
        refine r_iald C hR 11 (by decide) rfl a (show a < 40 by omega) (rfl) dX8_strength_26 ?_
        refine m_i (y := ar 11 a) (rfl) ?_
        refine m_imul C dX8_strength_27 ?_
        refine m_bipush (v := 8) C dX8_strength_28 (by decide) ?_
        refine m_idiv C dX8_strength_30 (by decide) ?_
        exact m_iret C (Nat.zero_le _) (Nat.zero_le _) dX8_strength_31 (⟨rfl, rfl⟩)
    · have haz : a = 0 := (nI_eq (by omega) (by decide)).mp (show nI a = nI 0 from h_2)
      have hlz : l2 = [] := ha0.mpr haz
      subst hlz
      refine m_bipush (v := 8) C dX8_strength_4 (by decide) ?_
      refine m_goto (tgt := 19) C dX8_strength_6 (by decide) ?_
      refine m_istore_n (L' := [(2, .int 8), (0, .ref o), (1, .int (nI a))]) C dX8_strength_19 rfl (by decide) rfl ?_
      refine m_iload_n C dX8_strength_20 rfl 0 rfl ?_
      refine m_aload_n C dX8_strength_21 rfl 1 rfl ?_
      refine r_get C hR i8 11 (by decide) (by decide +kernel) rfl rfl dX8_strength_22 ?_
      refine m_iload_n C dX8_strength_25 rfl 2 rfl ?_
      refine r_iald C hR 11 (by decide) rfl a (show a < 40 by omega) (rfl) dX8_strength_26 ?_
      refine m_i (y := ar 11 a) (rfl) ?_
      refine m_imul C dX8_strength_27 ?_
      refine m_bipush (v := 8) C dX8_strength_28 (by decide) ?_
      refine m_idiv C dX8_strength_30 (by decide) ?_
      exact m_iret C (Nat.zero_le _) (Nat.zero_le _) dX8_strength_31 (⟨rfl, rfl⟩)
set_option maxHeartbeats 4000000 in
set_option maxRecDepth 100000 in
theorem lp_X8_isHiddenAbove {p : Program} {l : Launch} {e : Env} {s : State} {m : MethodId} {args : Array Value} {below : List Frame} {meth : Method} {c : Code} {Q : State → Prop} {D : mD} {A : Nat → Prop} {G : Nat → Nat} {o : Nat} {F : Mm} {t g u : Int32} {cm : Nat} {ar : rA} {od : Nat → Int32} {M : Mm} (hR : rW D G o F t (nI cm) g u (upA ar 17 od) M) {n0 : Int32} {B : Bool} (C : mC p m meth c cX8_isHiddenAbove 4 s args wsX8_isHiddenAbove yX8_isHiddenAbove.cls D A yX8_isHiddenAbove (some .boolean)) (i8 : ∀ w ∈ wsX80, w ∈ wsX8_isHiddenAbove) (kx : mV p l e ({ frames := 0, cells := 0, slots := 0, locals := 0 } : Room) s m args below meth c 4 D A Q M 0 0 [(3, .int ((-1))), (2, .int (bI B)), (0, .ref o), (1, .int n0)] [] 43) : ∀ (N : Nat) (l1 : List Nat) (b9 : Bool), l1.length = N → CH ar l1 → (b9 || q_hid ar l1) = B → mV p l e ({ frames := 0, cells := 0, slots := 0, locals := 0 } : Room) s m args below meth c 4 D A Q M 0 0 [(3, .int (q_at l1)), (2, .int (bI b9)), (0, .ref o), (1, .int n0)] [] 9 := by
  intro N
  induction N using Nat.strongRecOn with
  | _ N ih =>
    intro l1 b9 hN hl1 hB
    rcases l1 with _ | ⟨a, l2⟩
    · show mV p l e ({ frames := 0, cells := 0, slots := 0, locals := 0 } : Room) s m args below meth c 4 D A Q M 0 0 [(3, .int ((-1))), (2, .int (bI b9)), (0, .ref o), (1, .int n0)] [] 9
      refine m_iload_n C dX8_isHiddenAbove_9 rfl 0 rfl ?_
      refine m_iconst (v := (-1)) C dX8_isHiddenAbove_10 (by decide) ?_
      refine m_icmp_eq (tgt := 43) C dX8_isHiddenAbove_11 (by decide) (fun h_1 => ?_) (fun h_1 => ?_)
      · exact (show b9 = B by rw [← hB]; simp [q_hid]) ▸ kx
      · exact absurd rfl h_1
    · show mV p l e ({ frames := 0, cells := 0, slots := 0, locals := 0 } : Room) s m args below meth c 4 D A Q M 0 0 [(3, .int (nI a)), (2, .int (bI b9)), (0, .ref o), (1, .int n0)] [] 9
      obtain ⟨ha40, ha0, hpa, hl2⟩ := hl1
      refine m_iload_n C dX8_isHiddenAbove_9 rfl 0 rfl ?_
      refine m_iconst (v := (-1)) C dX8_isHiddenAbove_10 (by decide) ?_
      refine m_icmp_eq (tgt := 43) C dX8_isHiddenAbove_11 (by decide) (fun h_2 => ?_) (fun h_2 => ?_)
      · exact absurd h_2 (nI_nm1 (by omega))
      · refine m_iload_n C dX8_isHiddenAbove_14 rfl 1 rfl ?_
        refine m_if_ne (tgt := 27) C dX8_isHiddenAbove_15 (by decide) (fun h_3 => ?_) (fun h_3 => ?_)
        · have h_3 := bI_n h_3
          refine m_iconst (v := 1) C dX8_isHiddenAbove_27 (by decide) ?_
          refine m_goto (tgt := 32) C dX8_isHiddenAbove_28 (by decide) ?_
          refine m_istore_n (L' := [(2, .int 1), (3, .int (nI a)), (0, .ref o), (1, .int n0)]) C dX8_isHiddenAbove_32 rfl (by decide) rfl ?_
          refine m_aload_n C dX8_isHiddenAbove_33 rfl 2 rfl ?_
          refine r_get C hR i8 4 (by decide) (by decide +kernel) rfl rfl dX8_isHiddenAbove_34 ?_
          refine m_iload_n C dX8_isHiddenAbove_37 rfl 1 rfl ?_
          refine r_iald C hR 4 (by decide) rfl a (show a < 40 by omega) (rfl) dX8_isHiddenAbove_38 ?_
          refine m_i (y := ar 4 a) (rfl) ?_
          refine m_i (y := q_at l2) (hpa) ?_
          refine m_istore_n (L' := [(3, .int (q_at l2)), (2, .int 1), (0, .ref o), (1, .int n0)]) C dX8_isHiddenAbove_39 rfl (by decide) rfl ?_
          refine m_goto (tgt := 9) C dX8_isHiddenAbove_40 (by decide) ?_
          refine m_sub (L' := [(3, .int (q_at l2)), (2, .int 1), (0, .ref o), (1, .int n0)]) [0, 1, 2, 3] rfl ?_
          exact ih _ (by simp at hN; omega) l2 true rfl hl2 (by rw [← hB]; simp [q_hid, h_3])
        · have h_3 := bI_z h_3
          refine m_aload_n C dX8_isHiddenAbove_18 rfl 2 rfl ?_
          refine r_get C hR i8 12 (by decide) (by decide +kernel) rfl rfl dX8_isHiddenAbove_19 ?_
          refine m_iload_n C dX8_isHiddenAbove_22 rfl 0 rfl ?_
          refine r_zald C hR 12 (by decide) rfl a (show a < 40 by omega) (rfl) dX8_isHiddenAbove_23 ?_
          refine m_i (y := ar 12 a) (rfl) ?_
          refine m_if_eq (tgt := 31) C dX8_isHiddenAbove_24 (by decide) (fun h_4 => ?_) (fun h_4 => ?_)
          · refine m_iconst (v := 0) C dX8_isHiddenAbove_31 (by decide) ?_
            refine m_istore_n (L' := [(2, .int 0), (3, .int (nI a)), (0, .ref o), (1, .int n0)]) C dX8_isHiddenAbove_32 rfl (by decide) rfl ?_
            refine m_aload_n C dX8_isHiddenAbove_33 rfl 2 rfl ?_
            refine r_get C hR i8 4 (by decide) (by decide +kernel) rfl rfl dX8_isHiddenAbove_34 ?_
            refine m_iload_n C dX8_isHiddenAbove_37 rfl 1 rfl ?_
            refine r_iald C hR 4 (by decide) rfl a (show a < 40 by omega) (rfl) dX8_isHiddenAbove_38 ?_
            refine m_i (y := ar 4 a) (rfl) ?_
            refine m_i (y := q_at l2) (hpa) ?_
            refine m_istore_n (L' := [(3, .int (q_at l2)), (2, .int 0), (0, .ref o), (1, .int n0)]) C dX8_isHiddenAbove_39 rfl (by decide) rfl ?_
            refine m_goto (tgt := 9) C dX8_isHiddenAbove_40 (by decide) ?_
            refine m_sub (L' := [(3, .int (q_at l2)), (2, .int 0), (0, .ref o), (1, .int n0)]) [0, 1, 2, 3] rfl ?_
            exact ih _ (by simp at hN; omega) l2 false rfl hl2 (by rw [← hB]; simp [q_hid, h_3, h_4])
          · refine m_iconst (v := 1) C dX8_isHiddenAbove_27 (by decide) ?_
            refine m_goto (tgt := 32) C dX8_isHiddenAbove_28 (by decide) ?_
            refine m_istore_n (L' := [(2, .int 1), (3, .int (nI a)), (0, .ref o), (1, .int n0)]) C dX8_isHiddenAbove_32 rfl (by decide) rfl ?_
            refine m_aload_n C dX8_isHiddenAbove_33 rfl 2 rfl ?_
            refine r_get C hR i8 4 (by decide) (by decide +kernel) rfl rfl dX8_isHiddenAbove_34 ?_
            refine m_iload_n C dX8_isHiddenAbove_37 rfl 1 rfl ?_
            refine r_iald C hR 4 (by decide) rfl a (show a < 40 by omega) (rfl) dX8_isHiddenAbove_38 ?_
            refine m_i (y := ar 4 a) (rfl) ?_
            refine m_i (y := q_at l2) (hpa) ?_
            refine m_istore_n (L' := [(3, .int (q_at l2)), (2, .int 1), (0, .ref o), (1, .int n0)]) C dX8_isHiddenAbove_39 rfl (by decide) rfl ?_
            refine m_goto (tgt := 9) C dX8_isHiddenAbove_40 (by decide) ?_
            refine m_sub (L' := [(3, .int (q_at l2)), (2, .int 1), (0, .ref o), (1, .int n0)]) [0, 1, 2, 3] rfl ?_
            exact ih _ (by simp at hN; omega) l2 true rfl hl2 (by rw [← hB]; simp [q_hid, h_3, h_4])
set_option maxHeartbeats 4000000 in
set_option maxRecDepth 100000 in
theorem c_X8_isHiddenAbove (D : mD) (A : Nat → Prop) (l : Launch) {G : Nat → Nat} {o : Nat} {F : Mm} {t g u : Int32} {cm : Nat} {ar : rA} {od : Nat → Int32} {M : Mm} (hR : rW D G o F t (nI cm) g u (upA ar 17 od) M) {a : Nat} {l2 : List Nat} (hl : CH ar (a :: l2)) : mMi D A l yX8_isHiddenAbove wsX8_isHiddenAbove ({ frames := 0, cells := 0, slots := 0, locals := 0 } : Room) [.ref o, .int (nI a)] M (fun r M' => M' = M ∧ r = bI (q_hid ar l2)) 0 0 := by
  refine m_start (cc := cX8_isHiddenAbove) (maxL := 4) (ret := (some .boolean)) (by decide) rfl (Nat.le_of_ble_eq_true rfl) ?_
  intro p e s m args below meth c C
  have i8 : ∀ w ∈ wsX80, w ∈ wsX8_isHiddenAbove := by decide +kernel
  refine m_sub (L' := [(0, .ref o), (1, .int (nI a))]) [0, 1] rfl ?_
  obtain ⟨ha40, ha0, hpa, hl2⟩ := hl
  refine m_iconst (v := 0) C dX8_isHiddenAbove_0 (by decide) ?_
  refine m_istore_n (L' := [(2, .int 0), (0, .ref o), (1, .int (nI a))]) C dX8_isHiddenAbove_1 rfl (by decide) rfl ?_
  refine m_aload_n C dX8_isHiddenAbove_2 rfl 1 rfl ?_
  refine r_get C hR i8 4 (by decide) (by decide +kernel) rfl rfl dX8_isHiddenAbove_3 ?_
  refine m_iload_n C dX8_isHiddenAbove_6 rfl 2 rfl ?_
  refine r_iald C hR 4 (by decide) rfl a (show a < 40 by omega) (rfl) dX8_isHiddenAbove_7 ?_
  refine m_i (y := ar 4 a) (rfl) ?_
  refine m_i (y := q_at l2) (hpa) ?_
  refine m_istore_n (L' := [(3, .int (q_at l2)), (2, .int 0), (0, .ref o), (1, .int (nI a))]) C dX8_isHiddenAbove_8 rfl (by decide) rfl ?_
  refine m_sub (L' := [(3, .int (q_at l2)), (2, .int 0), (0, .ref o), (1, .int (nI a))]) [0, 1, 2, 3] rfl ?_
  refine lp_X8_isHiddenAbove (B := q_hid ar l2) hR C i8 ?_ _ l2 false rfl hl2 (Bool.false_or _)
  refine m_iload_n C dX8_isHiddenAbove_43 rfl 1 rfl ?_
  exact m_zret C (Nat.le_of_ble_eq_true rfl) (Nat.le_of_ble_eq_true rfl) dX8_isHiddenAbove_44 (bI_01 _) (⟨rfl, rfl⟩)
set_option maxHeartbeats 4000000 in
set_option maxRecDepth 100000 in
theorem lp_X8_offset {p : Program} {l : Launch} {e : Env} {s : State} {m : MethodId} {args : Array Value} {below : List Frame} {meth : Method} {c : Code} {Q : State → Prop} {D : mD} {A : Nat → Prop} {G : Nat → Nat} {o : Nat} {F : Mm} {t g u : Int32} {cm : Nat} {ar : rA} {od : Nat → Int32} {M : Mm} (hR : rW D G o F t (nI cm) g u (upA ar 17 od) M) {n0 V : Int32} {fy : Bool} (C : mC p m meth c cX8_offset 5 s args wsX8_offset yX8_offset.cls D A yX8_offset (some .int)) (i8 : ∀ w ∈ wsX80, w ∈ wsX8_offset) (kx : mV p l e ({ frames := 0, cells := 0, slots := 0, locals := 0 } : Room) s m args below meth c 5 D A Q M 0 0 [(4, .int ((-1))), (3, .int V), (0, .ref o), (1, .int n0), (2, .int (bI fy))] [] 47) : ∀ (N : Nat) (l1 : List Nat) (acc : Int32), l1.length = N → CH ar l1 → q_off ar (if fy = true then 9 else 8) l1 acc = V → mV p l e ({ frames := 0, cells := 0, slots := 0, locals := 0 } : Room) s m args below meth c 5 D A Q M 0 0 [(4, .int (q_at l1)), (3, .int acc), (0, .ref o), (1, .int n0), (2, .int (bI fy))] [] 5 := by
  intro N
  induction N using Nat.strongRecOn with
  | _ N ih =>
    intro l1 acc hN hl1 hB
    rcases l1 with _ | ⟨a, l2⟩
    · show mV p l e ({ frames := 0, cells := 0, slots := 0, locals := 0 } : Room) s m args below meth c 5 D A Q M 0 0 [(4, .int ((-1))), (3, .int acc), (0, .ref o), (1, .int n0), (2, .int (bI fy))] [] 5
      refine m_iload C dX8_offset_5 0 rfl ?_
      refine m_iconst (v := (-1)) C dX8_offset_7 (by decide) ?_
      refine m_icmp_eq (tgt := 47) C dX8_offset_8 (by decide) (fun h_1 => ?_) (fun h_1 => ?_)
      · exact (show acc = V by rw [← hB]; rfl) ▸ kx
      · exact absurd rfl h_1
    · show mV p l e ({ frames := 0, cells := 0, slots := 0, locals := 0 } : Room) s m args below meth c 5 D A Q M 0 0 [(4, .int (nI a)), (3, .int acc), (0, .ref o), (1, .int n0), (2, .int (bI fy))] [] 5
      obtain ⟨ha40, ha0, hpa, hl2⟩ := hl1
      refine m_iload C dX8_offset_5 0 rfl ?_
      refine m_iconst (v := (-1)) C dX8_offset_7 (by decide) ?_
      refine m_icmp_eq (tgt := 47) C dX8_offset_8 (by decide) (fun h_2 => ?_) (fun h_2 => ?_)
      · exact absurd h_2 (nI_nm1 (by omega))
      · refine m_iload_n C dX8_offset_11 rfl 1 rfl ?_
        refine m_iload_n C dX8_offset_12 rfl 4 rfl ?_
        refine m_if_eq (tgt := 26) C dX8_offset_13 (by decide) (fun h_3 => ?_) (fun h_3 => ?_)
        · have h_3 := bI_z h_3
          refine m_aload_n C dX8_offset_26 rfl 2 rfl ?_
          refine r_get C hR i8 8 (by decide) (by decide +kernel) rfl rfl dX8_offset_27 ?_
          refine m_iload C dX8_offset_30 0 rfl ?_
          refine r_iald C hR 8 (by decide) rfl a (show a < 40 by omega) (rfl) dX8_offset_32 ?_
          refine m_i (y := ar 8 a) (rfl) ?_
          refine m_iadd C dX8_offset_33 ?_
          refine m_istore_n (L' := [(3, .int (acc + (ar 8 a))), (4, .int (nI a)), (0, .ref o), (1, .int n0), (2, .int (bI fy))]) C dX8_offset_34 rfl (by decide) rfl ?_
          refine m_aload_n C dX8_offset_35 rfl 2 rfl ?_
          refine r_get C hR i8 4 (by decide) (by decide +kernel) rfl rfl dX8_offset_36 ?_
          refine m_iload C dX8_offset_39 1 rfl ?_
          refine r_iald C hR 4 (by decide) rfl a (show a < 40 by omega) (rfl) dX8_offset_41 ?_
          refine m_i (y := ar 4 a) (rfl) ?_
          refine m_i (y := q_at l2) (hpa) ?_
          refine m_istore (L' := [(4, .int (q_at l2)), (3, .int (acc + (ar 8 a))), (0, .ref o), (1, .int n0), (2, .int (bI fy))]) C dX8_offset_42 (by decide) rfl ?_
          refine m_goto (tgt := 5) C dX8_offset_44 (by decide) ?_
          refine m_sub (L' := [(4, .int (q_at l2)), (3, .int (acc + (ar 8 a))), (0, .ref o), (1, .int n0), (2, .int (bI fy))]) [0, 1, 2, 3, 4] rfl ?_
          exact ih _ (by simp at hN; omega) l2 _ rfl hl2 (by rw [← hB]; simp [q_off, h_3])
        · have h_3 := bI_n h_3
          refine m_aload_n C dX8_offset_16 rfl 2 rfl ?_
          refine r_get C hR i8 9 (by decide) (by decide +kernel) rfl rfl dX8_offset_17 ?_
          refine m_iload C dX8_offset_20 0 rfl ?_
          refine r_iald C hR 9 (by decide) rfl a (show a < 40 by omega) (rfl) dX8_offset_22 ?_
          refine m_i (y := ar 9 a) (rfl) ?_
          refine m_goto (tgt := 33) C dX8_offset_23 (by decide) ?_
          refine m_iadd C dX8_offset_33 ?_
          refine m_istore_n (L' := [(3, .int (acc + (ar 9 a))), (4, .int (nI a)), (0, .ref o), (1, .int n0), (2, .int (bI fy))]) C dX8_offset_34 rfl (by decide) rfl ?_
          refine m_aload_n C dX8_offset_35 rfl 2 rfl ?_
          refine r_get C hR i8 4 (by decide) (by decide +kernel) rfl rfl dX8_offset_36 ?_
          refine m_iload C dX8_offset_39 1 rfl ?_
          refine r_iald C hR 4 (by decide) rfl a (show a < 40 by omega) (rfl) dX8_offset_41 ?_
          refine m_i (y := ar 4 a) (rfl) ?_
          refine m_i (y := q_at l2) (hpa) ?_
          refine m_istore (L' := [(4, .int (q_at l2)), (3, .int (acc + (ar 9 a))), (0, .ref o), (1, .int n0), (2, .int (bI fy))]) C dX8_offset_42 (by decide) rfl ?_
          refine m_goto (tgt := 5) C dX8_offset_44 (by decide) ?_
          refine m_sub (L' := [(4, .int (q_at l2)), (3, .int (acc + (ar 9 a))), (0, .ref o), (1, .int n0), (2, .int (bI fy))]) [0, 1, 2, 3, 4] rfl ?_
          exact ih _ (by simp at hN; omega) l2 _ rfl hl2 (by rw [← hB]; simp [q_off, h_3])
set_option maxHeartbeats 4000000 in
set_option maxRecDepth 100000 in
theorem c_X8_offset (D : mD) (A : Nat → Prop) (l : Launch) {G : Nat → Nat} {o : Nat} {F : Mm} {t g u : Int32} {cm : Nat} {ar : rA} {od : Nat → Int32} {M : Mm} (hR : rW D G o F t (nI cm) g u (upA ar 17 od) M) {l0 : List Nat} (hl : CH ar l0) (fy : Bool) : mMi D A l yX8_offset wsX8_offset ({ frames := 0, cells := 0, slots := 0, locals := 0 } : Room) [.ref o, .int (q_at l0), .int (bI fy)] M (fun r M' => M' = M ∧ r = q_off ar (if fy = true then 9 else 8) l0 0) 0 0 := by
  refine m_start (cc := cX8_offset) (maxL := 5) (ret := (some .int)) (by decide) rfl (Nat.le_of_ble_eq_true rfl) ?_
  intro p e s m args below meth c C
  have i8 : ∀ w ∈ wsX80, w ∈ wsX8_offset := by decide +kernel
  refine m_sub (L' := [(0, .ref o), (1, .int (q_at l0)), (2, .int (bI fy))]) [0, 1, 2] rfl ?_
  refine m_iconst (v := 0) C dX8_offset_0 (by decide) ?_
  refine m_istore_n (L' := [(3, .int 0), (0, .ref o), (1, .int (q_at l0)), (2, .int (bI fy))]) C dX8_offset_1 rfl (by decide) rfl ?_
  refine m_iload_n C dX8_offset_2 rfl 2 rfl ?_
  refine m_istore (L' := [(4, .int (q_at l0)), (3, .int 0), (0, .ref o), (1, .int (q_at l0)), (2, .int (bI fy))]) C dX8_offset_3 (by decide) rfl ?_
  refine m_sub (L' := [(4, .int (q_at l0)), (3, .int 0), (0, .ref o), (1, .int (q_at l0)), (2, .int (bI fy))]) [0, 1, 2, 3, 4] rfl ?_
  refine lp_X8_offset (V := q_off ar (if fy = true then 9 else 8) l0 0) hR C i8 ?_ _ l0 0 rfl hl rfl
  refine m_iload_n C dX8_offset_47 rfl 1 rfl ?_
  exact m_iret C (Nat.le_of_ble_eq_true rfl) (Nat.le_of_ble_eq_true rfl) dX8_offset_48 (⟨rfl, rfl⟩)
set_option maxHeartbeats 4000000 in
set_option maxRecDepth 100000 in
theorem lp_X8_present {p : Program} {l : Launch} {e : Env} {s : State} {m : MethodId} {args : Array Value} {below : List Frame} {meth : Method} {c : Code} {Q : State → Prop} {D : mD} {A : Nat → Prop} {G : Nat → Nat} {o : Nat} {F : Mm} {t g u : Int32} {cm : Nat} {ar : rA} {od : Nat → Int32} {M : Mm} (hR : rW D G o F t (nI cm) g u (upA ar 17 od) M) (hcm : 1 ≤ cm ∧ cm ≤ 40) (C : mC p m meth c cX8_present 3 s args wsX8_present yX8_present.cls D A yX8_present (some .int)) (i8 : ∀ w ∈ wsX80, w ∈ wsX8_present) (kx : mV p l e ({ frames := 0, cells := 0, slots := 0, locals := 0 } : Room) s m args below meth c 3 D A Q M 0 0 [(2, .int (nI cm)), (1, .int (nI (q_cnt ar cm))), (0, .ref o)] [] 35) : ∀ (N : Nat) (k9 : Nat), cm - k9 = N → k9 ≤ cm → mV p l e ({ frames := 0, cells := 0, slots := 0, locals := 0 } : Room) s m args below meth c 3 D A Q M 0 0 [(2, .int (nI k9)), (1, .int (nI (q_cnt ar k9))), (0, .ref o)] [] 4 := by
  intro N
  induction N using Nat.strongRecOn with
  | _ N ih =>
    intro k9 hN hk
    refine m_iload_n C dX8_present_4 rfl 0 rfl ?_
    refine m_aload_n C dX8_present_5 rfl 2 rfl ?_
    refine r_get C hR i8 1 (by decide) (by decide +kernel) rfl rfl dX8_present_6 ?_
    refine m_icmp_ge (tgt := 35) C dX8_present_9 (by decide) (fun h_1 => ?_) (fun h_1 => ?_)
    · have hkc : k9 = cm := by
        have := (nI_leI (by omega) (by omega)).mp h_1
        omega
      subst hkc
      exact kx
    · have hkc : k9 < cm := by
        rcases Nat.lt_or_ge k9 cm with z | z
        · exact z
        · exact absurd (nI_le z (by omega)) h_1
      refine m_iload_n C dX8_present_12 rfl 1 rfl ?_
      refine m_aload_n C dX8_present_13 rfl 2 rfl ?_
      refine r_get C hR i8 2 (by decide) (by decide +kernel) rfl rfl dX8_present_14 ?_
      refine m_iload_n C dX8_present_17 rfl 0 rfl ?_
      refine r_zald C hR 2 (by decide) rfl k9 (show k9 < 40 by omega) (rfl) dX8_present_18 ?_
      refine m_i (y := ar 2 k9) (rfl) ?_
      refine m_if_eq (tgt := 26) C dX8_present_19 (by decide) (fun h_2 => ?_) (fun h_2 => ?_)
      · refine m_iconst (v := 0) C dX8_present_26 (by decide) ?_
        refine m_iadd C dX8_present_27 ?_
        refine m_istore_n (L' := [(1, .int ((nI (q_cnt ar k9)) + 0)), (2, .int (nI k9)), (0, .ref o)]) C dX8_present_28 rfl (by decide) rfl ?_
        obtain ⟨x_3, ex_3⟩ : ∃ z : Int32, z = nI k9 + 1 := ⟨_, rfl⟩
        refine m_iinc (q := 1) (v := x_3) (L' := [(2, .int x_3), (1, .int ((nI (q_cnt ar k9)) + 0)), (0, .ref o)]) C dX8_present_29 rfl (by rw [ex_3]; rfl) (by decide) rfl ?_
        refine m_goto (tgt := 4) C dX8_present_32 (by decide) ?_
        rw [nI_1] at ex_3
        subst ex_3
        refine m_sub (L' := [(2, .int (nI (k9 + 1))), (1, .int ((nI (q_cnt ar k9)) + 0)), (0, .ref o)]) [0, 1, 2] rfl ?_
        rw [show (nI (q_cnt ar k9)) + 0 = nI (q_cnt ar (k9 + 1)) by rw [q_cnt, if_pos h_2]; exact (show nI _ + nI 0 = nI _ by rw [nI_add])]
        exact ih (cm - (k9 + 1)) (by omega) (k9 + 1) rfl (by omega)
      · refine m_iconst (v := 1) C dX8_present_22 (by decide) ?_
        refine m_goto (tgt := 27) C dX8_present_23 (by decide) ?_
        refine m_iadd C dX8_present_27 ?_
        refine m_istore_n (L' := [(1, .int ((nI (q_cnt ar k9)) + 1)), (2, .int (nI k9)), (0, .ref o)]) C dX8_present_28 rfl (by decide) rfl ?_
        obtain ⟨x_4, ex_4⟩ : ∃ z : Int32, z = nI k9 + 1 := ⟨_, rfl⟩
        refine m_iinc (q := 1) (v := x_4) (L' := [(2, .int x_4), (1, .int ((nI (q_cnt ar k9)) + 1)), (0, .ref o)]) C dX8_present_29 rfl (by rw [ex_4]; rfl) (by decide) rfl ?_
        refine m_goto (tgt := 4) C dX8_present_32 (by decide) ?_
        rw [nI_1] at ex_4
        subst ex_4
        refine m_sub (L' := [(2, .int (nI (k9 + 1))), (1, .int ((nI (q_cnt ar k9)) + 1)), (0, .ref o)]) [0, 1, 2] rfl ?_
        rw [show (nI (q_cnt ar k9)) + 1 = nI (q_cnt ar (k9 + 1)) by rw [q_cnt, if_neg h_2, nI_1]]
        exact ih (cm - (k9 + 1)) (by omega) (k9 + 1) rfl (by omega)
set_option maxHeartbeats 4000000 in
set_option maxRecDepth 100000 in
theorem c_X8_present (D : mD) (A : Nat → Prop) (l : Launch) {G : Nat → Nat} {o : Nat} {F : Mm} {t g u : Int32} {cm : Nat} {ar : rA} {od : Nat → Int32} {M : Mm} (hR : rW D G o F t (nI cm) g u (upA ar 17 od) M) (hcm : 1 ≤ cm ∧ cm ≤ 40) : mMi D A l yX8_present wsX8_present ({ frames := 0, cells := 0, slots := 0, locals := 0 } : Room) [.ref o] M (fun r M' => M' = M ∧ r = nI (q_cnt ar cm)) 0 0 := by
  refine m_start (cc := cX8_present) (maxL := 3) (ret := (some .int)) (by decide) rfl (Nat.le_of_ble_eq_true rfl) ?_
  intro p e s m args below meth c C
  have i8 : ∀ w ∈ wsX80, w ∈ wsX8_present := by decide +kernel
  refine m_sub (L' := [(0, .ref o)]) [0] rfl ?_
  refine m_iconst (v := 0) C dX8_present_0 (by decide) ?_
  refine m_istore_n (L' := [(1, .int 0), (0, .ref o)]) C dX8_present_1 rfl (by decide) rfl ?_
  refine m_iconst (v := 0) C dX8_present_2 (by decide) ?_
  refine m_istore_n (L' := [(2, .int 0), (1, .int 0), (0, .ref o)]) C dX8_present_3 rfl (by decide) rfl ?_
  refine m_sub (L' := [(2, .int 0), (1, .int 0), (0, .ref o)]) [0, 1, 2] rfl ?_
  refine lp_X8_present hR hcm C i8 ?_ _ 0 rfl (Nat.zero_le _)
  refine m_iload_n C dX8_present_35 rfl 1 rfl ?_
  exact m_iret C (Nat.le_of_ble_eq_true rfl) (Nat.le_of_ble_eq_true rfl) dX8_present_36 (⟨rfl, rfl⟩)
