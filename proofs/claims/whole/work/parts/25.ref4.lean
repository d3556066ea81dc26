/-! ===== the reference: the walk over a tree, what is told, removing and moving ===== -/
def q_kp (ar : rA) (d n k : Nat) : List Nat := ((List.range k).map (fun k => (ar 6 (40 * n + k)).toNatClampNeg)).flatMap (q_pre ar d)
theorem q_kp_0 (ar : rA) (d n : Nat) : q_kp ar d n 0 = [] := rfl
theorem q_kp_s (ar : rA) (d n k : Nat) : q_kp ar d n (k + 1) = q_kp ar d n k ++ q_pre ar d (ar 6 (40 * n + k)).toNatClampNeg := by
  unfold q_kp
  rw [List.range_succ, List.map_append, List.flatMap_append]
  simp
theorem q_kp_le (ar : rA) (d n k : Nat) : ∀ j, (q_kp ar d n k).length ≤ (q_kp ar d n (k + j)).length
  | 0 => Nat.le_refl _
  | j + 1 => by
    have h := q_kp_le ar d n k j
    rw [← Nat.add_assoc, q_kp_s, List.length_append]
    omega
theorem q_pre_s (ar : rA) (d n : Nat) {m9 : Nat} (hm : ar 5 n = nI m9) (h39 : m9 ≤ 39) : q_pre ar (d + 1) n = n :: q_kp ar d n m9 := by
  rw [q_pre, hm, nI_clamp (by omega)]
  rfl
set_option maxHeartbeats 4000000 in
set_option maxRecDepth 100000 in
theorem lp_X8_walk {p : Program} {l : Launch} {e : Env} {s : State} {m : MethodId} {args : Array Value} {below : List Frame} {meth : Method} {c : Code} {Q : State → Prop} {D : mD} {A : Nat → Prop} {G : Nat → Nat} {o : Nat} {F : Mm} {t g : Int32} {cm : Nat} {ar : rA} {od : Nat → Int32} {d n0 ou m9 : Nat} (hn0 : n0 < 40) (hm : ar 5 n0 = nI m9) (hm39 : m9 ≤ 39) (hkids : ∀ k, k < m9 → ∃ c : Nat, ar 6 (40 * n0 + k) = nI c ∧ c < 40 ∧ TR ar d c) (hlen : ou + (q_pre ar (d + 1) n0).length ≤ 40) (ihd : ∀ (n0 ou : Nat) (od : Nat → Int32) (M : Mm), TR ar d n0 → ou + (q_pre ar d n0).length ≤ 40 → rW D G o F t (nI cm) g (nI ou) (upA ar 17 od) M → mMv D A l yX8_walk wsX8_walk ({ frames := d, cells := 0, slots := 0, locals := 40 * d } : Room) [.ref o, .int (nI n0)] M (fun M' => rW D G o F t (nI cm) g (nI (ou + (q_pre ar d n0).length)) (upA ar 17 (q_wr od ou (q_pre ar d n0))) M') 0 0) (C : mC p m meth c cX8_walk 3 s args wsX8_walk yX8_walk.cls D A yX8_walk none) (i8 : ∀ w ∈ wsX80, w ∈ wsX8_walk) (kx : ∀ M : Mm, rW D G o F t (nI cm) g (nI (ou + (q_pre ar (d + 1) n0).length)) (upA ar 17 (q_wr od ou (q_pre ar (d + 1) n0))) M → mV p l e ({ frames := d + 1, cells := 0, slots := 0, locals := 40 * (d + 1) } : Room) s m args below meth c 3 D A Q M 0 0 [(2, .int (nI m9)), (0, .ref o), (1, .int (nI n0))] [] 53) : ∀ (N : Nat) (k9 : Nat) (M : Mm), m9 - k9 = N → k9 ≤ m9 → rW D G o F t (nI cm) g (nI (ou + (n0 :: q_kp ar d n0 k9).length)) (upA ar 17 (q_wr od ou (n0 :: q_kp ar d n0 k9))) M → mV p l e ({ frames := d + 1, cells := 0, slots := 0, locals := 40 * (d + 1) } : Room) s m args below meth c 3 D A Q M 0 0 [(2, .int (nI k9)), (0, .ref o), (1, .int (nI n0))] [] 22 := by
  intro N
  induction N using Nat.strongRecOn with
  | _ N ih =>
    intro k9 M hN hk hR
    refine m_iload_n C dX8_walk_22 rfl 0 rfl ?_
    refine m_aload_n C dX8_walk_23 rfl 1 rfl ?_
    refine r_get C hR i8 5 (by decide) (by decide +kernel) rfl rfl dX8_walk_24 ?_
    refine m_iload_n C dX8_walk_27 rfl 2 rfl ?_
    refine r_iald C hR 5 (by decide) rfl n0 (show n0 < 40 by omega) (rfl) dX8_walk_28 ?_
    refine m_i (y := ar 5 n0) (rfl) ?_
    refine m_i (y := nI m9) (hm) ?_
    refine m_icmp_ge (tgt := 53) C dX8_walk_29 (by decide) (fun h_1 => ?_) (fun h_1 => ?_)
    · have hkm : k9 = m9 := by
        have := (nI_leI (by omega) (by omega)).mp h_1
        omega
      subst hkm
      refine kx M ?_
      rw [q_pre_s ar d n0 hm hm39]
      exact hR
    · have hkm : k9 < m9 := by
        rcases Nat.lt_or_ge k9 m9 with z | z
        · exact z
        · exact absurd (nI_le z (by omega)) h_1
      obtain ⟨c9, hc9, hc40, htr⟩ := hkids k9 hkm
      have hks : q_kp ar d n0 (k9 + 1) = q_kp ar d n0 k9 ++ q_pre ar d c9 := by rw [q_kp_s, hc9, nI_clamp (by omega)]
      have hle : (q_kp ar d n0 (k9 + 1)).length ≤ (q_kp ar d n0 m9).length := by
        have := q_kp_le ar d n0 (k9 + 1) (m9 - (k9 + 1))
        rwa [show k9 + 1 + (m9 - (k9 + 1)) = m9 by omega] at this
      have hlen2 := hlen
      rw [q_pre_s ar d n0 hm hm39, List.length_cons] at hlen2
      rw [hks, List.length_append] at hle
      refine m_aload_n C dX8_walk_32 rfl 1 rfl ?_
      refine m_aload_n C dX8_walk_33 rfl 1 rfl ?_
      refine r_get C hR i8 6 (by decide) (by decide +kernel) rfl rfl dX8_walk_34 ?_
      refine m_bipush (v := 40) C dX8_walk_37 (by decide) ?_
      refine m_iload_n C dX8_walk_39 rfl 2 rfl ?_
      refine m_imul C dX8_walk_40 ?_
      refine m_iload_n C dX8_walk_41 rfl 0 rfl ?_
      refine m_iadd C dX8_walk_42 ?_
      refine r_iald C hR 6 (by decide) rfl (40 * n0 + k9) (show (40 * n0 + k9) < 1600 by omega) (by rw [show (40 : Int32) = nI 40 from rfl, pk_mul, nI_add]) dX8_walk_43 ?_
      refine m_i (y := ar 6 (40 * n0 + k9)) (rfl) ?_
      refine m_i (y := nI c9) (hc9) ?_
      refine m_callVv (As := [.int (nI c9)]) (st := []) C hR.1 rfl (ihd c9 _ _ M htr (by simp only [List.length_cons]; omega) hR) (cwV 1 C.1.2.2.2.2 gX8_walk_X8_walk rfl rfl rfl (by decide +kernel) ⟨Nat.le_refl _, by show 8 + (3 + 11) + 40 * d ≤ 40 * (d + 1); omega⟩) rfl rfl (Nat.le_of_ble_eq_true rfl) dX8_walk_44 ⟨Nat.zero_le _, Nat.zero_le _⟩ (fun M hR => ?_)
      have hR : rW D G o F t (nI cm) g (nI (ou + (n0 :: q_kp ar d n0 (k9 + 1)).length)) (upA ar 17 (q_wr od ou (n0 :: q_kp ar d n0 (k9 + 1)))) M := by
        have e9 : n0 :: q_kp ar d n0 (k9 + 1) = (n0 :: q_kp ar d n0 k9) ++ q_pre ar d c9 := by rw [hks]; rfl
        rw [e9, ← q_wr_app, List.length_append, ← Nat.add_assoc]
        exact hR
      obtain ⟨x_2, ex_2⟩ : ∃ z : Int32, z = nI k9 + 1 := ⟨_, rfl⟩
      refine m_iinc (q := 0) (v := x_2) (L' := [(2, .int x_2), (0, .ref o), (1, .int (nI n0))]) C dX8_walk_47 rfl (by rw [ex_2]; rfl) (by decide) rfl ?_
      refine m_goto (tgt := 22) C dX8_walk_50 (by decide) ?_
      rw [nI_1] at ex_2
      subst ex_2
      refine m_sub (L' := [(2, .int (nI (k9 + 1))), (0, .ref o), (1, .int (nI n0))]) [0, 1, 2] rfl ?_
      exact ih (m9 - (k9 + 1)) (by omega) (k9 + 1) M rfl (by omega) hR
set_option maxHeartbeats 4000000 in
set_option maxRecDepth 100000 in
theorem c_X8_walkD (D : mD) (A : Nat → Prop) (l : Launch) {G : Nat → Nat} {o : Nat} {F : Mm} {t g : Int32} {cm : Nat} {ar : rA} : ∀ (d n0 ou : Nat) (od : Nat → Int32) (M : Mm), TR ar d n0 → ou + (q_pre ar d n0).length ≤ 40 → rW D G o F t (nI cm) g (nI ou) (upA ar 17 od) M → mMv D A l yX8_walk wsX8_walk ({ frames := d, cells := 0, slots := 0, locals := 40 * d } : Room) [.ref o, .int (nI n0)] M (fun M' => rW D G o F t (nI cm) g (nI (ou + (q_pre ar d n0).length)) (upA ar 17 (q_wr od ou (q_pre ar d n0))) M') 0 0 := by
  intro d
  induction d with
  | zero =>
    intro n0 ou od M htr
    exact htr.elim
  | succ d ihd =>
    intro n0 ou od M htr hlen hR
    obtain ⟨hn0, m9, hm39, hm, hkids⟩ := id htr
    have hl1 : ou + 1 ≤ 40 := by
      have := hlen
      rw [q_pre_s ar d n0 hm hm39, List.length_cons] at this
      omega
    refine m_start (cc := cX8_walk) (maxL := 3) (ret := none) (by decide) rfl (Nat.le_of_ble_eq_true rfl) ?_
    intro p e s m args below meth c C
    have i8 : ∀ w ∈ wsX80, w ∈ wsX8_walk := by decide +kernel
    refine m_sub (L' := [(0, .ref o), (1, .int (nI n0))]) [0, 1] rfl ?_
    refine m_aload_n C dX8_walk_0 rfl 0 rfl ?_
    refine r_get C hR i8 17 (by decide) (by decide +kernel) rfl rfl dX8_walk_1 ?_
    refine m_aload_n C dX8_walk_4 rfl 0 rfl ?_
    refine r_get C hR i8 18 (by decide) (by decide +kernel) rfl rfl dX8_walk_5 ?_
    refine m_iload_n C dX8_walk_8 rfl 1 rfl ?_
    refine r_iast C hR 17 (by decide) rfl ou (show ou < 40 by omega) (rfl) dX8_walk_9 (fun M hR => ?_)
    rw [upA_s, upA_upA] at hR
    refine m_aload_n C dX8_walk_10 rfl 0 rfl ?_
    refine m_dup C dX8_walk_11 rfl ?_
    refine r_get C hR i8 18 (by decide) (by decide +kernel) rfl rfl dX8_walk_12 ?_
    refine m_iconst (v := 1) C dX8_walk_15 (by decide) ?_
    refine m_iadd C dX8_walk_16 ?_
    refine m_i (y := nI (ou + 1)) (nI_1 ou) ?_
    refine r_putU C hR i8 (by decide +kernel) dX8_walk_17 (fun M hR => ?_)
    refine m_iconst (v := 0) C dX8_walk_20 (by decide) ?_
    refine m_istore_n (L' := [(2, .int 0), (0, .ref o), (1, .int (nI n0))]) C dX8_walk_21 rfl (by decide) rfl ?_
    refine m_sub (L' := [(2, .int 0), (0, .ref o), (1, .int (nI n0))]) [0, 1, 2] rfl ?_
    refine lp_X8_walk hn0 hm hm39 hkids hlen ihd C i8 (fun M hR => ?_) _ 0 M rfl (Nat.zero_le _) (by rw [q_kp_0, q_wr_one]; exact hR)
    exact m_vret C (Nat.zero_le _) (Nat.zero_le _) dX8_walk_53 (hR)
theorem q_wr_at {od : Nat → Int32} {l1 : List Nat} {k : Nat} (hk : k < l1.length) : q_wr od 0 l1 k = nI (l1.getD k 0) := by
  unfold q_wr
  rw [if_pos ⟨Nat.zero_le _, by omega⟩, Nat.sub_zero]
set_option maxHeartbeats 4000000 in
set_option maxRecDepth 100000 in
theorem c_X8_walkAll (D : mD) (A : Nat → Prop) (l : Launch) {G : Nat → Nat} {o : Nat} {F : Mm} {t g u : Int32} {cm : Nat} {ar : rA} {od : Nat → Int32} {M : Mm} (hR : rW D G o F t (nI cm) g u (upA ar 17 od) M) {n0 : Nat} (hn0 : n0 < 40) (htr : TR ar 40 n0) (hlen : (q_pre ar 40 n0).length ≤ 40) : mMv D A l yX8_walkAll wsX8_walkAll ({ frames := 42, cells := 0, slots := 0, locals := 1720 } : Room) [.ref o, .int (nI n0)] M (fun M' => ∃ od2 : Nat → Int32, (∀ k, k < (q_pre ar 40 n0).length → od2 k = nI ((q_pre ar 40 n0).getD k 0)) ∧ rW D G o F t (nI cm) g (nI (q_pre ar 40 n0).length) (upA ar 17 od2) M') 0 0 := by
  refine m_start (cc := cX8_walkAll) (maxL := 2) (ret := none) (by decide) rfl (Nat.le_of_ble_eq_true rfl) ?_
  intro p e s m args below meth c C
  have i8 : ∀ w ∈ wsX80, w ∈ wsX8_walkAll := by decide +kernel
  refine m_sub (L' := [(0, .ref o), (1, .int (nI n0))]) [0, 1] rfl ?_
  refine m_aload_n C dX8_walkAll_0 rfl 0 rfl ?_
  refine m_iconst (v := 0) C dX8_walkAll_1 (by decide) ?_
  refine r_putU C hR i8 (by decide +kernel) dX8_walkAll_2 (fun M hR => ?_)
  refine m_aload_n C dX8_walkAll_5 rfl 0 rfl ?_
  refine m_iload_n C dX8_walkAll_6 rfl 1 rfl ?_
  refine m_callVv (As := [.int (nI n0)]) (st := []) C hR.1 rfl (c_X8_walkD D A l 40 n0 0 od M htr (by omega) hR) (cwV 1 C.1.2.2.2.2 gX8_walkAll_X8_walk rfl rfl rfl (by decide +kernel) ⟨Nat.le_of_ble_eq_true rfl, Nat.le_of_ble_eq_true rfl⟩) rfl rfl (Nat.le_of_ble_eq_true rfl) dX8_walkAll_7 ⟨Nat.le_of_ble_eq_true rfl, Nat.le_of_ble_eq_true rfl⟩ (fun M hR => ?_)
  exact m_vret C (Nat.le_of_ble_eq_true rfl) (Nat.le_of_ble_eq_true rfl) dX8_walkAll_10 (⟨_, fun k hk => q_wr_at hk, by rw [Nat.zero_add] at hR; exact hR⟩)
