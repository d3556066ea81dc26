/-! ===== the class: the place among the children ===== -/
theorem cP_kid {ar : rA} {cm : Nat} (hw : wf ar cm) : ∀ n, cP ar cm n → ∀ k, k < mny ar n → cP ar cm (kid ar n k) := fun n hn k hk => ⟨(wf_kid hw hn.1 hn.2 hk).1, (wf_kid hw hn.1 hn.2 hk).2.1⟩
theorem q_pl_at {ar : rA} {cm p c k : Nat} (hw : wf ar cm) (hp : cP ar cm p) (hc : c < cm) (hk : k < mny ar p) (h1 : kid ar p k = c) (h2 : ∀ i, i < k → ¬ kid ar p i = c) : q_pl ar p c (mny ar p) = k := by
  refine q_pl_of hk ?_ ?_
  · rw [(wf_kid hw hp.1 hp.2 hk).2.2.2.1, h1]
  · intro i hi z
    have e := (wf_kid hw hp.1 hp.2 (show i < mny ar p by omega)).2.2.2.1
    have hl := (wf_kid hw hp.1 hp.2 (show i < mny ar p by omega)).1
    have h40 := hw.1.2
    rw [e] at z
    exact h2 i hi ((nI_eq (by omega) (by omega)).mp z)
theorem q_pl_no {ar : rA} {cm p c : Nat} (hw : wf ar cm) (hp : cP ar cm p) (hc : c < cm) (h2 : ∀ i, i < mny ar p → ¬ kid ar p i = c) : q_pl ar p c (mny ar p) = mny ar p := by
  obtain ⟨h1, h3, h4⟩ := q_pl_spec (ar := ar) (p := p) (n := c) (mny ar p)
  rcases Nat.lt_or_ge (q_pl ar p c (mny ar p)) (mny ar p) with z | z
  · have e := h4 z
    have h40 := hw.1.2
    have k1 := wf_kid hw hp.1 hp.2 z
    rw [k1.2.2.2.1] at e
    exact absurd ((nI_eq (by have := k1.1; omega) (by omega)).mp e) (h2 _ z)
  · omega
set_option maxHeartbeats 4000000 in
set_option maxRecDepth 100000 in
theorem lp_X7_placeAmong {p : Program} {l : Launch} {e : Env} {s : State} {m : MethodId} {args : Array Value} {below : List Frame} {meth : Method} {c : Code} {Q : State → Prop} {D : mD} {A : Nat → Prop} {Z : Nat → Nat} {F : Mm} {cm : Nat} {g : Int32} {ar : rA} {fi : Nat → Nat → Int32} {nl : Nat → Nat → Int64} {L : List Nat} {rw : Nat → Int32} {M : Mm} (hR : cS D Z F cm g ar fi nl L rw M) (hcm : cm ≤ 40) (hw : wf ar cm) {p9 c9 b9 cap9 : Nat} {f9 : Nat → Option Nat} {mc9 : Int32} {B : Nat} (hp9 : cP ar cm p9) (hc9 : cP ar cm c9) (h_a : M (Z (200 + p9)) = some (jLs mc9 b9 (mny ar p9))) (hB9 : jB D b9 cap9 f9 M) (hcap : mny ar p9 ≤ cap9) (h60 : cap9 ≤ 60) (hf9 : ∀ k, k < mny ar p9 → f9 k = some (Z (100 + kid ar p9 k))) (C : mC p m meth c cX7_placeAmong 3 s args wsX7_placeAmong yX7_placeAmong.cls D A yX7_placeAmong (some .int)) (k20 : ∀ v : Int32, v = nI B → mV p l e ({ frames := 4, cells := 0, slots := 0, locals := 220 } : Room) s m args below meth c 3 D A Q M 0 0 [(1, .ref (Z (100 + c9)))] [.int v] 20) (k27 : mny ar p9 = B → mV p l e ({ frames := 4, cells := 0, slots := 0, locals := 220 } : Room) s m args below meth c 3 D A Q M 0 0 [(0, .ref (Z (200 + p9)))] [] 27) : ∀ (N : Nat) (k9 : Nat), mny ar p9 - k9 = N → (k9 ≤ mny ar p9) → (∀ i, i < k9 → ¬ kid ar p9 i = c9) → (q_pl ar p9 c9 (mny ar p9) = B) → mV p l e ({ frames := 4, cells := 0, slots := 0, locals := 220 } : Room) s m args below meth c 3 D A Q M 0 0 [(2, .int (nI k9)), (0, .ref (Z (200 + p9))), (1, .ref (Z (100 + c9)))] [] 2 := by
  intro N
  induction N using Nat.strongRecOn with
  | _ N ih =>
    intro k9 hN hk hinv hB
    refine m_iload_n C dX7_placeAmong_2 rfl 0 rfl ?_
    refine m_aload_n C dX7_placeAmong_3 rfl 1 rfl ?_
    refine m_callVFi (As := []) (st := [.int (nI k9)]) (v := nI (mny ar p9)) C h_a rfl (c_Jx4a65c_size_8abf5 D A l h_a) (cwV 0 C.1.2.2.2.2 gX7_placeAmong_Jx4a65c_size_8abf5 rfl rfl rfl (by decide +kernel) ⟨Nat.le_of_ble_eq_true rfl, Nat.le_of_ble_eq_true rfl⟩) rfl rfl (Nat.le_of_ble_eq_true rfl) dX7_placeAmong_4 ⟨Nat.le_of_ble_eq_true rfl, Nat.le_of_ble_eq_true rfl⟩ ?_
    refine m_icmp_ge (tgt := 27) C dX7_placeAmong_7 (by decide) (fun h_1 => ?_) (fun h_1 => ?_)
    · refine m_sub (L' := [(0, .ref (Z (200 + p9)))]) [1] rfl ?_
      have hkm : k9 = mny ar p9 := by
        have := (nI_leI (a := mny ar p9) (b := k9) (by omega) (by omega)).mp h_1
        omega
      exact k27 (by rw [hkm] at hinv; rw [← hB, q_pl_no hw hp9 hc9.1 hinv])
    · have hkm : k9 < (mny ar p9) := by
        rcases Nat.lt_or_ge k9 (mny ar p9) with z | z
        · exact z
        · exact absurd (nI_le (a := (mny ar p9)) (b := k9) z (by omega)) h_1
      refine m_aload_n C dX7_placeAmong_10 rfl 1 rfl ?_
      refine m_iload_n C dX7_placeAmong_11 rfl 0 rfl ?_
      have h_b := hB9.own (by omega)
      refine m_callVFq (As := [.int (nI k9)]) (st := []) C h_a rfl (c_Jx4a65c_get_915e3 D A l h_a h_b hkm ⟨hcap, by omega⟩) (cwV 1 C.1.2.2.2.2 gX7_placeAmong_Jx4a65c_get_915e3 rfl rfl rfl (by decide +kernel) ⟨Nat.le_of_ble_eq_true rfl, Nat.le_of_ble_eq_true rfl⟩) rfl rfl (Nat.le_of_ble_eq_true rfl) dX7_placeAmong_12 ⟨Nat.le_of_ble_eq_true rfl, Nat.le_of_ble_eq_true rfl⟩ ?_
      rw [hf9 k9 hkm]
      refine m_aload_n C dX7_placeAmong_15 rfl 2 rfl ?_
      refine m_acmp_ne (x := some (Z (100 + kid ar p9 k9))) (y := some (Z (100 + c9))) (tgt := 21) C dX7_placeAmong_16 (by decide) (fun h_2 => ?_) (fun h_2 => ?_)
      · have hkc : ¬ kid ar p9 k9 = c9 := fun y => h_2 (by rw [y])
        obtain ⟨x_3, ex_3⟩ : ∃ z : Int32, z = nI k9 + 1 := ⟨_, rfl⟩
        refine m_iinc (q := 0) (v := x_3) (L' := [(2, .int x_3), (0, .ref (Z (200 + p9))), (1, .ref (Z (100 + c9)))]) C dX7_placeAmong_21 rfl (by rw [ex_3]; rfl) (by decide) rfl ?_
        refine m_goto (tgt := 2) C dX7_placeAmong_24 (by decide) ?_
        rw [nI_1] at ex_3
        subst ex_3
        refine m_sub (L' := [(2, .int (nI (k9 + 1))), (0, .ref (Z (200 + p9))), (1, .ref (Z (100 + c9)))]) [0, 1, 2] rfl ?_
        refine ih (mny ar p9 - (k9 + 1)) (by omega) (k9 + 1) rfl (by omega) (fun i hi => ?_) hB
        by_cases z : i = k9
        · rw [z]; exact hkc
        · exact hinv i (by omega)
      · have hkc : kid ar p9 k9 = c9 := hR.1.inj (cP_kid hw p9 hp9 k9 hkm) hc9 (Option.some.inj h_2)
        refine m_iload_n C dX7_placeAmong_19 rfl 0 rfl ?_
        refine m_sub (L' := [(1, .ref (Z (100 + c9)))]) [2] rfl ?_
        exact k20 _ (by rw [← hB, q_pl_at hw hp9 hc9.1 hkm hkc hinv])
set_option maxHeartbeats 4000000 in
set_option maxRecDepth 100000 in
theorem c_X7_placeAmong (D : mD) (A : Nat → Prop) (l : Launch) {Z : Nat → Nat} {F : Mm} {cm : Nat} {g : Int32} {ar : rA} {fi : Nat → Nat → Int32} {nl : Nat → Nat → Int64} {L : List Nat} {rw : Nat → Int32} {M : Mm} (hR : cS D Z F cm g ar fi nl L rw M) (hcm : cm ≤ 40) (hw : wf ar cm) {p9 c9 : Nat} (hp9 : cP ar cm p9) (hc9 : cP ar cm c9) : mMi D A l yX7_placeAmong wsX7_placeAmong ({ frames := 4, cells := 0, slots := 0, locals := 220 } : Room) [.ref (Z (200 + p9)), .ref (Z (100 + c9))] M (fun r M' => M' = M ∧ r = nI (q_pl ar p9 c9 (mny ar p9))) 0 0 := by
  refine m_start (cc := cX7_placeAmong) (maxL := 3) (ret := (some .int)) (by decide) rfl (Nat.le_of_ble_eq_true rfl) ?_
  intro p e s m args below meth c C
  have iL : ∀ w ∈ wsJx4a65c0, w ∈ wsX7_placeAmong := by decide +kernel
  refine m_sub (L' := [(0, .ref (Z (200 + p9))), (1, .ref (Z (100 + c9)))]) [0, 1] rfl ?_
  obtain ⟨b9, cap9, f9, mc9, h_a, hB9, hcap, h60, hf9⟩ := hR.kd hcm hp9
  refine m_iconst (v := 0) C dX7_placeAmong_0 (by decide) ?_
  refine m_istore_n (L' := [(2, .int 0), (0, .ref (Z (200 + p9))), (1, .ref (Z (100 + c9)))]) C dX7_placeAmong_1 rfl (by decide) rfl ?_
  refine m_sub (L' := [(2, .int 0), (0, .ref (Z (200 + p9))), (1, .ref (Z (100 + c9)))]) [0, 1, 2] rfl ?_
  refine lp_X7_placeAmong hR hcm hw (B := q_pl ar p9 c9 (mny ar p9)) hp9 hc9 h_a hB9 hcap h60 hf9 C (fun v hv => ?_) (fun hB => ?_) _ 0 rfl (Nat.zero_le _) (fun i hi => absurd hi (Nat.not_lt_zero i)) rfl
  · exact m_iret C (Nat.le_of_ble_eq_true rfl) (Nat.le_of_ble_eq_true rfl) dX7_placeAmong_20 (⟨rfl, hv⟩)
  · refine m_aload_n C dX7_placeAmong_27 rfl 0 rfl ?_
    refine m_callVFi (As := []) (st := []) (v := nI (mny ar p9)) C h_a rfl (c_Jx4a65c_size_8abf5 D A l h_a) (cwV 0 C.1.2.2.2.2 gX7_placeAmong_Jx4a65c_size_8abf5 rfl rfl rfl (by decide +kernel) ⟨Nat.le_of_ble_eq_true rfl, Nat.le_of_ble_eq_true rfl⟩) rfl rfl (Nat.le_of_ble_eq_true rfl) dX7_placeAmong_28 ⟨Nat.le_of_ble_eq_true rfl, Nat.le_of_ble_eq_true rfl⟩ ?_
    exact m_iret C (Nat.le_of_ble_eq_true rfl) (Nat.le_of_ble_eq_true rfl) dX7_placeAmong_31 (⟨rfl, congrArg nI hB⟩)

