/-! ===== the class: rows of shapes ===== -/
theorem sp_no2 {f t : Int32} (h : ¬ f < t) (x : Nat) : (decide (f ≤ nI x) && decide (nI x < t)) = false := by
  rw [Bool.and_eq_false_iff, decide_eq_false_iff_not, decide_eq_false_iff_not, Int32.not_le, Int32.not_lt]
  rw [Int32.not_lt] at h
  by_cases z : f ≤ nI x
  · exact Or.inr (Int32.le_trans h z)
  · exact Or.inl (Int32.not_le.mp z)
theorem sp_hull {lo hi i j : Nat} {h : Nat → Bool} (hcv : ∀ i j k : Nat, i ≤ j → j ≤ k → k < 64 → h i = true → h k = true → h j = true) (hij : lo ≤ i ∧ i ≤ j ∧ j ≤ hi ∧ hi ≤ 64) (h1 : ∀ x, lo ≤ x → x < i → h x = false) (h2 : ∀ x, j ≤ x → x < hi → h x = false) (h3 : i = j ∨ (h i = true ∧ h (j - 1) = true)) (x : Nat) : (decide (i ≤ x) && decide (x < j)) = ((decide (lo ≤ x) && decide (x < hi)) && h x) := by
  by_cases z : lo ≤ x ∧ x < hi
  · rw [decide_eq_true z.1, decide_eq_true z.2]
    by_cases y1 : x < i
    · rw [decide_eq_false (show ¬ i ≤ x by omega), h1 x z.1 y1]
      rfl
    · by_cases y2 : j ≤ x
      · rw [decide_eq_false (show ¬ x < j by omega), h2 x y2 z.2, Bool.and_false]
        rfl
      · rw [decide_eq_true (show i ≤ x by omega), decide_eq_true (show x < j by omega)]
        rcases h3 with w | ⟨w1, w2⟩
        · omega
        · rw [hcv i x (j - 1) (by omega) (by omega) (by omega) w1 w2]
          rfl
  · have e1 : (decide (i ≤ x) && decide (x < j)) = false := by
      rw [Bool.and_eq_false_iff, decide_eq_false_iff_not, decide_eq_false_iff_not]
      omega
    have e2 : (decide (lo ≤ x) && decide (x < hi)) = false := by
      rw [Bool.and_eq_false_iff, decide_eq_false_iff_not, decide_eq_false_iff_not]
      omega
    rw [e1, e2]
    rfl
set_option maxHeartbeats 4000000 in
set_option maxRecDepth 100000 in
theorem lp_X5_rowBits1_X4 {p : Program} {l : Launch} {e : Env} {s : State} {m : MethodId} {args : Array Value} {below : List Frame} {meth : Method} {c : Code} {Q : State → Prop} {D : mD} {A : Nat → Prop} {a b : Nat} {so : Int32} {y dx dy lf tp rt bt : Int32} {M : Mm} (h_a : M a = some (.inr (7, [.int so, .ref b]))) (h_b : M b = some (.inr (3, [.int lf, .int tp, .int rt, .int bt]))) {t9 f0 : Nat} (ht : t9 ≤ 64) (C : mC p m meth c cX5_rowBits 6 s args wsX5_rowBits yX5_rowBits.cls D A yX5_rowBits (some .long)) (kx : ∀ i9 : Nat, (f0 ≤ i9 ∧ i9 ≤ t9) → (∀ x, f0 ≤ x → x < i9 → (fun (_ _ : Int32) => true) (nI x - dx) (y - dy) = false) → (i9 = t9 ∨ (fun (_ _ : Int32) => true) (nI i9 - dx) (y - dy) = true) → mV p l e ({ frames := 3, cells := 0, slots := 0, locals := 200 } : Room) s m args below meth c 6 D A Q M 0 0 [(4, .int (nI i9)), (5, .int (nI t9)), (0, .ref a), (1, .int y), (2, .int dx), (3, .int dy)] [] 73) : ∀ (N : Nat) (i9 : Nat), t9 - i9 = N → (f0 ≤ i9 ∧ i9 ≤ t9) → (∀ x, f0 ≤ x → x < i9 → (fun (_ _ : Int32) => true) (nI x - dx) (y - dy) = false) → mV p l e ({ frames := 3, cells := 0, slots := 0, locals := 200 } : Room) s m args below meth c 6 D A Q M 0 0 [(4, .int (nI i9)), (5, .int (nI t9)), (0, .ref a), (1, .int y), (2, .int dx), (3, .int dy)] [] 46 := by
  intro N
  induction N using Nat.strongRecOn with
  | _ N ih =>
    intro i9 hN hk hinv
    refine m_iload C dX5_rowBits_46 0 rfl ?_
    refine m_iload C dX5_rowBits_48 1 rfl ?_
    refine m_icmp_ge (tgt := 73) C dX5_rowBits_50 (by decide) (fun h_1 => ?_) (fun h_1 => ?_)
    · have hit : i9 = t9 := by
        have := (nI_leI (a := t9) (b := i9) (by omega) (by omega)).mp h_1
        omega
      exact kx i9 hk hinv (Or.inl hit)
    · have hkm : i9 < t9 := by
        rcases Nat.lt_or_ge i9 t9 with z | z
        · exact z
        · exact absurd (nI_le (a := t9) (b := i9) z (by omega)) h_1
      refine m_aload_n C dX5_rowBits_53 rfl 2 rfl ?_
      refine m_iload C dX5_rowBits_54 0 rfl ?_
      refine m_iload_n C dX5_rowBits_56 rfl 4 rfl ?_
      refine m_isub C dX5_rowBits_57 ?_
      refine m_iload_n C dX5_rowBits_58 rfl 3 rfl ?_
      refine m_iload_n C dX5_rowBits_59 rfl 5 rfl ?_
      refine m_isub C dX5_rowBits_60 ?_
      refine m_callUFi (As := [.int ((nI i9) - dx), .int (y - dy)]) (st := []) (v := bI ((fun (_ _ : Int32) => true) ((nI i9) - dx) (y - dy))) C h_a rfl (c_X4_holds D A l (a := a)) (va_cwA 2 C.1.2.2.2.2 gX5_rowBits_X4_holds_u40X4 rfl rfl rfl C.2.1.2.2.2.2.2.2.1.2 (by decide +kernel) ⟨Nat.le_of_ble_eq_true rfl, Nat.le_of_ble_eq_true rfl⟩) rfl rfl (Nat.le_of_ble_eq_true rfl) dX5_rowBits_61 ⟨Nat.le_of_ble_eq_true rfl, Nat.le_of_ble_eq_true rfl⟩ ?_
      refine m_if_ne (tgt := 73) C dX5_rowBits_64 (by decide) (fun hz_2 => ?_) (fun hz_2 => ?_)
      · have hz_2 := bI_n hz_2
        exact kx i9 hk hinv (Or.inr hz_2)
      · have hz_2 := bI_z hz_2
        obtain ⟨x_3, ex_3⟩ : ∃ z : Int32, z = nI i9 + 1 := ⟨_, rfl⟩
        refine m_iinc (q := 0) (v := x_3) (L' := [(4, .int x_3), (5, .int (nI t9)), (0, .ref a), (1, .int y), (2, .int dx), (3, .int dy)]) C dX5_rowBits_67 rfl (by rw [ex_3]; rfl) (by decide) rfl ?_
        refine m_goto (tgt := 46) C dX5_rowBits_70 (by decide) ?_
        rw [nI_1] at ex_3
        subst ex_3
        refine m_sub (L' := [(4, .int (nI (i9 + 1))), (5, .int (nI t9)), (0, .ref a), (1, .int y), (2, .int dx), (3, .int dy)]) [0, 1, 2, 3, 4, 5] rfl ?_
        refine ih (t9 - (i9 + 1)) (by omega) (i9 + 1) rfl ⟨by omega, by omega⟩ (fun x h1 h2 => ?_)
        by_cases z : x = i9
        · rw [z]; exact hz_2
        · exact hinv x h1 (by omega)
set_option maxHeartbeats 4000000 in
set_option maxRecDepth 100000 in
theorem lp_X5_rowBits2_X4 {p : Program} {l : Launch} {e : Env} {s : State} {m : MethodId} {args : Array Value} {below : List Frame} {meth : Method} {c : Code} {Q : State → Prop} {D : mD} {A : Nat → Prop} {a b : Nat} {so : Int32} {y dx dy lf tp rt bt : Int32} {M : Mm} (h_a : M a = some (.inr (7, [.int so, .ref b]))) (h_b : M b = some (.inr (3, [.int lf, .int tp, .int rt, .int bt]))) {t9 i9 : Nat} (ht : t9 ≤ 64) (C : mC p m meth c cX5_rowBits 6 s args wsX5_rowBits yX5_rowBits.cls D A yX5_rowBits (some .long)) (kx : ∀ j9 : Nat, (i9 ≤ j9 ∧ j9 ≤ t9) → (∀ x, j9 ≤ x → x < t9 → (fun (_ _ : Int32) => true) (nI x - dx) (y - dy) = false) → (i9 = j9 ∨ (fun (_ _ : Int32) => true) (nI (j9 - 1) - dx) (y - dy) = true) → mV p l e ({ frames := 3, cells := 0, slots := 0, locals := 200 } : Room) s m args below meth c 6 D A Q M 0 0 [(5, .int (nI j9)), (4, .int (nI i9)), (0, .ref a), (1, .int y), (2, .int dx), (3, .int dy)] [] 102) : ∀ (N : Nat) (j9 : Nat), j9 = N → (i9 ≤ j9 ∧ j9 ≤ t9) → (∀ x, j9 ≤ x → x < t9 → (fun (_ _ : Int32) => true) (nI x - dx) (y - dy) = false) → mV p l e ({ frames := 3, cells := 0, slots := 0, locals := 200 } : Room) s m args below meth c 6 D A Q M 0 0 [(5, .int (nI j9)), (4, .int (nI i9)), (0, .ref a), (1, .int y), (2, .int dx), (3, .int dy)] [] 73 := by
  intro N
  induction N using Nat.strongRecOn with
  | _ N ih =>
    intro j9 hN hk hinv
    refine m_iload C dX5_rowBits_73 1 rfl ?_
    refine m_iload C dX5_rowBits_75 0 rfl ?_
    refine m_icmp_ge (tgt := 102) C dX5_rowBits_77 (by decide) (fun h_1 => ?_) (fun h_1 => ?_)
    · have hit : i9 = j9 := by
        have := (nI_leI (a := j9) (b := i9) (by omega) (by omega)).mp h_1
        omega
      exact kx j9 hk hinv (Or.inl hit)
    · have hkm : i9 < j9 := by
        rcases Nat.lt_or_ge i9 j9 with z | z
        · exact z
        · exact absurd (nI_le (a := j9) (b := i9) z (by omega)) h_1
      obtain ⟨k9, rfl⟩ : ∃ k9, j9 = k9 + 1 := ⟨j9 - 1, by omega⟩
      refine m_aload_n C dX5_rowBits_80 rfl 2 rfl ?_
      refine m_iload C dX5_rowBits_81 0 rfl ?_
      refine m_iconst (v := 1) C dX5_rowBits_83 (by decide) ?_
      refine m_isub C dX5_rowBits_84 ?_
      refine m_i (y := nI k9) (nI_pred k9) ?_
      refine m_iload_n C dX5_rowBits_85 rfl 4 rfl ?_
      refine m_isub C dX5_rowBits_86 ?_
      refine m_iload_n C dX5_rowBits_87 rfl 3 rfl ?_
      refine m_iload_n C dX5_rowBits_88 rfl 5 rfl ?_
      refine m_isub C dX5_rowBits_89 ?_
      refine m_callUFi (As := [.int ((nI k9) - dx), .int (y - dy)]) (st := []) (v := bI ((fun (_ _ : Int32) => true) ((nI k9) - dx) (y - dy))) C h_a rfl (c_X4_holds D A l (a := a)) (va_cwA 2 C.1.2.2.2.2 gX5_rowBits_X4_holds_u40X4 rfl rfl rfl C.2.1.2.2.2.2.2.2.1.2 (by decide +kernel) ⟨Nat.le_of_ble_eq_true rfl, Nat.le_of_ble_eq_true rfl⟩) rfl rfl (Nat.le_of_ble_eq_true rfl) dX5_rowBits_90 ⟨Nat.le_of_ble_eq_true rfl, Nat.le_of_ble_eq_true rfl⟩ ?_
      refine m_if_ne (tgt := 102) C dX5_rowBits_93 (by decide) (fun hz_2 => ?_) (fun hz_2 => ?_)
      · have hz_2 := bI_n hz_2
        exact kx (k9 + 1) hk hinv (Or.inr hz_2)
      · have hz_2 := bI_z hz_2
        obtain ⟨x4, ex4⟩ : ∃ y : Int32, y = nI k9 := ⟨_, rfl⟩
        refine m_iinc (q := 0) (v := x4) (L' := [(5, .int x4), (4, .int (nI i9)), (0, .ref a), (1, .int y), (2, .int dx), (3, .int dy)]) C dX5_rowBits_96 rfl (by rw [ex4, ← nI_pred k9, Int32.sub_eq_add_neg]; rfl) (by decide) rfl ?_
        subst ex4
        refine m_goto (tgt := 73) C dX5_rowBits_99 (by decide) ?_
        refine m_sub (L' := [(5, .int (nI k9)), (4, .int (nI i9)), (0, .ref a), (1, .int y), (2, .int dx), (3, .int dy)]) [0, 1, 2, 3, 4, 5] rfl ?_
        refine ih k9 (by omega) k9 rfl ⟨by omega, by omega⟩ (fun x h1 h2 => ?_)
        by_cases z : x = k9
        · rw [z]; exact hz_2
        · exact hinv x (by omega) h2
set_option maxHeartbeats 4000000 in
set_option maxRecDepth 100000 in
theorem c_X5_rowBits_X4 (D : mD) (A : Nat → Prop) (l : Launch) {a b : Nat} {so : Int32} {y dx dy lf tp rt bt : Int32} {M : Mm} (h_a : M a = some (.inr (7, [.int so, .ref b]))) (h_b : M b = some (.inr (3, [.int lf, .int tp, .int rt, .int bt]))) (hcv : ∀ i j k : Nat, i ≤ j → j ≤ k → k < 64 → (fun (_ _ : Int32) => true) (nI i - dx) (y - dy) = true → (fun (_ _ : Int32) => true) (nI k - dx) (y - dy) = true → (fun (_ _ : Int32) => true) (nI j - dx) (y - dy) = true) : mMl D A l yX5_rowBits wsX5_rowBits ({ frames := 3, cells := 0, slots := 0, locals := 200 } : Room) [.ref a, .int y, .int dx, .int dy] M (fun r9 M' => M' = M ∧ ∀ x9, x9 < 64 → bL r9 x9 = ((decide (tp ≤ y - dy) && decide (y - dy < bt)) && ((decide (lf + dx ≤ nI x9) && decide (nI x9 < rt + dx)) && (fun (_ _ : Int32) => true) (nI x9 - dx) (y - dy)))) 0 0 := by
  refine m_start (cc := cX5_rowBits) (maxL := 6) (ret := (some .long)) (by decide) rfl (Nat.le_of_ble_eq_true rfl) ?_
  intro p e s m args below meth c C
  have i_X4 : ∀ w ∈ wsX40, w ∈ wsX5_rowBits := by decide +kernel
  have i_X0 : ∀ w ∈ wsX00, w ∈ wsX5_rowBits := by decide +kernel
  refine m_sub (L' := [(0, .ref a), (1, .int y), (2, .int dx), (3, .int dy)]) [0, 1, 2, 3] rfl ?_
  refine m_aload_n C dX5_rowBits_0 rfl 0 rfl ?_
  refine m_get (ref := "PaintLayers$Shape") C h_a rfl i_X4 1 (by decide) (by decide +kernel) (fun x h => h) (v := .ref b) rfl dX5_rowBits_1 ?_
  refine m_iload_n C dX5_rowBits_4 rfl 1 rfl ?_
  refine m_iload_n C dX5_rowBits_5 rfl 3 rfl ?_
  refine m_isub C dX5_rowBits_6 ?_
  refine m_callVFi (As := [.int (y - dy)]) (st := []) (v := bI (decide (tp ≤ y - dy) && decide (y - dy < bt))) C h_b rfl (c_X0_hasRow D A l h_b) (cwV 1 C.1.2.2.2.2 gX5_rowBits_X0_hasRow rfl rfl rfl (by decide +kernel) ⟨Nat.le_of_ble_eq_true rfl, Nat.le_of_ble_eq_true rfl⟩) rfl rfl (Nat.le_of_ble_eq_true rfl) dX5_rowBits_7 ⟨Nat.le_of_ble_eq_true rfl, Nat.le_of_ble_eq_true rfl⟩ ?_
  refine m_if_ne (tgt := 15) C dX5_rowBits_10 (by decide) (fun hz_1 => ?_) (fun hz_1 => ?_)
  · have hz_1 := bI_n hz_1
    refine m_aload_n C dX5_rowBits_15 rfl 0 rfl ?_
    refine m_get (ref := "PaintLayers$Shape") C h_a rfl i_X4 1 (by decide) (by decide +kernel) (fun x h => h) (v := .ref b) rfl dX5_rowBits_16 ?_
    refine m_get (ref := "PaintLayers$Box") C h_b rfl i_X0 0 (by decide) (by decide +kernel) (fun x h => h) (v := .int lf) rfl dX5_rowBits_19 ?_
    refine m_iload_n C dX5_rowBits_22 rfl 2 rfl ?_
    refine m_iadd C dX5_rowBits_23 ?_
    refine m_iconst (v := 0) C dX5_rowBits_24 (by decide) ?_
    refine m_mmax (x := (lf + dx)) (y := 0) (index := 28) C (by decide +kernel) (by decide +kernel) (by decide +kernel) (by decide +kernel) (Nat.le_of_ble_eq_true rfl) (Nat.le_of_ble_eq_true rfl) (Nat.le_of_ble_eq_true rfl) (Nat.le_of_ble_eq_true rfl) dX5_rowBits_25 ?_
    refine m_istore (L' := [(4, .int (if (lf + dx) < 0 then 0 else lf + dx)), (0, .ref a), (1, .int y), (2, .int dx), (3, .int dy)]) C dX5_rowBits_28 (by decide) rfl ?_
    refine m_aload_n C dX5_rowBits_30 rfl 1 rfl ?_
    refine m_get (ref := "PaintLayers$Shape") C h_a rfl i_X4 1 (by decide) (by decide +kernel) (fun x h => h) (v := .ref b) rfl dX5_rowBits_31 ?_
    refine m_get (ref := "PaintLayers$Box") C h_b rfl i_X0 2 (by decide) (by decide +kernel) (fun x h => h) (v := .int rt) rfl dX5_rowBits_34 ?_
    refine m_iload_n C dX5_rowBits_37 rfl 3 rfl ?_
    refine m_iadd C dX5_rowBits_38 ?_
    refine m_bipush (v := 64) C dX5_rowBits_39 (by decide) ?_
    refine m_mmin (x := (rt + dx)) (y := 64) (index := 37) C (by decide +kernel) (by decide +kernel) (by decide +kernel) (by decide +kernel) (Nat.le_of_ble_eq_true rfl) (Nat.le_of_ble_eq_true rfl) (Nat.le_of_ble_eq_true rfl) (Nat.le_of_ble_eq_true rfl) dX5_rowBits_41 ?_
    refine m_istore (L' := [(5, .int (if 64 < (rt + dx) then 64 else rt + dx)), (4, .int (if (lf + dx) < 0 then 0 else lf + dx)), (0, .ref a), (1, .int y), (2, .int dx), (3, .int dy)]) C dX5_rowBits_44 (by decide) rfl ?_
    by_cases hlt : (if (lf + dx) < 0 then 0 else lf + dx) < (if 64 < (rt + dx) then 64 else rt + dx)
    · obtain ⟨f9, t9, hft, ht, ea, eb, h9⟩ := sp_ab hlt
      rw [ea, eb]
      refine m_sub (L' := [(4, .int (nI f9)), (5, .int (nI t9)), (0, .ref a), (1, .int y), (2, .int dx), (3, .int dy)]) [1, 0, 2, 3, 4, 5] rfl ?_
      refine lp_X5_rowBits1_X4 (f0 := f9) h_a h_b ht C (fun i9 hk1 hinv1 hend1 => ?_) _ f9 rfl ⟨Nat.le_refl _, Nat.le_of_lt hft⟩ (fun x h1 h2 => absurd h2 (by omega))
      refine m_sub (L' := [(5, .int (nI t9)), (4, .int (nI i9)), (0, .ref a), (1, .int y), (2, .int dx), (3, .int dy)]) [1, 0, 2, 3, 4, 5] rfl ?_
      refine lp_X5_rowBits2_X4 (t9 := t9) (i9 := i9) h_a h_b ht C (fun j9 hk2 hinv2 hend2 => ?_) _ t9 rfl ⟨hk1.2, Nat.le_refl _⟩ (fun x h1 h2 => absurd h2 (by omega))
      refine m_iload C dX5_rowBits_102 1 rfl ?_
      refine m_iload C dX5_rowBits_104 0 rfl ?_
      refine m_callSNPl (As := [.int (nI i9), .int (nI j9)]) (st := []) C (c_X7_spanBits D A l (f := nI i9) (t := nI j9)) ⟨va_cnB 2 C.1.2.2.2.2 gX5_rowBits_X7_spanBits_n44 rfl rfl rfl C.2.1.2.2.2.2.2.2.2.1.1 (C.1.2.2.2.2 _ (by decide +kernel)) (by decide +kernel) ⟨Nat.le_of_ble_eq_true rfl, Nat.le_of_ble_eq_true rfl⟩, C.1.2.2.2.2 _ (by decide +kernel), trivial⟩ rfl rfl (Nat.le_of_ble_eq_true rfl) dX5_rowBits_106 ⟨Nat.le_of_ble_eq_true rfl, Nat.le_of_ble_eq_true rfl⟩ (fun r9 hr9 => ?_)
      exact m_lret C (Nat.le_of_ble_eq_true rfl) (Nat.le_of_ble_eq_true rfl) dX5_rowBits_109 (⟨rfl, fun x9 hx9 => by
    have e1 : (decide (nI i9 ≤ nI x9) && decide (nI x9 < nI j9)) = (decide (i9 ≤ x9) && decide (x9 < j9)) := by
      rw [decide_eq_decide.mpr (nI_leI (a := i9) (b := x9) (by omega) (by omega)), decide_eq_decide.mpr (nI_ltI (a := x9) (b := j9) (by omega) (by omega))]
    have e2 := sp_hull (lo := f9) (hi := t9) (i := i9) (j := j9) (h := fun x => (fun (_ _ : Int32) => true) (nI x - dx) (y - dy)) hcv ⟨hk1.1, hk2.1, hk2.2, ht⟩ hinv1 hinv2 (by
      rcases hend2 with z | z
      · exact Or.inl z
      · by_cases w : i9 = j9
        · exact Or.inl w
        · rcases hend1 with u | u
          · omega
          · exact Or.inr ⟨u, z⟩) x9
    rw [hr9 x9 hx9, e1, e2, hz_1, Bool.true_and, h9 x9 hx9]⟩)
    · refine m_iload C dX5_rowBits_46 1 rfl ?_
      refine m_iload C dX5_rowBits_48 0 rfl ?_
      refine m_icmp_ge (tgt := 73) C dX5_rowBits_50 (by decide) (fun h_2 => ?_) (fun h_2 => ?_)
      · refine m_iload C dX5_rowBits_73 1 rfl ?_
        refine m_iload C dX5_rowBits_75 0 rfl ?_
        refine m_icmp_ge (tgt := 102) C dX5_rowBits_77 (by decide) (fun h_3 => ?_) (fun h_3 => ?_)
        · refine m_iload C dX5_rowBits_102 1 rfl ?_
          refine m_iload C dX5_rowBits_104 0 rfl ?_
          refine m_callSNPl (As := [.int (if (lf + dx) < 0 then 0 else lf + dx), .int (if 64 < (rt + dx) then 64 else rt + dx)]) (st := []) C (c_X7_spanBits D A l (f := if (lf + dx) < 0 then 0 else lf + dx) (t := if 64 < (rt + dx) then 64 else rt + dx)) ⟨va_cnB 2 C.1.2.2.2.2 gX5_rowBits_X7_spanBits_n44 rfl rfl rfl C.2.1.2.2.2.2.2.2.2.1.1 (C.1.2.2.2.2 _ (by decide +kernel)) (by decide +kernel) ⟨Nat.le_of_ble_eq_true rfl, Nat.le_of_ble_eq_true rfl⟩, C.1.2.2.2.2 _ (by decide +kernel), trivial⟩ rfl rfl (Nat.le_of_ble_eq_true rfl) dX5_rowBits_106 ⟨Nat.le_of_ble_eq_true rfl, Nat.le_of_ble_eq_true rfl⟩ (fun r9 hr9 => ?_)
          exact m_lret C (Nat.le_of_ble_eq_true rfl) (Nat.le_of_ble_eq_true rfl) dX5_rowBits_109 (⟨rfl, fun x9 hx9 => by rw [hr9 x9 hx9, sp_no2 hlt x9, sp_no hlt x9 hx9, Bool.false_and, Bool.and_false]⟩)
        · exact absurd (Int32.not_le.mp h_3) hlt
      · exact absurd (Int32.not_le.mp h_2) hlt
  · have hz_1 := bI_z hz_1
    refine m_lconst (v := 0) C dX5_rowBits_13 rfl ?_
    exact m_lret C (Nat.le_of_ble_eq_true rfl) (Nat.le_of_ble_eq_true rfl) dX5_rowBits_14 (⟨rfl, fun x9 hx9 => by rw [hz_1, Bool.false_and]; exact bL_0 x9⟩)
set_option maxHeartbeats 4000000 in
set_option maxRecDepth 100000 in
theorem lp_X5_rowBits1_X2 {p : Program} {l : Launch} {e : Env} {s : State} {m : MethodId} {args : Array Value} {below : List Frame} {meth : Method} {c : Code} {Q : State → Prop} {D : mD} {A : Nat → Prop} {a b : Nat} {so cx cy r : Int32} {y dx dy lf tp rt bt : Int32} {M : Mm} (h_a : M a = some (.inr (5, [.int so, .ref b, .int cx, .int cy, .int r]))) (h_b : M b = some (.inr (3, [.int lf, .int tp, .int rt, .int bt]))) {t9 f0 : Nat} (ht : t9 ≤ 64) (C : mC p m meth c cX5_rowBits 6 s args wsX5_rowBits yX5_rowBits.cls D A yX5_rowBits (some .long)) (kx : ∀ i9 : Nat, (f0 ≤ i9 ∧ i9 ≤ t9) → (∀ x, f0 ≤ x → x < i9 → hD cx cy r (nI x - dx) (y - dy) = false) → (i9 = t9 ∨ hD cx cy r (nI i9 - dx) (y - dy) = true) → mV p l e ({ frames := 3, cells := 0, slots := 0, locals := 200 } : Room) s m args below meth c 6 D A Q M 0 0 [(4, .int (nI i9)), (5, .int (nI t9)), (0, .ref a), (1, .int y), (2, .int dx), (3, .int dy)] [] 73) : ∀ (N : Nat) (i9 : Nat), t9 - i9 = N → (f0 ≤ i9 ∧ i9 ≤ t9) → (∀ x, f0 ≤ x → x < i9 → hD cx cy r (nI x - dx) (y - dy) = false) → mV p l e ({ frames := 3, cells := 0, slots := 0, locals := 200 } : Room) s m args below meth c 6 D A Q M 0 0 [(4, .int (nI i9)), (5, .int (nI t9)), (0, .ref a), (1, .int y), (2, .int dx), (3, .int dy)] [] 46 := by
  intro N
  induction N using Nat.strongRecOn with
  | _ N ih =>
    intro i9 hN hk hinv
    refine m_iload C dX5_rowBits_46 0 rfl ?_
    refine m_iload C dX5_rowBits_48 1 rfl ?_
    refine m_icmp_ge (tgt := 73) C dX5_rowBits_50 (by decide) (fun h_1 => ?_) (fun h_1 => ?_)
    · have hit : i9 = t9 := by
        have := (nI_leI (a := t9) (b := i9) (by omega) (by omega)).mp h_1
        omega
      exact kx i9 hk hinv (Or.inl hit)
    · have hkm : i9 < t9 := by
        rcases Nat.lt_or_ge i9 t9 with z | z
        · exact z
        · exact absurd (nI_le (a := t9) (b := i9) z (by omega)) h_1
      refine m_aload_n C dX5_rowBits_53 rfl 2 rfl ?_
      refine m_iload C dX5_rowBits_54 0 rfl ?_
      refine m_iload_n C dX5_rowBits_56 rfl 4 rfl ?_
      refine m_isub C dX5_rowBits_57 ?_
      refine m_iload_n C dX5_rowBits_58 rfl 3 rfl ?_
      refine m_iload_n C dX5_rowBits_59 rfl 5 rfl ?_
      refine m_isub C dX5_rowBits_60 ?_
      refine m_callUFi (As := [.int ((nI i9) - dx), .int (y - dy)]) (st := []) (v := bI (hD cx cy r ((nI i9) - dx) (y - dy))) C h_a rfl (c_X2_holds D A l h_a) (va_cwA 2 C.1.2.2.2.2 gX5_rowBits_X2_holds_u40X2 rfl rfl rfl C.2.1.2.2.2.2.2.2.1.2 (by decide +kernel) ⟨Nat.le_of_ble_eq_true rfl, Nat.le_of_ble_eq_true rfl⟩) rfl rfl (Nat.le_of_ble_eq_true rfl) dX5_rowBits_61 ⟨Nat.le_of_ble_eq_true rfl, Nat.le_of_ble_eq_true rfl⟩ ?_
      refine m_if_ne (tgt := 73) C dX5_rowBits_64 (by decide) (fun hz_2 => ?_) (fun hz_2 => ?_)
      · have hz_2 := bI_n hz_2
        exact kx i9 hk hinv (Or.inr hz_2)
      · have hz_2 := bI_z hz_2
        obtain ⟨x_3, ex_3⟩ : ∃ z : Int32, z = nI i9 + 1 := ⟨_, rfl⟩
        refine m_iinc (q := 0) (v := x_3) (L' := [(4, .int x_3), (5, .int (nI t9)), (0, .ref a), (1, .int y), (2, .int dx), (3, .int dy)]) C dX5_rowBits_67 rfl (by rw [ex_3]; rfl) (by decide) rfl ?_
        refine m_goto (tgt := 46) C dX5_rowBits_70 (by decide) ?_
        rw [nI_1] at ex_3
        subst ex_3
        refine m_sub (L' := [(4, .int (nI (i9 + 1))), (5, .int (nI t9)), (0, .ref a), (1, .int y), (2, .int dx), (3, .int dy)]) [0, 1, 2, 3, 4, 5] rfl ?_
        refine ih (t9 - (i9 + 1)) (by omega) (i9 + 1) rfl ⟨by omega, by omega⟩ (fun x h1 h2 => ?_)
        by_cases z : x = i9
        · rw [z]; exact hz_2
        · exact hinv x h1 (by omega)
set_option maxHeartbeats 4000000 in
set_option maxRecDepth 100000 in
theorem lp_X5_rowBits2_X2 {p : Program} {l : Launch} {e : Env} {s : State} {m : MethodId} {args : Array Value} {below : List Frame} {meth : Method} {c : Code} {Q : State → Prop} {D : mD} {A : Nat → Prop} {a b : Nat} {so cx cy r : Int32} {y dx dy lf tp rt bt : Int32} {M : Mm} (h_a : M a = some (.inr (5, [.int so, .ref b, .int cx, .int cy, .int r]))) (h_b : M b = some (.inr (3, [.int lf, .int tp, .int rt, .int bt]))) {t9 i9 : Nat} (ht : t9 ≤ 64) (C : mC p m meth c cX5_rowBits 6 s args wsX5_rowBits yX5_rowBits.cls D A yX5_rowBits (some .long)) (kx : ∀ j9 : Nat, (i9 ≤ j9 ∧ j9 ≤ t9) → (∀ x, j9 ≤ x → x < t9 → hD cx cy r (nI x - dx) (y - dy) = false) → (i9 = j9 ∨ hD cx cy r (nI (j9 - 1) - dx) (y - dy) = true) → mV p l e ({ frames := 3, cells := 0, slots := 0, locals := 200 } : Room) s m args below meth c 6 D A Q M 0 0 [(5, .int (nI j9)), (4, .int (nI i9)), (0, .ref a), (1, .int y), (2, .int dx), (3, .int dy)] [] 102) : ∀ (N : Nat) (j9 : Nat), j9 = N → (i9 ≤ j9 ∧ j9 ≤ t9) → (∀ x, j9 ≤ x → x < t9 → hD cx cy r (nI x - dx) (y - dy) = false) → mV p l e ({ frames := 3, cells := 0, slots := 0, locals := 200 } : Room) s m args below meth c 6 D A Q M 0 0 [(5, .int (nI j9)), (4, .int (nI i9)), (0, .ref a), (1, .int y), (2, .int dx), (3, .int dy)] [] 73 := by
  intro N
  induction N using Nat.strongRecOn with
  | _ N ih =>
    intro j9 hN hk hinv
    refine m_iload C dX5_rowBits_73 1 rfl ?_
    refine m_iload C dX5_rowBits_75 0 rfl ?_
    refine m_icmp_ge (tgt := 102) C dX5_rowBits_77 (by decide) (fun h_1 => ?_) (fun h_1 => ?_)
    · have hit : i9 = j9 := by
        have := (nI_leI (a := j9) (b := i9) (by omega) (by omega)).mp h_1
        omega
      exact kx j9 hk hinv (Or.inl hit)
    · have hkm : i9 < j9 := by
        rcases Nat.lt_or_ge i9 j9 with z | z
        · exact z
        · exact absurd (nI_le (a := j9) (b := i9) z (by omega)) h_1
      obtain ⟨k9, rfl⟩ : ∃ k9, j9 = k9 + 1 := ⟨j9 - 1, by omega⟩
      refine m_aload_n C dX5_rowBits_80 rfl 2 rfl ?_
      refine m_iload C dX5_rowBits_81 0 rfl ?_
      refine m_iconst (v := 1) C dX5_rowBits_83 (by decide) ?_
      refine m_isub C dX5_rowBits_84 ?_
      refine m_i (y := nI k9) (nI_pred k9) ?_
      refine m_iload_n C dX5_rowBits_85 rfl 4 rfl ?_
      refine m_isub C dX5_rowBits_86 ?_
      refine m_iload_n C dX5_rowBits_87 rfl 3 rfl ?_
      refine m_iload_n C dX5_rowBits_88 rfl 5 rfl ?_
      refine m_isub C dX5_rowBits_89 ?_
      refine m_callUFi (As := [.int ((nI k9) - dx), .int (y - dy)]) (st := []) (v := bI (hD cx cy r ((nI k9) - dx) (y - dy))) C h_a rfl (c_X2_holds D A l h_a) (va_cwA 2 C.1.2.2.2.2 gX5_rowBits_X2_holds_u40X2 rfl rfl rfl C.2.1.2.2.2.2.2.2.1.2 (by decide +kernel) ⟨Nat.le_of_ble_eq_true rfl, Nat.le_of_ble_eq_true rfl⟩) rfl rfl (Nat.le_of_ble_eq_true rfl) dX5_rowBits_90 ⟨Nat.le_of_ble_eq_true rfl, Nat.le_of_ble_eq_true rfl⟩ ?_
      refine m_if_ne (tgt := 102) C dX5_rowBits_93 (by decide) (fun hz_2 => ?_) (fun hz_2 => ?_)
      · have hz_2 := bI_n hz_2
        exact kx (k9 + 1) hk hinv (Or.inr hz_2)
      · have hz_2 := bI_z hz_2
        obtain ⟨x4, ex4⟩ : ∃ y : Int32, y = nI k9 := ⟨_, rfl⟩
        refine m_iinc (q := 0) (v := x4) (L' := [(5, .int x4), (4, .int (nI i9)), (0, .ref a), (1, .int y), (2, .int dx), (3, .int dy)]) C dX5_rowBits_96 rfl (by rw [ex4, ← nI_pred k9, Int32.sub_eq_add_neg]; rfl) (by decide) rfl ?_
        subst ex4
        refine m_goto (tgt := 73) C dX5_rowBits_99 (by decide) ?_
        refine m_sub (L' := [(5, .int (nI k9)), (4, .int (nI i9)), (0, .ref a), (1, .int y), (2, .int dx), (3, .int dy)]) [0, 1, 2, 3, 4, 5] rfl ?_
        refine ih k9 (by omega) k9 rfl ⟨by omega, by omega⟩ (fun x h1 h2 => ?_)
        by_cases z : x = k9
        · rw [z]; exact hz_2
        · exact hinv x (by omega) h2
set_option maxHeartbeats 4000000 in
set_option maxRecDepth 100000 in
theorem c_X5_rowBits_X2 (D : mD) (A : Nat → Prop) (l : Launch) {a b : Nat} {so cx cy r : Int32} {y dx dy lf tp rt bt : Int32} {M : Mm} (h_a : M a = some (.inr (5, [.int so, .ref b, .int cx, .int cy, .int r]))) (h_b : M b = some (.inr (3, [.int lf, .int tp, .int rt, .int bt]))) (hcv : ∀ i j k : Nat, i ≤ j → j ≤ k → k < 64 → hD cx cy r (nI i - dx) (y - dy) = true → hD cx cy r (nI k - dx) (y - dy) = true → hD cx cy r (nI j - dx) (y - dy) = true) : mMl D A l yX5_rowBits wsX5_rowBits ({ frames := 3, cells := 0, slots := 0, locals := 200 } : Room) [.ref a, .int y, .int dx, .int dy] M (fun r9 M' => M' = M ∧ ∀ x9, x9 < 64 → bL r9 x9 = ((decide (tp ≤ y - dy) && decide (y - dy < bt)) && ((decide (lf + dx ≤ nI x9) && decide (nI x9 < rt + dx)) && hD cx cy r (nI x9 - dx) (y - dy)))) 0 0 := by
  refine m_start (cc := cX5_rowBits) (maxL := 6) (ret := (some .long)) (by decide) rfl (Nat.le_of_ble_eq_true rfl) ?_
  intro p e s m args below meth c C
  have i_X2 : ∀ w ∈ wsX20, w ∈ wsX5_rowBits := by decide +kernel
  have i_X0 : ∀ w ∈ wsX00, w ∈ wsX5_rowBits := by decide +kernel
  refine m_sub (L' := [(0, .ref a), (1, .int y), (2, .int dx), (3, .int dy)]) [0, 1, 2, 3] rfl ?_
  refine m_aload_n C dX5_rowBits_0 rfl 0 rfl ?_
  refine m_get (ref := "PaintLayers$Shape") C h_a rfl i_X2 1 (by decide) (by decide +kernel) (fun x h => h) (v := .ref b) rfl dX5_rowBits_1 ?_
  refine m_iload_n C dX5_rowBits_4 rfl 1 rfl ?_
  refine m_iload_n C dX5_rowBits_5 rfl 3 rfl ?_
  refine m_isub C dX5_rowBits_6 ?_
  refine m_callVFi (As := [.int (y - dy)]) (st := []) (v := bI (decide (tp ≤ y - dy) && decide (y - dy < bt))) C h_b rfl (c_X0_hasRow D A l h_b) (cwV 1 C.1.2.2.2.2 gX5_rowBits_X0_hasRow rfl rfl rfl (by decide +kernel) ⟨Nat.le_of_ble_eq_true rfl, Nat.le_of_ble_eq_true rfl⟩) rfl rfl (Nat.le_of_ble_eq_true rfl) dX5_rowBits_7 ⟨Nat.le_of_ble_eq_true rfl, Nat.le_of_ble_eq_true rfl⟩ ?_
  refine m_if_ne (tgt := 15) C dX5_rowBits_10 (by decide) (fun hz_1 => ?_) (fun hz_1 => ?_)
  · have hz_1 := bI_n hz_1
    refine m_aload_n C dX5_rowBits_15 rfl 0 rfl ?_
    refine m_get (ref := "PaintLayers$Shape") C h_a rfl i_X2 1 (by decide) (by decide +kernel) (fun x h => h) (v := .ref b) rfl dX5_rowBits_16 ?_
    refine m_get (ref := "PaintLayers$Box") C h_b rfl i_X0 0 (by decide) (by decide +kernel) (fun x h => h) (v := .int lf) rfl dX5_rowBits_19 ?_
    refine m_iload_n C dX5_rowBits_22 rfl 2 rfl ?_
    refine m_iadd C dX5_rowBits_23 ?_
    refine m_iconst (v := 0) C dX5_rowBits_24 (by decide) ?_
    refine m_mmax (x := (lf + dx)) (y := 0) (index := 28) C (by decide +kernel) (by decide +kernel) (by decide +kernel) (by decide +kernel) (Nat.le_of_ble_eq_true rfl) (Nat.le_of_ble_eq_true rfl) (Nat.le_of_ble_eq_true rfl) (Nat.le_of_ble_eq_true rfl) dX5_rowBits_25 ?_
    refine m_istore (L' := [(4, .int (if (lf + dx) < 0 then 0 else lf + dx)), (0, .ref a), (1, .int y), (2, .int dx), (3, .int dy)]) C dX5_rowBits_28 (by decide) rfl ?_
    refine m_aload_n C dX5_rowBits_30 rfl 1 rfl ?_
    refine m_get (ref := "PaintLayers$Shape") C h_a rfl i_X2 1 (by decide) (by decide +kernel) (fun x h => h) (v := .ref b) rfl dX5_rowBits_31 ?_
    refine m_get (ref := "PaintLayers$Box") C h_b rfl i_X0 2 (by decide) (by decide +kernel) (fun x h => h) (v := .int rt) rfl dX5_rowBits_34 ?_
    refine m_iload_n C dX5_rowBits_37 rfl 3 rfl ?_
    refine m_iadd C dX5_rowBits_38 ?_
    refine m_bipush (v := 64) C dX5_rowBits_39 (by decide) ?_
    refine m_mmin (x := (rt + dx)) (y := 64) (index := 37) C (by decide +kernel) (by decide +kernel) (by decide +kernel) (by decide +kernel) (Nat.le_of_ble_eq_true rfl) (Nat.le_of_ble_eq_true rfl) (Nat.le_of_ble_eq_true rfl) (Nat.le_of_ble_eq_true rfl) dX5_rowBits_41 ?_
    refine m_istore (L' := [(5, .int (if 64 < (rt + dx) then 64 else rt + dx)), (4, .int (if (lf + dx) < 0 then 0 else lf + dx)), (0, .ref a), (1, .int y), (2, .int dx), (3, .int dy)]) C dX5_rowBits_44 (by decide) rfl ?_
    by_cases hlt : (if (lf + dx) < 0 then 0 else lf + dx) < (if 64 < (rt + dx) then 64 else rt + dx)
    · obtain ⟨f9, t9, hft, ht, ea, eb, h9⟩ := sp_ab hlt
      rw [ea, eb]
      refine m_sub (L' := [(4, .int (nI f9)), (5, .int (nI t9)), (0, .ref a), (1, .int y), (2, .int dx), (3, .int dy)]) [1, 0, 2, 3, 4, 5] rfl ?_
      refine lp_X5_rowBits1_X2 (f0 := f9) h_a h_b ht C (fun i9 hk1 hinv1 hend1 => ?_) _ f9 rfl ⟨Nat.le_refl _, Nat.le_of_lt hft⟩ (fun x h1 h2 => absurd h2 (by omega))
      refine m_sub (L' := [(5, .int (nI t9)), (4, .int (nI i9)), (0, .ref a), (1, .int y), (2, .int dx), (3, .int dy)]) [1, 0, 2, 3, 4, 5] rfl ?_
      refine lp_X5_rowBits2_X2 (t9 := t9) (i9 := i9) h_a h_b ht C (fun j9 hk2 hinv2 hend2 => ?_) _ t9 rfl ⟨hk1.2, Nat.le_refl _⟩ (fun x h1 h2 => absurd h2 (by omega))
      refine m_iload C dX5_rowBits_102 1 rfl ?_
      refine m_iload C dX5_rowBits_104 0 rfl ?_
      refine m_callSNPl (As := [.int (nI i9), .int (nI j9)]) (st := []) C (c_X7_spanBits D A l (f := nI i9) (t := nI j9)) ⟨va_cnB 2 C.1.2.2.2.2 gX5_rowBits_X7_spanBits_n44 rfl rfl rfl C.2.1.2.2.2.2.2.2.2.1.1 (C.1.2.2.2.2 _ (by decide +kernel)) (by decide +kernel) ⟨Nat.le_of_ble_eq_true rfl, Nat.le_of_ble_eq_true rfl⟩, C.1.2.2.2.2 _ (by decide +kernel), trivial⟩ rfl rfl (Nat.le_of_ble_eq_true rfl) dX5_rowBits_106 ⟨Nat.le_of_ble_eq_true rfl, Nat.le_of_ble_eq_true rfl⟩ (fun r9 hr9 => ?_)
      exact m_lret C (Nat.le_of_ble_eq_true rfl) (Nat.le_of_ble_eq_true rfl) dX5_rowBits_109 (⟨rfl, fun x9 hx9 => by
    have e1 : (decide (nI i9 ≤ nI x9) && decide (nI x9 < nI j9)) = (decide (i9 ≤ x9) && decide (x9 < j9)) := by
      rw [decide_eq_decide.mpr (nI_leI (a := i9) (b := x9) (by omega) (by omega)), decide_eq_decide.mpr (nI_ltI (a := x9) (b := j9) (by omega) (by omega))]
    have e2 := sp_hull (lo := f9) (hi := t9) (i := i9) (j := j9) (h := fun x => hD cx cy r (nI x - dx) (y - dy)) hcv ⟨hk1.1, hk2.1, hk2.2, ht⟩ hinv1 hinv2 (by
      rcases hend2 with z | z
      · exact Or.inl z
      · by_cases w : i9 = j9
        · exact Or.inl w
        · rcases hend1 with u | u
          · omega
          · exact Or.inr ⟨u, z⟩) x9
    rw [hr9 x9 hx9, e1, e2, hz_1, Bool.true_and, h9 x9 hx9]⟩)
    · refine m_iload C dX5_rowBits_46 1 rfl ?_
      refine m_iload C dX5_rowBits_48 0 rfl ?_
      refine m_icmp_ge (tgt := 73) C dX5_rowBits_50 (by decide) (fun h_2 => ?_) (fun h_2 => ?_)
      · refine m_iload C dX5_rowBits_73 1 rfl ?_
        refine m_iload C dX5_rowBits_75 0 rfl ?_
        refine m_icmp_ge (tgt := 102) C dX5_rowBits_77 (by decide) (fun h_3 => ?_) (fun h_3 => ?_)
        · refine m_iload C dX5_rowBits_102 1 rfl ?_
          refine m_iload C dX5_rowBits_104 0 rfl ?_
          refine m_callSNPl (As := [.int (if (lf + dx) < 0 then 0 else lf + dx), .int (if 64 < (rt + dx) then 64 else rt + dx)]) (st := []) C (c_X7_spanBits D A l (f := if (lf + dx) < 0 then 0 else lf + dx) (t := if 64 < (rt + dx) then 64 else rt + dx)) ⟨va_cnB 2 C.1.2.2.2.2 gX5_rowBits_X7_spanBits_n44 rfl rfl rfl C.2.1.2.2.2.2.2.2.2.1.1 (C.1.2.2.2.2 _ (by decide +kernel)) (by decide +kernel) ⟨Nat.le_of_ble_eq_true rfl, Nat.le_of_ble_eq_true rfl⟩, C.1.2.2.2.2 _ (by decide +kernel), trivial⟩ rfl rfl (Nat.le_of_ble_eq_true rfl) dX5_rowBits_106 ⟨Nat.le_of_ble_eq_true rfl, Nat.le_of_ble_eq_true rfl⟩ (fun r9 hr9 => ?_)
          exact m_lret C (Nat.le_of_ble_eq_true rfl) (Nat.le_of_ble_eq_true rfl) dX5_rowBits_109 (⟨rfl, fun x9 hx9 => by rw [hr9 x9 hx9, sp_no2 hlt x9, sp_no hlt x9 hx9, Bool.false_and, Bool.and_false]⟩)
        · exact absurd (Int32.not_le.mp h_3) hlt
      · exact absurd (Int32.not_le.mp h_2) hlt
  · have hz_1 := bI_z hz_1
    refine m_lconst (v := 0) C dX5_rowBits_13 rfl ?_
    exact m_lret C (Nat.le_of_ble_eq_true rfl) (Nat.le_of_ble_eq_true rfl) dX5_rowBits_14 (⟨rfl, fun x9 hx9 => by rw [hz_1, Bool.false_and]; exact bL_0 x9⟩)
set_option maxHeartbeats 4000000 in
set_option maxRecDepth 100000 in
theorem lp_X5_rowBits1_X6 {p : Program} {l : Launch} {e : Env} {s : State} {m : MethodId} {args : Array Value} {below : List Frame} {meth : Method} {c : Code} {Q : State → Prop} {D : mD} {A : Nat → Prop} {a b ca cb cc : Nat} {so ax ay bx bz cx cz : Int32} {y dx dy lf tp rt bt : Int32} {M : Mm} (h_a : M a = some (.inr (8, [.int so, .ref b, .ref ca, .ref cb, .ref cc]))) (h_b : M b = some (.inr (3, [.int lf, .int tp, .int rt, .int bt]))) (h_ca : M ca = some (.inr (4, [.int ax, .int ay]))) (h_cb : M cb = some (.inr (4, [.int bx, .int bz]))) (h_cc : M cc = some (.inr (4, [.int cx, .int cz]))) {t9 f0 : Nat} (ht : t9 ≤ 64) (C : mC p m meth c cX5_rowBits 6 s args wsX5_rowBits yX5_rowBits.cls D A yX5_rowBits (some .long)) (kx : ∀ i9 : Nat, (f0 ≤ i9 ∧ i9 ≤ t9) → (∀ x, f0 ≤ x → x < i9 → hT ax ay bx bz cx cz (nI x - dx) (y - dy) = false) → (i9 = t9 ∨ hT ax ay bx bz cx cz (nI i9 - dx) (y - dy) = true) → mV p l e ({ frames := 3, cells := 0, slots := 0, locals := 200 } : Room) s m args below meth c 6 D A Q M 0 0 [(4, .int (nI i9)), (5, .int (nI t9)), (0, .ref a), (1, .int y), (2, .int dx), (3, .int dy)] [] 73) : ∀ (N : Nat) (i9 : Nat), t9 - i9 = N → (f0 ≤ i9 ∧ i9 ≤ t9) → (∀ x, f0 ≤ x → x < i9 → hT ax ay bx bz cx cz (nI x - dx) (y - dy) = false) → mV p l e ({ frames := 3, cells := 0, slots := 0, locals := 200 } : Room) s m args below meth c 6 D A Q M 0 0 [(4, .int (nI i9)), (5, .int (nI t9)), (0, .ref a), (1, .int y), (2, .int dx), (3, .int dy)] [] 46 := by
  intro N
  induction N using Nat.strongRecOn with
  | _ N ih =>
    intro i9 hN hk hinv
    refine m_iload C dX5_rowBits_46 0 rfl ?_
    refine m_iload C dX5_rowBits_48 1 rfl ?_
    refine m_icmp_ge (tgt := 73) C dX5_rowBits_50 (by decide) (fun h_1 => ?_) (fun h_1 => ?_)
    · have hit : i9 = t9 := by
        have := (nI_leI (a := t9) (b := i9) (by omega) (by omega)).mp h_1
        omega
      exact kx i9 hk hinv (Or.inl hit)
    · have hkm : i9 < t9 := by
        rcases Nat.lt_or_ge i9 t9 with z | z
        · exact z
        · exact absurd (nI_le (a := t9) (b := i9) z (by omega)) h_1
      refine m_aload_n C dX5_rowBits_53 rfl 2 rfl ?_
      refine m_iload C dX5_rowBits_54 0 rfl ?_
      refine m_iload_n C dX5_rowBits_56 rfl 4 rfl ?_
      refine m_isub C dX5_rowBits_57 ?_
      refine m_iload_n C dX5_rowBits_58 rfl 3 rfl ?_
      refine m_iload_n C dX5_rowBits_59 rfl 5 rfl ?_
      refine m_isub C dX5_rowBits_60 ?_
      refine m_callUFi (As := [.int ((nI i9) - dx), .int (y - dy)]) (st := []) (v := bI (hT ax ay bx bz cx cz ((nI i9) - dx) (y - dy))) C h_a rfl (c_X6_holds D A l h_a h_ca h_cb h_cc) (va_cwA 2 C.1.2.2.2.2 gX5_rowBits_X6_holds_u40X6 rfl rfl rfl C.2.1.2.2.2.2.2.2.1.2 (by decide +kernel) ⟨Nat.le_of_ble_eq_true rfl, Nat.le_of_ble_eq_true rfl⟩) rfl rfl (Nat.le_of_ble_eq_true rfl) dX5_rowBits_61 ⟨Nat.le_of_ble_eq_true rfl, Nat.le_of_ble_eq_true rfl⟩ ?_
      refine m_if_ne (tgt := 73) C dX5_rowBits_64 (by decide) (fun hz_2 => ?_) (fun hz_2 => ?_)
      · have hz_2 := bI_n hz_2
        exact kx i9 hk hinv (Or.inr hz_2)
      · have hz_2 := bI_z hz_2
        obtain ⟨x_3, ex_3⟩ : ∃ z : Int32, z = nI i9 + 1 := ⟨_, rfl⟩
        refine m_iinc (q := 0) (v := x_3) (L' := [(4, .int x_3), (5, .int (nI t9)), (0, .ref a), (1, .int y), (2, .int dx), (3, .int dy)]) C dX5_rowBits_67 rfl (by rw [ex_3]; rfl) (by decide) rfl ?_
        refine m_goto (tgt := 46) C dX5_rowBits_70 (by decide) ?_
        rw [nI_1] at ex_3
        subst ex_3
        refine m_sub (L' := [(4, .int (nI (i9 + 1))), (5, .int (nI t9)), (0, .ref a), (1, .int y), (2, .int dx), (3, .int dy)]) [0, 1, 2, 3, 4, 5] rfl ?_
        refine ih (t9 - (i9 + 1)) (by omega) (i9 + 1) rfl ⟨by omega, by omega⟩ (fun x h1 h2 => ?_)
        by_cases z : x = i9
        · rw [z]; exact hz_2
        · exact hinv x h1 (by omega)
set_option maxHeartbeats 4000000 in
set_option maxRecDepth 100000 in
theorem lp_X5_rowBits2_X6 {p : Program} {l : Launch} {e : Env} {s : State} {m : MethodId} {args : Array Value} {below : List Frame} {meth : Method} {c : Code} {Q : State → Prop} {D : mD} {A : Nat → Prop} {a b ca cb cc : Nat} {so ax ay bx bz cx cz : Int32} {y dx dy lf tp rt bt : Int32} {M : Mm} (h_a : M a = some (.inr (8, [.int so, .ref b, .ref ca, .ref cb, .ref cc]))) (h_b : M b = some (.inr (3, [.int lf, .int tp, .int rt, .int bt]))) (h_ca : M ca = some (.inr (4, [.int ax, .int ay]))) (h_cb : M cb = some (.inr (4, [.int bx, .int bz]))) (h_cc : M cc = some (.inr (4, [.int cx, .int cz]))) {t9 i9 : Nat} (ht : t9 ≤ 64) (C : mC p m meth c cX5_rowBits 6 s args wsX5_rowBits yX5_rowBits.cls D A yX5_rowBits (some .long)) (kx : ∀ j9 : Nat, (i9 ≤ j9 ∧ j9 ≤ t9) → (∀ x, j9 ≤ x → x < t9 → hT ax ay bx bz cx cz (nI x - dx) (y - dy) = false) → (i9 = j9 ∨ hT ax ay bx bz cx cz (nI (j9 - 1) - dx) (y - dy) = true) → mV p l e ({ frames := 3, cells := 0, slots := 0, locals := 200 } : Room) s m args below meth c 6 D A Q M 0 0 [(5, .int (nI j9)), (4, .int (nI i9)), (0, .ref a), (1, .int y), (2, .int dx), (3, .int dy)] [] 102) : ∀ (N : Nat) (j9 : Nat), j9 = N → (i9 ≤ j9 ∧ j9 ≤ t9) → (∀ x, j9 ≤ x → x < t9 → hT ax ay bx bz cx cz (nI x - dx) (y - dy) = false) → mV p l e ({ frames := 3, cells := 0, slots := 0, locals := 200 } : Room) s m args below meth c 6 D A Q M 0 0 [(5, .int (nI j9)), (4, .int (nI i9)), (0, .ref a), (1, .int y), (2, .int dx), (3, .int dy)] [] 73 := by
  intro N
  induction N using Nat.strongRecOn with
  | _ N ih =>
    intro j9 hN hk hinv
    refine m_iload C dX5_rowBits_73 1 rfl ?_
    refine m_iload C dX5_rowBits_75 0 rfl ?_
    refine m_icmp_ge (tgt := 102) C dX5_rowBits_77 (by decide) (fun h_1 => ?_) (fun h_1 => ?_)
    · have hit : i9 = j9 := by
        have := (nI_leI (a := j9) (b := i9) (by omega) (by omega)).mp h_1
        omega
      exact kx j9 hk hinv (Or.inl hit)
    · have hkm : i9 < j9 := by
        rcases Nat.lt_or_ge i9 j9 with z | z
        · exact z
        · exact absurd (nI_le (a := j9) (b := i9) z (by omega)) h_1
      obtain ⟨k9, rfl⟩ : ∃ k9, j9 = k9 + 1 := ⟨j9 - 1, by omega⟩
      refine m_aload_n C dX5_rowBits_80 rfl 2 rfl ?_
      refine m_iload C dX5_rowBits_81 0 rfl ?_
      refine m_iconst (v := 1) C dX5_rowBits_83 (by decide) ?_
      refine m_isub C dX5_rowBits_84 ?_
      refine m_i (y := nI k9) (nI_pred k9) ?_
      refine m_iload_n C dX5_rowBits_85 rfl 4 rfl ?_
      refine m_isub C dX5_rowBits_86 ?_
      refine m_iload_n C dX5_rowBits_87 rfl 3 rfl ?_
      refine m_iload_n C dX5_rowBits_88 rfl 5 rfl ?_
      refine m_isub C dX5_rowBits_89 ?_
      refine m_callUFi (As := [.int ((nI k9) - dx), .int (y - dy)]) (st := []) (v := bI (hT ax ay bx bz cx cz ((nI k9) - dx) (y - dy))) C h_a rfl (c_X6_holds D A l h_a h_ca h_cb h_cc) (va_cwA 2 C.1.2.2.2.2 gX5_rowBits_X6_holds_u40X6 rfl rfl rfl C.2.1.2.2.2.2.2.2.1.2 (by decide +kernel) ⟨Nat.le_of_ble_eq_true rfl, Nat.le_of_ble_eq_true rfl⟩) rfl rfl (Nat.le_of_ble_eq_true rfl) dX5_rowBits_90 ⟨Nat.le_of_ble_eq_true rfl, Nat.le_of_ble_eq_true rfl⟩ ?_
      refine m_if_ne (tgt := 102) C dX5_rowBits_93 (by decide) (fun hz_2 => ?_) (fun hz_2 => ?_)
      · have hz_2 := bI_n hz_2
        exact kx (k9 + 1) hk hinv (Or.inr hz_2)
      · have hz_2 := bI_z hz_2
        obtain ⟨x4, ex4⟩ : ∃ y : Int32, y = nI k9 := ⟨_, rfl⟩
        refine m_iinc (q := 0) (v := x4) (L' := [(5, .int x4), (4, .int (nI i9)), (0, .ref a), (1, .int y), (2, .int dx), (3, .int dy)]) C dX5_rowBits_96 rfl (by rw [ex4, ← nI_pred k9, Int32.sub_eq_add_neg]; rfl) (by decide) rfl ?_
        subst ex4
        refine m_goto (tgt := 73) C dX5_rowBits_99 (by decide) ?_
        refine m_sub (L' := [(5, .int (nI k9)), (4, .int (nI i9)), (0, .ref a), (1, .int y), (2, .int dx), (3, .int dy)]) [0, 1, 2, 3, 4, 5] rfl ?_
        refine ih k9 (by omega) k9 rfl ⟨by omega, by omega⟩ (fun x h1 h2 => ?_)
        by_cases z : x = k9
        · rw [z]; exact hz_2
        · exact hinv x (by omega) h2
set_option maxHeartbeats 4000000 in
set_option maxRecDepth 100000 in
theorem c_X5_rowBits_X6 (D : mD) (A : Nat → Prop) (l : Launch) {a b ca cb cc : Nat} {so ax ay bx bz cx cz : Int32} {y dx dy lf tp rt bt : Int32} {M : Mm} (h_a : M a = some (.inr (8, [.int so, .ref b, .ref ca, .ref cb, .ref cc]))) (h_b : M b = some (.inr (3, [.int lf, .int tp, .int rt, .int bt]))) (h_ca : M ca = some (.inr (4, [.int ax, .int ay]))) (h_cb : M cb = some (.inr (4, [.int bx, .int bz]))) (h_cc : M cc = some (.inr (4, [.int cx, .int cz]))) (hcv : ∀ i j k : Nat, i ≤ j → j ≤ k → k < 64 → hT ax ay bx bz cx cz (nI i - dx) (y - dy) = true → hT ax ay bx bz cx cz (nI k - dx) (y - dy) = true → hT ax ay bx bz cx cz (nI j - dx) (y - dy) = true) : mMl D A l yX5_rowBits wsX5_rowBits ({ frames := 3, cells := 0, slots := 0, locals := 200 } : Room) [.ref a, .int y, .int dx, .int dy] M (fun r9 M' => M' = M ∧ ∀ x9, x9 < 64 → bL r9 x9 = ((decide (tp ≤ y - dy) && decide (y - dy < bt)) && ((decide (lf + dx ≤ nI x9) && decide (nI x9 < rt + dx)) && hT ax ay bx bz cx cz (nI x9 - dx) (y - dy)))) 0 0 := by
  refine m_start (cc := cX5_rowBits) (maxL := 6) (ret := (some .long)) (by decide) rfl (Nat.le_of_ble_eq_true rfl) ?_
  intro p e s m args below meth c C
  have i_X6 : ∀ w ∈ wsX60, w ∈ wsX5_rowBits := by decide +kernel
  have i_X0 : ∀ w ∈ wsX00, w ∈ wsX5_rowBits := by decide +kernel
  refine m_sub (L' := [(0, .ref a), (1, .int y), (2, .int dx), (3, .int dy)]) [0, 1, 2, 3] rfl ?_
  refine m_aload_n C dX5_rowBits_0 rfl 0 rfl ?_
  refine m_get (ref := "PaintLayers$Shape") C h_a rfl i_X6 1 (by decide) (by decide +kernel) (fun x h => h) (v := .ref b) rfl dX5_rowBits_1 ?_
  refine m_iload_n C dX5_rowBits_4 rfl 1 rfl ?_
  refine m_iload_n C dX5_rowBits_5 rfl 3 rfl ?_
  refine m_isub C dX5_rowBits_6 ?_
  refine m_callVFi (As := [.int (y - dy)]) (st := []) (v := bI (decide (tp ≤ y - dy) && decide (y - dy < bt))) C h_b rfl (c_X0_hasRow D A l h_b) (cwV 1 C.1.2.2.2.2 gX5_rowBits_X0_hasRow rfl rfl rfl (by decide +kernel) ⟨Nat.le_of_ble_eq_true rfl, Nat.le_of_ble_eq_true rfl⟩) rfl rfl (Nat.le_of_ble_eq_true rfl) dX5_rowBits_7 ⟨Nat.le_of_ble_eq_true rfl, Nat.le_of_ble_eq_true rfl⟩ ?_
  refine m_if_ne (tgt := 15) C dX5_rowBits_10 (by decide) (fun hz_1 => ?_) (fun hz_1 => ?_)
  · have hz_1 := bI_n hz_1
    refine m_aload_n C dX5_rowBits_15 rfl 0 rfl ?_
    refine m_get (ref := "PaintLayers$Shape") C h_a rfl i_X6 1 (by decide) (by decide +kernel) (fun x h => h) (v := .ref b) rfl dX5_rowBits_16 ?_
    refine m_get (ref := "PaintLayers$Box") C h_b rfl i_X0 0 (by decide) (by decide +kernel) (fun x h => h) (v := .int lf) rfl dX5_rowBits_19 ?_
    refine m_iload_n C dX5_rowBits_22 rfl 2 rfl ?_
    refine m_iadd C dX5_rowBits_23 ?_
    refine m_iconst (v := 0) C dX5_rowBits_24 (by decide) ?_
    refine m_mmax (x := (lf + dx)) (y := 0) (index := 28) C (by decide +kernel) (by decide +kernel) (by decide +kernel) (by decide +kernel) (Nat.le_of_ble_eq_true rfl) (Nat.le_of_ble_eq_true rfl) (Nat.le_of_ble_eq_true rfl) (Nat.le_of_ble_eq_true rfl) dX5_rowBits_25 ?_
    refine m_istore (L' := [(4, .int (if (lf + dx) < 0 then 0 else lf + dx)), (0, .ref a), (1, .int y), (2, .int dx), (3, .int dy)]) C dX5_rowBits_28 (by decide) rfl ?_
    refine m_aload_n C dX5_rowBits_30 rfl 1 rfl ?_
    refine m_get (ref := "PaintLayers$Shape") C h_a rfl i_X6 1 (by decide) (by decide +kernel) (fun x h => h) (v := .ref b) rfl dX5_rowBits_31 ?_
    refine m_get (ref := "PaintLayers$Box") C h_b rfl i_X0 2 (by decide) (by decide +kernel) (fun x h => h) (v := .int rt) rfl dX5_rowBits_34 ?_
    refine m_iload_n C dX5_rowBits_37 rfl 3 rfl ?_
    refine m_iadd C dX5_rowBits_38 ?_
    refine m_bipush (v := 64) C dX5_rowBits_39 (by decide) ?_
    refine m_mmin (x := (rt + dx)) (y := 64) (index := 37) C (by decide +kernel) (by decide +kernel) (by decide +kernel) (by decide +kernel) (Nat.le_of_ble_eq_true rfl) (Nat.le_of_ble_eq_true rfl) (Nat.le_of_ble_eq_true rfl) (Nat.le_of_ble_eq_true rfl) dX5_rowBits_41 ?_
    refine m_istore (L' := [(5, .int (if 64 < (rt + dx) then 64 else rt + dx)), (4, .int (if (lf + dx) < 0 then 0 else lf + dx)), (0, .ref a), (1, .int y), (2, .int dx), (3, .int dy)]) C dX5_rowBits_44 (by decide) rfl ?_
    by_cases hlt : (if (lf + dx) < 0 then 0 else lf + dx) < (if 64 < (rt + dx) then 64 else rt + dx)
    · obtain ⟨f9, t9, hft, ht, ea, eb, h9⟩ := sp_ab hlt
      rw [ea, eb]
      refine m_sub (L' := [(4, .int (nI f9)), (5, .int (nI t9)), (0, .ref a), (1, .int y), (2, .int dx), (3, .int dy)]) [1, 0, 2, 3, 4, 5] rfl ?_
      refine lp_X5_rowBits1_X6 (f0 := f9) h_a h_b h_ca h_cb h_cc ht C (fun i9 hk1 hinv1 hend1 => ?_) _ f9 rfl ⟨Nat.le_refl _, Nat.le_of_lt hft⟩ (fun x h1 h2 => absurd h2 (by omega))
      refine m_sub (L' := [(5, .int (nI t9)), (4, .int (nI i9)), (0, .ref a), (1, .int y), (2, .int dx), (3, .int dy)]) [1, 0, 2, 3, 4, 5] rfl ?_
      refine lp_X5_rowBits2_X6 (t9 := t9) (i9 := i9) h_a h_b h_ca h_cb h_cc ht C (fun j9 hk2 hinv2 hend2 => ?_) _ t9 rfl ⟨hk1.2, Nat.le_refl _⟩ (fun x h1 h2 => absurd h2 (by omega))
      refine m_iload C dX5_rowBits_102 1 rfl ?_
      refine m_iload C dX5_rowBits_104 0 rfl ?_
      refine m_callSNPl (As := [.int (nI i9), .int (nI j9)]) (st := []) C (c_X7_spanBits D A l (f := nI i9) (t := nI j9)) ⟨va_cnB 2 C.1.2.2.2.2 gX5_rowBits_X7_spanBits_n44 rfl rfl rfl C.2.1.2.2.2.2.2.2.2.1.1 (C.1.2.2.2.2 _ (by decide +kernel)) (by decide +kernel) ⟨Nat.le_of_ble_eq_true rfl, Nat.le_of_ble_eq_true rfl⟩, C.1.2.2.2.2 _ (by decide +kernel), trivial⟩ rfl rfl (Nat.le_of_ble_eq_true rfl) dX5_rowBits_106 ⟨Nat.le_of_ble_eq_true rfl, Nat.le_of_ble_eq_true rfl⟩ (fun r9 hr9 => ?_)
      exact m_lret C (Nat.le_of_ble_eq_true rfl) (Nat.le_of_ble_eq_true rfl) dX5_rowBits_109 (⟨rfl, fun x9 hx9 => by
    have e1 : (decide (nI i9 ≤ nI x9) && decide (nI x9 < nI j9)) = (decide (i9 ≤ x9) && decide (x9 < j9)) := by
      rw [decide_eq_decide.mpr (nI_leI (a := i9) (b := x9) (by omega) (by omega)), decide_eq_decide.mpr (nI_ltI (a := x9) (b := j9) (by omega) (by omega))]
    have e2 := sp_hull (lo := f9) (hi := t9) (i := i9) (j := j9) (h := fun x => hT ax ay bx bz cx cz (nI x - dx) (y - dy)) hcv ⟨hk1.1, hk2.1, hk2.2, ht⟩ hinv1 hinv2 (by
      rcases hend2 with z | z
      · exact Or.inl z
      · by_cases w : i9 = j9
        · exact Or.inl w
        · rcases hend1 with u | u
          · omega
          · exact Or.inr ⟨u, z⟩) x9
    rw [hr9 x9 hx9, e1, e2, hz_1, Bool.true_and, h9 x9 hx9]⟩)
    · refine m_iload C dX5_rowBits_46 1 rfl ?_
      refine m_iload C dX5_rowBits_48 0 rfl ?_
      refine m_icmp_ge (tgt := 73) C dX5_rowBits_50 (by decide) (fun h_2 => ?_) (fun h_2 => ?_)
      · refine m_iload C dX5_rowBits_73 1 rfl ?_
        refine m_iload C dX5_rowBits_75 0 rfl ?_
        refine m_icmp_ge (tgt := 102) C dX5_rowBits_77 (by decide) (fun h_3 => ?_) (fun h_3 => ?_)
        · refine m_iload C dX5_rowBits_102 1 rfl ?_
          refine m_iload C dX5_rowBits_104 0 rfl ?_
          refine m_callSNPl (As := [.int (if (lf + dx) < 0 then 0 else lf + dx), .int (if 64 < (rt + dx) then 64 else rt + dx)]) (st := []) C (c_X7_spanBits D A l (f := if (lf + dx) < 0 then 0 else lf + dx) (t := if 64 < (rt + dx) then 64 else rt + dx)) ⟨va_cnB 2 C.1.2.2.2.2 gX5_rowBits_X7_spanBits_n44 rfl rfl rfl C.2.1.2.2.2.2.2.2.2.1.1 (C.1.2.2.2.2 _ (by decide +kernel)) (by decide +kernel) ⟨Nat.le_of_ble_eq_true rfl, Nat.le_of_ble_eq_true rfl⟩, C.1.2.2.2.2 _ (by decide +kernel), trivial⟩ rfl rfl (Nat.le_of_ble_eq_true rfl) dX5_rowBits_106 ⟨Nat.le_of_ble_eq_true rfl, Nat.le_of_ble_eq_true rfl⟩ (fun r9 hr9 => ?_)
          exact m_lret C (Nat.le_of_ble_eq_true rfl) (Nat.le_of_ble_eq_true rfl) dX5_rowBits_109 (⟨rfl, fun x9 hx9 => by rw [hr9 x9 hx9, sp_no2 hlt x9, sp_no hlt x9 hx9, Bool.false_and, Bool.and_false]⟩)
        · exact absurd (Int32.not_le.mp h_3) hlt
      · exact absurd (Int32.not_le.mp h_2) hlt
  · have hz_1 := bI_z hz_1
    refine m_lconst (v := 0) C dX5_rowBits_13 rfl ?_
    exact m_lret C (Nat.le_of_ble_eq_true rfl) (Nat.le_of_ble_eq_true rfl) dX5_rowBits_14 (⟨rfl, fun x9 hx9 => by rw [hz_1, Bool.false_and]; exact bL_0 x9⟩)

