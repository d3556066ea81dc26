/-! ===== the class: within, places, over its world alone; taking a node out ===== -/
theorem cW.kd9 {D : mD} {Z : Nat → Nat} {cm : Nat} {ar : rA} {fs : Nat → List Value} {ls : Nat → List Nat} {na : Nat → Option Nat} {cv rw : Nat → Int32} {mf : List Value} {F M : Mm} (h : cW D Z (cP ar cm) fs ls na cv rw mf F M) {n : Nat} (hn : cP ar cm n) (hl : ls n = kids ar n) : ∃ (b cap : Nat) (f : Nat → Option Nat) (mc : Int32), M (Z (200 + n)) = some (jLs mc b (mny ar n)) ∧ jB D b cap f M ∧ mny ar n ≤ cap ∧ cap ≤ 60 ∧ ∀ k, k < mny ar n → f k = some (Z (100 + kid ar n k)) := by
  obtain ⟨b, cap, f, mc, ⟨h1, h2, h3, h4⟩, -, -⟩ := h.lst (i := n) (Or.inr hn)
  rw [hl, kids_len] at h1 h3 h4
  exact ⟨b, cap, f, mc, h1, h2, h3, h2.cap, fun k hk => by rw [h4 k hk, kids_at hk]⟩
set_option maxHeartbeats 4000000 in
set_option maxRecDepth 100000 in
theorem lp_X7_isWithinW {p : Program} {l : Launch} {e : Env} {s : State} {m : MethodId} {args : Array Value} {below : List Frame} {meth : Method} {c : Code} {Q : State → Prop} {D : mD} {A : Nat → Prop} {Z : Nat → Nat} {F : Mm} {cm : Nat} {ar : rA} {fi : Nat → Nat → Int32} {nl : Nat → Nat → Int64} {ls : Nat → List Nat} {na : Nat → Option Nat} {cv rw : Nat → Int32} {mf : List Value} {M : Mm} (hR : cW D Z (cP ar cm) (nF Z ar fi nl) ls na cv rw mf F M) (hcm : cm ≤ 40) (hw : wf ar cm) (i_X3 : ∀ w ∈ wsX30, w ∈ wsX7_isWithin) {t : Nat} (ht : cP ar cm t) {B : Bool} (C : mC p m meth c cX7_isWithin 3 s args wsX7_isWithin yX7_isWithin.cls D A yX7_isWithin (some .boolean)) (k12 : B = true → mV p l e ({ frames := 0, cells := 0, slots := 0, locals := 0 } : Room) s m args below meth c 3 D A Q M 0 0 [(1, .ref (Z (100 + t)))] [.int 1] 12) (k22 : B = false → mV p l e ({ frames := 0, cells := 0, slots := 0, locals := 0 } : Room) s m args below meth c 3 D A Q M 0 0 [(1, .ref (Z (100 + t)))] [.int 0] 22) : ∀ (N : Nat) (x9 : Nat), (chn ar x9).length = N → (cP ar cm x9) → (decide (t ∈ chn ar x9) = B) → mV p l e ({ frames := 0, cells := 0, slots := 0, locals := 0 } : Room) s m args below meth c 3 D A Q M 0 0 [(2, .ref (Z (100 + x9))), (1, .ref (Z (100 + t)))] [] 2 := by
  intro N
  induction N using Nat.strongRecOn with
  | _ N ih =>
    intro x9 hN hx9 hB
    refine m_aload_n C dX7_isWithin_2 rfl 0 rfl ?_
    refine m_ifnull (x := some (Z (100 + x9))) (tgt := 21) C dX7_isWithin_3 (by decide) (fun h => absurd h (by simp)) (fun _ _ => ?_)
    refine m_aload_n C dX7_isWithin_6 rfl 0 rfl ?_
    refine m_aload_n C dX7_isWithin_7 rfl 1 rfl ?_
    refine m_acmp_ne (x := some (Z (100 + x9))) (y := some (Z (100 + t))) (tgt := 13) C dX7_isWithin_8 (by decide) (fun h_1 => ?_) (fun h_1 => ?_)
    · have hxt : ¬ x9 = t := fun z => h_1 (by rw [z])
      refine m_aload_n C dX7_isWithin_13 rfl 0 rfl ?_
      refine m_get (ref := "PaintLayers$Node") C (hR.nd hx9) rfl i_X3 3 (by decide) (by decide +kernel) (fun x h => h) (v := va_rf (nPa Z ar x9)) rfl dX7_isWithin_14 ?_
      by_cases h0 : x9 = 0
      · rw [show nPa Z ar x9 = none from if_pos h0]
        refine m_astore_nq (x := none) (L' := [(2, .null), (1, .ref (Z (100 + t)))]) C dX7_isWithin_17 rfl (by decide) rfl ?_
        refine m_goto (tgt := 2) C dX7_isWithin_18 (by decide) ?_
        refine m_aload_nq (x := none) C dX7_isWithin_2 rfl 0 rfl ?_
        refine m_ifnull (x := none) (tgt := 21) C dX7_isWithin_3 (by decide) (fun _ => ?_) (fun q h => absurd h (by simp))
        refine m_iconst (v := 0) C dX7_isWithin_21 (by decide) ?_
        refine m_sub (L' := [(1, .ref (Z (100 + t)))]) [1] rfl ?_
        exact k22 (by rw [← hB, h0, wf_ch0 hw]; exact decide_eq_false (by simp; exact fun z => hxt (by rw [h0, z])))
      · obtain ⟨hch, hp1, hp2⟩ := wf_chp hw hx9.1 hx9.2 h0
        rw [show nPa Z ar x9 = some (Z (100 + par9 ar x9)) from if_neg h0]
        refine m_astore_n (L' := [(2, .ref (Z (100 + par9 ar x9))), (1, .ref (Z (100 + t)))]) C dX7_isWithin_17 rfl (by decide) rfl ?_
        refine m_goto (tgt := 2) C dX7_isWithin_18 (by decide) ?_
        refine m_sub (L' := [(2, .ref (Z (100 + par9 ar x9))), (1, .ref (Z (100 + t)))]) [0, 1] rfl ?_
        exact ih (chn ar (par9 ar x9)).length (by rw [← hN, hch]; simp) (par9 ar x9) rfl ⟨hp1, hp2⟩ (by rw [← hB, decide_eq_decide, hch]; simp; exact fun z => absurd z.symm hxt)
    · have hxt : x9 = t := hR.inj hx9 ht (Option.some.inj h_1)
      refine m_iconst (v := 1) C dX7_isWithin_11 (by decide) ?_
      refine m_sub (L' := [(1, .ref (Z (100 + t)))]) [1] rfl ?_
      exact k12 (by rw [← hB, hxt]; exact decide_eq_true (wf_self hw ht.1 ht.2))
set_option maxHeartbeats 4000000 in
set_option maxRecDepth 100000 in
theorem c_X7_isWithin_w (D : mD) (A : Nat → Prop) (l : Launch) {Z : Nat → Nat} {F : Mm} {cm : Nat} {ar : rA} {fi : Nat → Nat → Int32} {nl : Nat → Nat → Int64} {ls : Nat → List Nat} {na : Nat → Option Nat} {cv rw : Nat → Int32} {mf : List Value} {M : Mm} (hR : cW D Z (cP ar cm) (nF Z ar fi nl) ls na cv rw mf F M) (hcm : cm ≤ 40) (hw : wf ar cm) {n t : Nat} (hn : cP ar cm n) (ht : cP ar cm t) : mMi D A l yX7_isWithin wsX7_isWithin ({ frames := 0, cells := 0, slots := 0, locals := 0 } : Room) [.ref (Z (100 + n)), .ref (Z (100 + t))] M (fun r M' => M' = M ∧ r = bI (decide (t ∈ chn ar n))) 0 0 := by
  refine m_start (cc := cX7_isWithin) (maxL := 3) (ret := (some .boolean)) (by decide) rfl (Nat.le_of_ble_eq_true rfl) ?_
  intro p e s m args below meth c C
  have i_X3 : ∀ w ∈ wsX30, w ∈ wsX7_isWithin := by decide +kernel
  refine m_sub (L' := [(0, .ref (Z (100 + n))), (1, .ref (Z (100 + t)))]) [0, 1] rfl ?_
  refine m_aload_n C dX7_isWithin_0 rfl 0 rfl ?_
  refine m_astore_n (L' := [(2, .ref (Z (100 + n))), (0, .ref (Z (100 + n))), (1, .ref (Z (100 + t)))]) C dX7_isWithin_1 rfl (by decide) rfl ?_
  refine m_sub (L' := [(2, .ref (Z (100 + n))), (1, .ref (Z (100 + t)))]) [0, 2] rfl ?_
  refine lp_X7_isWithinW hR hcm hw i_X3 ht (B := decide (t ∈ chn ar n)) C (fun hB => ?_) (fun hB => ?_) _ n rfl hn rfl
  · exact m_zret C (Nat.le_of_ble_eq_true rfl) (Nat.le_of_ble_eq_true rfl) dX7_isWithin_12 (Or.inr rfl) (⟨rfl, by rw [hB]; rfl⟩)
  · exact m_zret C (Nat.le_of_ble_eq_true rfl) (Nat.le_of_ble_eq_true rfl) dX7_isWithin_22 (Or.inl rfl) (⟨rfl, by rw [hB]; rfl⟩)
set_option maxHeartbeats 4000000 in
set_option maxRecDepth 100000 in
theorem lp_X7_placeAmongW {p : Program} {l : Launch} {e : Env} {s : State} {m : MethodId} {args : Array Value} {below : List Frame} {meth : Method} {c : Code} {Q : State → Prop} {D : mD} {A : Nat → Prop} {Z : Nat → Nat} {F : Mm} {cm : Nat} {ar : rA} {fi : Nat → Nat → Int32} {nl : Nat → Nat → Int64} {ls : Nat → List Nat} {na : Nat → Option Nat} {cv rw : Nat → Int32} {mf : List Value} {M : Mm} (hR : cW D Z (cP ar cm) (nF Z ar fi nl) ls na cv rw mf F M) (hcm : cm ≤ 40) (hw : wf ar cm) {p9 c9 b9 cap9 : Nat} {f9 : Nat → Option Nat} {mc9 : Int32} {B : Nat} (hp9 : cP ar cm p9) (hc9 : cP ar cm c9) (h_a : M (Z (200 + p9)) = some (jLs mc9 b9 (mny ar p9))) (hB9 : jB D b9 cap9 f9 M) (hcap : mny ar p9 ≤ cap9) (h60 : cap9 ≤ 60) (hf9 : ∀ k, k < mny ar p9 → f9 k = some (Z (100 + kid ar p9 k))) (C : mC p m meth c cX7_placeAmong 3 s args wsX7_placeAmong yX7_placeAmong.cls D A yX7_placeAmong (some .int)) (k20 : ∀ v : Int32, v = nI B → mV p l e ({ frames := 4, cells := 0, slots := 0, locals := 220 } : Room) s m args below meth c 3 D A Q M 0 0 [(1, .ref (Z (100 + c9)))] [.int v] 20) (k27 : mny ar p9 = B → mV p l e ({ frames := 4, cells := 0, slots := 0, locals := 220 } : Room) s m args below meth c 3 D A Q M 0 0 [(0, .ref (Z (200 + p9)))] [] 27) : ∀ (N : Nat) (k9 : Nat), mny ar p9 - k9 = N → (k9 ≤ mny ar p9) → (∀ i, i < k9 → ¬ kid ar p9 i = c9) → (q_pl ar p9 c9 (mny ar p9) = B) → mV p l e ({ frames := 4, cells := 0, slots := 0, locals := 220 } : Room) s m args below meth c 3 D A Q M 0 0 [(2, .int (nI k9)), (0, .ref (Z (200 + p9))), (1, .ref (Z (100 + c9)))] [] 2 := by
  intro N
  induction N using Nat.strongRecOn with
  | _ N ih =>
    intro k9 hN hk hinv hB
    refine m_iload_n C dX7_placeAmong_2 rfl 0 rfl ?_
    refine m_aload_n C dX7_placeAmong_3 rfl 1 rfl ?_
    refine m_callVFi (As := []) (st := [.int (nI k9)]) (v := nI (mny ar p9)) C h_a rfl (c_Jx4a65c_size_8abf5 D A l h_a) (cwV 0 C.1.2.2.2.2 gX7_placeAmong_Jx4a65c_size_8abf5 rfl rfl rfl (by decide +kernel) ⟨Nat.le_of_ble_eq_true rfl, Nat.le_of_ble_eq_true rfl⟩) rfl rfl (Nat.le_of_ble_eq_true rfl) dX7_placeAmong_4 ⟨Nat.le_of_ble_eq_true rfl, Nat.le_of_ble_eq_true rfl⟩ ?_
    refine m_icmp_ge (tgt := 27) C dX7_placeAmong_7 (by decide) (fun h_1 => ?_) (fun h_1 => ?_)
    · refine m_sub (L' := [(0, .ref (Z (200 + p9)))]) [1] rfl ?_
      have hkm : k9 = mny ar p9 := by
        have := (nI_leI (a := mny ar p9) (b := k9) (by omega) (by omega)).mp h_1
        omega
      exact k27 (by rw [hkm] at hinv; rw [← hB, q_pl_no hw hp9 hc9.1 hinv])
    · have hkm : k9 < (mny ar p9) := by
        rcases Nat.lt_or_ge k9 (mny ar p9) with z | z
        · exact z
        · exact absurd (nI_le (a := (mny ar p9)) (b := k9) z (by omega)) h_1
      refine m_aload_n C dX7_placeAmong_10 rfl 1 rfl ?_
      refine m_iload_n C dX7_placeAmong_11 rfl 0 rfl ?_
      have h_b := hB9.own (by omega)
      refine m_callVFq (As := [.int (nI k9)]) (st := []) C h_a rfl (c_Jx4a65c_get_915e3 D A l h_a h_b hkm ⟨hcap, by omega⟩) (cwV 1 C.1.2.2.2.2 gX7_placeAmong_Jx4a65c_get_915e3 rfl rfl rfl (by decide +kernel) ⟨Nat.le_of_ble_eq_true rfl, Nat.le_of_ble_eq_true rfl⟩) rfl rfl (Nat.le_of_ble_eq_true rfl) dX7_placeAmong_12 ⟨Nat.le_of_ble_eq_true rfl, Nat.le_of_ble_eq_true rfl⟩ ?_
      rw [hf9 k9 hkm]
      refine m_aload_n C dX7_placeAmong_15 rfl 2 rfl ?_
      refine m_acmp_ne (x := some (Z (100 + kid ar p9 k9))) (y := some (Z (100 + c9))) (tgt := 21) C dX7_placeAmong_16 (by decide) (fun h_2 => ?_) (fun h_2 => ?_)
      · have hkc : ¬ kid ar p9 k9 = c9 := fun y => h_2 (by rw [y])
        obtain ⟨x_3, ex_3⟩ : ∃ z : Int32, z = nI k9 + 1 := ⟨_, rfl⟩
        refine m_iinc (q := 0) (v := x_3) (L' := [(2, .int x_3), (0, .ref (Z (200 + p9))), (1, .ref (Z (100 + c9)))]) C dX7_placeAmong_21 rfl (by rw [ex_3]; rfl) (by decide) rfl ?_
        refine m_goto (tgt := 2) C dX7_placeAmong_24 (by decide) ?_
        rw [nI_1] at ex_3
        subst ex_3
        refine m_sub (L' := [(2, .int (nI (k9 + 1))), (0, .ref (Z (200 + p9))), (1, .ref (Z (100 + c9)))]) [0, 1, 2] rfl ?_
        refine ih (mny ar p9 - (k9 + 1)) (by omega) (k9 + 1) rfl (by omega) (fun i hi => ?_) hB
        by_cases z : i = k9
        · rw [z]; exact hkc
        · exact hinv i (by omega)
      · have hkc : kid ar p9 k9 = c9 := hR.inj (cP_kid hw p9 hp9 k9 hkm) hc9 (Option.some.inj h_2)
        refine m_iload_n C dX7_placeAmong_19 rfl 0 rfl ?_
        refine m_sub (L' := [(1, .ref (Z (100 + c9)))]) [2] rfl ?_
        exact k20 _ (by rw [← hB, q_pl_at hw hp9 hc9.1 hkm hkc hinv])
set_option maxHeartbeats 4000000 in
set_option maxRecDepth 100000 in
theorem c_X7_placeAmong_w (D : mD) (A : Nat → Prop) (l : Launch) {Z : Nat → Nat} {F : Mm} {cm : Nat} {ar : rA} {fi : Nat → Nat → Int32} {nl : Nat → Nat → Int64} {ls : Nat → List Nat} {na : Nat → Option Nat} {cv rw : Nat → Int32} {mf : List Value} {M : Mm} (hR : cW D Z (cP ar cm) (nF Z ar fi nl) ls na cv rw mf F M) (hcm : cm ≤ 40) (hw : wf ar cm) {p9 c9 : Nat} (hlp : ls p9 = kids ar p9) (hp9 : cP ar cm p9) (hc9 : cP ar cm c9) : mMi D A l yX7_placeAmong wsX7_placeAmong ({ frames := 4, cells := 0, slots := 0, locals := 220 } : Room) [.ref (Z (200 + p9)), .ref (Z (100 + c9))] M (fun r M' => M' = M ∧ r = nI (q_pl ar p9 c9 (mny ar p9))) 0 0 := by
  refine m_start (cc := cX7_placeAmong) (maxL := 3) (ret := (some .int)) (by decide) rfl (Nat.le_of_ble_eq_true rfl) ?_
  intro p e s m args below meth c C
  have iL : ∀ w ∈ wsJx4a65c0, w ∈ wsX7_placeAmong := by decide +kernel
  refine m_sub (L' := [(0, .ref (Z (200 + p9))), (1, .ref (Z (100 + c9)))]) [0, 1] rfl ?_
  obtain ⟨b9, cap9, f9, mc9, h_a, hB9, hcap, h60, hf9⟩ := hR.kd9 hp9 hlp
  refine m_iconst (v := 0) C dX7_placeAmong_0 (by decide) ?_
  refine m_istore_n (L' := [(2, .int 0), (0, .ref (Z (200 + p9))), (1, .ref (Z (100 + c9)))]) C dX7_placeAmong_1 rfl (by decide) rfl ?_
  refine m_sub (L' := [(2, .int 0), (0, .ref (Z (200 + p9))), (1, .ref (Z (100 + c9)))]) [0, 1, 2] rfl ?_
  refine lp_X7_placeAmongW hR hcm hw (B := q_pl ar p9 c9 (mny ar p9)) hp9 hc9 h_a hB9 hcap h60 hf9 C (fun v hv => ?_) (fun hB => ?_) _ 0 rfl (Nat.zero_le _) (fun i hi => absurd hi (Nat.not_lt_zero i)) rfl
  · exact m_iret C (Nat.le_of_ble_eq_true rfl) (Nat.le_of_ble_eq_true rfl) dX7_placeAmong_20 (⟨rfl, hv⟩)
  · refine m_aload_n C dX7_placeAmong_27 rfl 0 rfl ?_
    refine m_callVFi (As := []) (st := []) (v := nI (mny ar p9)) C h_a rfl (c_Jx4a65c_size_8abf5 D A l h_a) (cwV 0 C.1.2.2.2.2 gX7_placeAmong_Jx4a65c_size_8abf5 rfl rfl rfl (by decide +kernel) ⟨Nat.le_of_ble_eq_true rfl, Nat.le_of_ble_eq_true rfl⟩) rfl rfl (Nat.le_of_ble_eq_true rfl) dX7_placeAmong_28 ⟨Nat.le_of_ble_eq_true rfl, Nat.le_of_ble_eq_true rfl⟩ ?_
    exact m_iret C (Nat.le_of_ble_eq_true rfl) (Nat.le_of_ble_eq_true rfl) dX7_placeAmong_31 (⟨rfl, congrArg nI hB⟩)
def outL (l : List Nat) (k : Nat) : List Nat := l.take k ++ l.drop (k + 1)
theorem outL_len {l : List Nat} {k : Nat} (hk : k < l.length) : (outL l k).length = l.length - 1 := by
  unfold outL
  rw [List.length_append, List.length_take, List.length_drop]
  omega
theorem outL_at {l : List Nat} {k i : Nat} (hk : k < l.length) : (outL l k).getD i 0 = if i < k then l.getD i 0 else l.getD (i + 1) 0 := by
  have hl : (l.take k).length = k := by rw [List.length_take]; omega
  unfold outL
  rw [List.getD_eq_getElem?_getD, List.getD_eq_getElem?_getD, List.getD_eq_getElem?_getD]
  by_cases h : i < k
  · rw [if_pos h, List.getElem?_append_left (by omega), List.getElem?_take_of_lt h]
  · rw [if_neg h, List.getElem?_append_right (by omega), hl, List.getElem?_drop, show k + 1 + (i - k) = i + 1 by omega]
theorem cW.rem {D : mD} {Z : Nat → Nat} {P : Nat → Prop} {fs : Nat → List Value} {ls : Nat → List Nat} {na : Nat → Option Nat} {cv rw : Nat → Int32} {mf : List Value} {F M : Mm} (h : cW D Z P fs ls na cv rw mf F M) (hNd : ∀ n, P n → ∃ l : List Value, M (Z (100 + n)) = some (.inr (6, l))) {i k : Nat} (hi : cQ P i) (hk : k < (ls i).length) :
    ∃ (b cap : Nat) (f : Nat → Option Nat) (mc : Int32), M (Z (200 + i)) = some (jLs mc b (ls i).length) ∧ M b = some (jQ D cap f) ∧ (ls i).length ≤ cap ∧ cap ≤ 60 ∧ jN6 M f (ls i).length ∧
      ∀ M' : Mm, (∃ (g : Nat → Option Nat) (mc' : Int32), mX [b, Z (200 + i)] M M' ∧ M' (Z (200 + i)) = some (jLs mc' b ((ls i).length - 1)) ∧ M' b = some (jQ D cap g) ∧ ((∀ j, j < k → g j = f j) ∧ ∀ j, k ≤ j → j + 1 < (ls i).length → g j = f (j + 1))) → cW D Z P fs (upA ls i (outL (ls i) k)) na cv rw mf F M' := by
  obtain ⟨b, cap, f, mc, ⟨h1, h2, h3, h4⟩, h5, h6⟩ := h.lst hi
  have hc0 : 0 < cap := by omega
  refine ⟨b, cap, f, mc, h1, h2.own hc0, h3, h2.cap, fun j y hj hy => ?_, fun M' hM => ?_⟩
  · rw [h4 j hj] at hy
    have hm : (ls i).getD j 0 ∈ ls i := by
      rw [List.getD_eq_getElem?_getD, List.getElem?_eq_getElem hj]
      exact List.getElem_mem hj
    exact (Option.some.inj hy) ▸ hNd _ (h5 _ hm)
  · obtain ⟨g, mc', z1, z2, z3, z4, z5⟩ := hM
    refine h6 b cap g mc' (outL (ls i) k) M' (Or.inl ⟨rfl, Or.inl hc0⟩) z1 ⟨by rw [outL_len hk]; exact z2, Or.inr ⟨z3, hc0, h2.cap⟩, by rw [outL_len hk]; omega, fun j hj => ?_⟩ (fun x hx => ?_)
    · rw [outL_len hk] at hj
      rw [outL_at hk]
      by_cases c1 : j < k
      · rw [if_pos c1, z4 j c1, h4 j (by omega)]
      · rw [if_neg c1, z5 j (by omega) (by omega), h4 (j + 1) (by omega)]
    · unfold outL at hx
      rcases List.mem_append.mp hx with z | z
      · exact h5 x (List.mem_of_mem_take z)
      · exact h5 x (List.mem_of_mem_drop z)
theorem q_pl_plc {ar : rA} {cm v : Nat} (hw : wf ar cm) (hv : cP ar cm v) (h0 : v ≠ 0) : q_pl ar (par9 ar v) v (mny ar (par9 ar v)) = plc ar v ∧ plc ar v < mny ar (par9 ar v) := by
  obtain ⟨q, k9, m9, a1, a2, a3, a4, a5, a6, a7, a8, a9, a10, a11, a12⟩ := wf_par hw hv.1 hv.2 h0
  have h40 := hw.1.2
  have hm : mny ar q = m9 + 1 := by rw [mny, a9, nI_clamp (by omega)]
  rw [a2, a6]
  exact ⟨q_pl_of (by omega) a7 a8, by omega⟩
set_option maxHeartbeats 4000000 in
set_option maxRecDepth 100000 in
theorem c_X7_takeOut (D : mD) (A : Nat → Prop) (l : Launch) {Z : Nat → Nat} {F : Mm} {cm : Nat} {ar : rA} {fi : Nat → Nat → Int32} {nl : Nat → Nat → Int64} {ls : Nat → List Nat} {na : Nat → Option Nat} {cv rw : Nat → Int32} {mf : List Value} {M : Mm} (hR : cW D Z (cP ar cm) (nF Z ar fi nl) ls na cv rw mf F M) (hcm : cm ≤ 40) (hw : wf ar cm) {v : Nat} (hv : cP ar cm v) (h0 : v ≠ 0) (hp : cP ar cm (par9 ar v)) (hlp : ls (par9 ar v) = kids ar (par9 ar v)) : mMi D A l yX7_takeOut wsX7_takeOut ({ frames := 5, cells := 0, slots := 0, locals := 280 } : Room) [.ref (Z (100 + par9 ar v)), .ref (Z (100 + v))] M (fun r M' => r = nI (plc ar v) ∧ cW D Z (cP ar cm) (nF Z ar fi nl) (upA ls (par9 ar v) (outL (kids ar (par9 ar v)) (plc ar v))) na cv rw mf F M') 0 0 := by
  refine m_start (cc := cX7_takeOut) (maxL := 3) (ret := (some .int)) (by decide) rfl (Nat.le_of_ble_eq_true rfl) ?_
  intro p e s m args below meth c C
  have i_X3 : ∀ w ∈ wsX30, w ∈ wsX7_takeOut := by decide +kernel
  have iL : ∀ w ∈ wsJx4a65c0, w ∈ wsX7_takeOut := by decide +kernel
  refine m_sub (L' := [(0, .ref (Z (100 + par9 ar v))), (1, .ref (Z (100 + v)))]) [0, 1] rfl ?_
  have hpl := q_pl_plc hw hv h0
  obtain ⟨b, cap, f, mc, h_a, h_b, hnc, h60, hel, hrem⟩ := hR.rem (fun n hn => ⟨_, hR.nd hn⟩) (i := par9 ar v) (k := plc ar v) (Or.inr hp) (by rw [hlp, kids_len]; exact hpl.2)
  rw [hlp, kids_len] at h_a hnc hel hrem
  refine m_aload_n C dX7_takeOut_0 rfl 0 rfl ?_
  refine m_get (ref := "PaintLayers$Node") C (hR.nd hp) rfl i_X3 2 (by decide) (by decide +kernel) (fun x h => h) (v := .ref (Z (200 + (par9 ar v)))) rfl dX7_takeOut_1 ?_
  refine m_aload_n C dX7_takeOut_4 rfl 1 rfl ?_
  refine m_callSFi (As := [.ref (Z (200 + (par9 ar v))), .ref (Z (100 + v))]) (st := []) (v := nI (plc ar v)) C (by have h9 := c_X7_placeAmong_w D A l hR hcm hw hlp hp hv; rw [hpl.1] at h9; exact h9) (va_cwS 2 C.1.2.2.2.2 gX7_takeOut_X7_placeAmong rfl rfl rfl (by decide +kernel) ⟨Nat.le_of_ble_eq_true rfl, Nat.le_of_ble_eq_true rfl⟩) rfl rfl (Nat.le_of_ble_eq_true rfl) dX7_takeOut_5 ⟨Nat.le_of_ble_eq_true rfl, Nat.le_of_ble_eq_true rfl⟩ ?_
  refine m_istore_n (L' := [(2, .int (nI (plc ar v))), (0, .ref (Z (100 + par9 ar v))), (1, .ref (Z (100 + v)))]) C dX7_takeOut_8 rfl (by decide) rfl ?_
  refine m_iload_n C dX7_takeOut_9 rfl 0 rfl ?_
  refine m_aload_n C dX7_takeOut_10 rfl 1 rfl ?_
  refine m_get (ref := "PaintLayers$Node") C (hR.nd hp) rfl i_X3 2 (by decide) (by decide +kernel) (fun x h => h) (v := .ref (Z (200 + (par9 ar v)))) rfl dX7_takeOut_11 ?_
  refine m_callVFi (As := []) (st := [.int (nI (plc ar v))]) (v := nI (mny ar (par9 ar v))) C h_a rfl (c_Jx4a65c_size_8abf5 D A l h_a) (cwV 0 C.1.2.2.2.2 gX7_takeOut_Jx4a65c_size_8abf5 rfl rfl rfl (by decide +kernel) ⟨Nat.le_of_ble_eq_true rfl, Nat.le_of_ble_eq_true rfl⟩) rfl rfl (Nat.le_of_ble_eq_true rfl) dX7_takeOut_14 ⟨Nat.le_of_ble_eq_true rfl, Nat.le_of_ble_eq_true rfl⟩ ?_
  refine m_icmp_ge (tgt := 29) C dX7_takeOut_17 (by decide) (fun h_1 => ?_) (fun h_1 => ?_)
  · exact absurd ((nI_leI (a := mny ar (par9 ar v)) (b := plc ar v) (by omega) (by omega)).mp h_1) (by omega)
  · refine m_aload_n C dX7_takeOut_20 rfl 1 rfl ?_
    refine m_get (ref := "PaintLayers$Node") C (hR.nd hp) rfl i_X3 2 (by decide) (by decide +kernel) (fun x h => h) (v := .ref (Z (200 + (par9 ar v)))) rfl dX7_takeOut_21 ?_
    refine m_iload_n C dX7_takeOut_24 rfl 0 rfl ?_
    refine m_callVq (As := [.int (nI (plc ar v))]) (st := []) C h_a rfl (c_Jx4a65c_remove_915e3 D A l h_a h_b hnc h60 hpl.2 hel) (cwV 1 C.1.2.2.2.2 gX7_takeOut_Jx4a65c_remove_915e3 rfl rfl rfl (by decide +kernel) ⟨Nat.le_of_ble_eq_true rfl, Nat.le_of_ble_eq_true rfl⟩) rfl rfl (Nat.le_of_ble_eq_true rfl) dX7_takeOut_25 ⟨Nat.le_of_ble_eq_true rfl, Nat.le_of_ble_eq_true rfl⟩ (fun r2 M2 hq2 => ?_)
    refine m_pop C dX7_takeOut_28 (by cases r2 <;> rfl) ?_
    refine m_iload_n C dX7_takeOut_29 rfl 0 rfl ?_
    exact m_iret C (Nat.le_of_ble_eq_true rfl) (Nat.le_of_ble_eq_true rfl) dX7_takeOut_30 (⟨rfl, hrem _ hq2.2⟩)

