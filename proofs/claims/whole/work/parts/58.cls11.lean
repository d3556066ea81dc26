/-! ===== the class: within, places ===== -/
theorem zO_nPa {Z : Nat → Nat} {ar : rA} {n : Nat} : nPa Z ar n = zO Z (if n = 0 then none else some (par9 ar n)) := by
  unfold nPa
  by_cases h : n = 0
  · rw [if_pos h, if_pos h]; rfl
  · rw [if_neg h, if_neg h]; rfl
set_option maxHeartbeats 4000000 in
set_option maxRecDepth 100000 in
theorem lp_X7_isWithin {p : Program} {l : Launch} {e : Env} {s : State} {m : MethodId} {args : Array Value} {below : List Frame} {meth : Method} {c : Code} {Q : State → Prop} {D : mD} {A : Nat → Prop} {Z : Nat → Nat} {F : Mm} {cm : Nat} {g : Int32} {ar : rA} {fi : Nat → Nat → Int32} {nl : Nat → Nat → Int64} {L : List Nat} {rw : Nat → Int32} {M : Mm} (hR : cS D Z F cm g ar fi nl L rw M) (hcm : cm ≤ 40) (hw : wf ar cm) (i_X3 : ∀ w ∈ wsX30, w ∈ wsX7_isWithin) {t : Nat} (ht : cP ar cm t) {B : Bool} (C : mC p m meth c cX7_isWithin 3 s args wsX7_isWithin yX7_isWithin.cls D A yX7_isWithin (some .boolean)) (k12 : B = true → mV p l e ({ frames := 0, cells := 0, slots := 0, locals := 0 } : Room) s m args below meth c 3 D A Q M 0 0 [(1, .ref (Z (100 + t)))] [.int 1] 12) (k22 : B = false → mV p l e ({ frames := 0, cells := 0, slots := 0, locals := 0 } : Room) s m args below meth c 3 D A Q M 0 0 [(1, .ref (Z (100 + t)))] [.int 0] 22) : ∀ (N : Nat) (x9 : Nat), (chn ar x9).length = N → (cP ar cm x9) → (decide (t ∈ chn ar x9) = B) → mV p l e ({ frames := 0, cells := 0, slots := 0, locals := 0 } : Room) s m args below meth c 3 D A Q M 0 0 [(2, .ref (Z (100 + x9))), (1, .ref (Z (100 + t)))] [] 2 := by
  intro N
  induction N using Nat.strongRecOn with
  | _ N ih =>
    intro x9 hN hx9 hB
    refine m_aload_n C dX7_isWithin_2 rfl 0 rfl ?_
    refine m_ifnull (x := some (Z (100 + x9))) (tgt := 21) C dX7_isWithin_3 (by decide) (fun h => absurd h (by simp)) (fun _ _ => ?_)
    refine m_aload_n C dX7_isWithin_6 rfl 0 rfl ?_
    refine m_aload_n C dX7_isWithin_7 rfl 1 rfl ?_
    refine m_acmp_ne (x := some (Z (100 + x9))) (y := some (Z (100 + t))) (tgt := 13) C dX7_isWithin_8 (by decide) (fun h_1 => ?_) (fun h_1 => ?_)
    · have hxt : ¬ x9 = t := fun z => h_1 (by rw [z])
      refine m_aload_n C dX7_isWithin_13 rfl 0 rfl ?_
      refine m_get (ref := "PaintLayers$Node") C (hR.nd hx9) rfl i_X3 3 (by decide) (by decide +kernel) (fun x h => h) (v := va_rf (nPa Z ar x9)) rfl dX7_isWithin_14 ?_
      by_cases h0 : x9 = 0
      · rw [show nPa Z ar x9 = none from if_pos h0]
        refine m_astore_nq (x := none) (L' := [(2, .null), (1, .ref (Z (100 + t)))]) C dX7_isWithin_17 rfl (by decide) rfl ?_
        refine m_goto (tgt := 2) C dX7_isWithin_18 (by decide) ?_
        refine m_aload_nq (x := none) C dX7_isWithin_2 rfl 0 rfl ?_
        refine m_ifnull (x := none) (tgt := 21) C dX7_isWithin_3 (by decide) (fun _ => ?_) (fun q h => absurd h (by simp))
        refine m_iconst (v := 0) C dX7_isWithin_21 (by decide) ?_
        refine m_sub (L' := [(1, .ref (Z (100 + t)))]) [1] rfl ?_
        exact k22 (by rw [← hB, h0, wf_ch0 hw]; exact decide_eq_false (by simp; exact fun z => hxt (by rw [h0, z])))
      · obtain ⟨hch, hp1, hp2⟩ := wf_chp hw hx9.1 hx9.2 h0
        rw [show nPa Z ar x9 = some (Z (100 + par9 ar x9)) from if_neg h0]
        refine m_astore_n (L' := [(2, .ref (Z (100 + par9 ar x9))), (1, .ref (Z (100 + t)))]) C dX7_isWithin_17 rfl (by decide) rfl ?_
        refine m_goto (tgt := 2) C dX7_isWithin_18 (by decide) ?_
        refine m_sub (L' := [(2, .ref (Z (100 + par9 ar x9))), (1, .ref (Z (100 + t)))]) [0, 1] rfl ?_
        exact ih (chn ar (par9 ar x9)).length (by rw [← hN, hch]; simp) (par9 ar x9) rfl ⟨hp1, hp2⟩ (by rw [← hB, decide_eq_decide, hch]; simp; exact fun z => absurd z.symm hxt)
    · have hxt : x9 = t := hR.1.inj hx9 ht (Option.some.inj h_1)
      refine m_iconst (v := 1) C dX7_isWithin_11 (by decide) ?_
      refine m_sub (L' := [(1, .ref (Z (100 + t)))]) [1] rfl ?_
      exact k12 (by rw [← hB, hxt]; exact decide_eq_true (wf_self hw ht.1 ht.2))
set_option maxHeartbeats 4000000 in
set_option maxRecDepth 100000 in
theorem c_X7_isWithin_s (D : mD) (A : Nat → Prop) (l : Launch) {Z : Nat → Nat} {F : Mm} {cm : Nat} {g : Int32} {ar : rA} {fi : Nat → Nat → Int32} {nl : Nat → Nat → Int64} {L : List Nat} {rw : Nat → Int32} {M : Mm} (hR : cS D Z F cm g ar fi nl L rw M) (hcm : cm ≤ 40) (hw : wf ar cm) {n t : Nat} (hn : cP ar cm n) (ht : cP ar cm t) : mMi D A l yX7_isWithin wsX7_isWithin ({ frames := 0, cells := 0, slots := 0, locals := 0 } : Room) [.ref (Z (100 + n)), .ref (Z (100 + t))] M (fun r M' => M' = M ∧ r = bI (decide (t ∈ chn ar n))) 0 0 := by
  refine m_start (cc := cX7_isWithin) (maxL := 3) (ret := (some .boolean)) (by decide) rfl (Nat.le_of_ble_eq_true rfl) ?_
  intro p e s m args below meth c C
  have i_X3 : ∀ w ∈ wsX30, w ∈ wsX7_isWithin := by decide +kernel
  refine m_sub (L' := [(0, .ref (Z (100 + n))), (1, .ref (Z (100 + t)))]) [0, 1] rfl ?_
  refine m_aload_n C dX7_isWithin_0 rfl 0 rfl ?_
  refine m_astore_n (L' := [(2, .ref (Z (100 + n))), (0, .ref (Z (100 + n))), (1, .ref (Z (100 + t)))]) C dX7_isWithin_1 rfl (by decide) rfl ?_
  refine m_sub (L' := [(2, .ref (Z (100 + n))), (1, .ref (Z (100 + t)))]) [0, 2] rfl ?_
  refine lp_X7_isWithin hR hcm hw i_X3 ht (B := decide (t ∈ chn ar n)) C (fun hB => ?_) (fun hB => ?_) _ n rfl hn rfl
  · exact m_zret C (Nat.le_of_ble_eq_true rfl) (Nat.le_of_ble_eq_true rfl) dX7_isWithin_12 (Or.inr rfl) (⟨rfl, by rw [hB]; rfl⟩)
  · exact m_zret C (Nat.le_of_ble_eq_true rfl) (Nat.le_of_ble_eq_true rfl) dX7_isWithin_22 (Or.inl rfl) (⟨rfl, by rw [hB]; rfl⟩)
set_option maxHeartbeats 4000000 in
set_option maxRecDepth 100000 in
theorem c_X7_isWithin_n (D : mD) (A : Nat → Prop) (l : Launch) {t : Nat} {Z : Nat → Nat} {M : Mm} : mMi D A l yX7_isWithin wsX7_isWithin ({ frames := 0, cells := 0, slots := 0, locals := 0 } : Room) [.null, .ref (Z (100 + t))] M (fun r M' => M' = M ∧ r = bI false) 0 0 := by
  refine m_start (cc := cX7_isWithin) (maxL := 3) (ret := (some .boolean)) (by decide) rfl (Nat.le_of_ble_eq_true rfl) ?_
  intro p e s m args below meth c C
  refine m_sub (L' := [(0, .null), (1, .ref (Z (100 + t)))]) [0, 1] rfl ?_
  refine m_aload_nq (x := none) C dX7_isWithin_0 rfl 0 rfl ?_
  refine m_astore_nq (x := none) (L' := [(2, .null), (0, .null), (1, .ref (Z (100 + t)))]) C dX7_isWithin_1 rfl (by decide) rfl ?_
  refine m_aload_nq (x := none) C dX7_isWithin_2 rfl 0 rfl ?_
  refine m_ifnull (x := none) (tgt := 21) C dX7_isWithin_3 (by decide) (fun _ => ?_) (fun q h => absurd h (by simp))
  refine m_iconst (v := 0) C dX7_isWithin_21 (by decide) ?_
  exact m_zret C (Nat.le_of_ble_eq_true rfl) (Nat.le_of_ble_eq_true rfl) dX7_isWithin_22 (Or.inl rfl) (⟨rfl, rfl⟩)
