/-! ===== the class: reading its state ===== -/
section CS2
variable {D : mD} {Z : Nat → Nat} {F : Mm} {cm : Nat} {g : Int32} {ar : rA} {fi : Nat → Nat → Int32} {nl : Nat → Nat → Int64} {L : List Nat} {rw : Nat → Int32} {M : Mm}
theorem cS.nd (h : cS D Z F cm g ar fi nl L rw M) {n : Nat} (hn : cP ar cm n) : M (Z (100 + n)) = some (.inr (6, nF Z ar fi nl n)) := h.1.nd hn
theorem cS.me (h : cS D Z F cm g ar fi nl L rw M) : M (Z 0) = some (.inr (9, mfF Z cm g)) := h.1.me
theorem cS.kd (h : cS D Z F cm g ar fi nl L rw M) (hc : cm ≤ 40) {n : Nat} (hn : cP ar cm n) : ∃ (b cap : Nat) (f : Nat → Option Nat) (mc : Int32), M (Z (200 + n)) = some (jLs mc b (mny ar n)) ∧ jB D b cap f M ∧ mny ar n ≤ cap ∧ cap ≤ 60 ∧ ∀ k, k < mny ar n → f k = some (Z (100 + kid ar n k)) := by
  obtain ⟨b, cap, f, mc, ⟨h1, h2, h3, h4⟩, -, -⟩ := h.1.lst (i := n) (Or.inr hn)
  have e : lsF ar L n = kids ar n := if_neg (by have := hn.1; omega)
  rw [e, kids_len] at h1 h3 h4
  exact ⟨b, cap, f, mc, h1, h2, h3, h2.cap, fun k hk => by rw [h4 k hk, kids_at hk]⟩
theorem cS.od (h : cS D Z F cm g ar fi nl L rw M) : ∃ (b cap : Nat) (f : Nat → Option Nat) (mc : Int32), M (Z 240) = some (jLs mc b L.length) ∧ jB D b cap f M ∧ L.length ≤ cap ∧ cap ≤ 60 ∧ (∀ k, k < L.length → f k = some (Z (100 + L.getD k 0))) ∧ ∀ n ∈ L, cP ar cm n := by
  obtain ⟨b, cap, f, mc, ⟨h1, h2, h3, h4⟩, h5, -⟩ := h.1.lst (i := 40) (Or.inl rfl)
  have e : lsF ar L 40 = L := if_pos rfl
  rw [e] at h1 h3 h4 h5
  exact ⟨b, cap, f, mc, h1, h2, h3, h2.cap, h4, h5⟩
end CS2
/-- a group's mask: its first child -/
def q_mk (ar : rA) (n : Nat) : Option Nat := if ar 13 n = 0 ∨ mny ar n = 0 then none else some (kid ar n 0)
def zO (Z : Nat → Nat) : Option Nat → Option Nat
  | none => none
  | some n => some (Z (100 + n))
set_option maxHeartbeats 4000000 in
set_option maxRecDepth 100000 in
theorem c_X7_maskOf_n (D : mD) (A : Nat → Prop) (l : Launch) {M : Mm} : mMq D A l yX7_maskOf wsX7_maskOf ({ frames := 4, cells := 0, slots := 0, locals := 220 } : Room) [.null] M (fun r M' => M' = M ∧ r = none) 0 0 := by
  refine m_start (cc := cX7_maskOf) (maxL := 1) (ret := (some (.object "PaintLayers$Node"))) (by decide) rfl (Nat.le_of_ble_eq_true rfl) ?_
  intro p e s m args below meth c C
  have i_X3 : ∀ w ∈ wsX30, w ∈ wsX7_maskOf := by decide +kernel
  have iL : ∀ w ∈ wsJx4a65c0, w ∈ wsX7_maskOf := by decide +kernel
  refine m_sub (L' := [(0, .null)]) [0] rfl ?_
  refine m_aload_nq (x := none) C dX7_maskOf_0 rfl 0 rfl ?_
  refine m_ifnull (x := none) (tgt := 21) C dX7_maskOf_1 (by decide) (fun _ => ?_) (fun q h => absurd h (by simp))
  refine m_null C dX7_maskOf_21 ?_
  exact m_aret C (Or.inl ⟨_, rfl⟩) (v := none) (Nat.le_of_ble_eq_true rfl) (Nat.le_of_ble_eq_true rfl) dX7_maskOf_22 (⟨rfl, rfl⟩)
set_option maxHeartbeats 4000000 in
set_option maxRecDepth 100000 in
theorem c_X7_maskOf_s (D : mD) (A : Nat → Prop) (l : Launch) {Z : Nat → Nat} {F : Mm} {cm : Nat} {g : Int32} {ar : rA} {fi : Nat → Nat → Int32} {nl : Nat → Nat → Int64} {L : List Nat} {rw : Nat → Int32} {M : Mm} (hR : cS D Z F cm g ar fi nl L rw M) (hcm : cm ≤ 40) (hK : ∀ n, cP ar cm n → ∀ k, k < mny ar n → cP ar cm (kid ar n k)) {n : Nat} (hn : cP ar cm n) : mMq D A l yX7_maskOf wsX7_maskOf ({ frames := 4, cells := 0, slots := 0, locals := 220 } : Room) [.ref (Z (100 + n))] M (fun r M' => M' = M ∧ r = zO Z (q_mk ar n)) 0 0 := by
  refine m_start (cc := cX7_maskOf) (maxL := 1) (ret := (some (.object "PaintLayers$Node"))) (by decide) rfl (Nat.le_of_ble_eq_true rfl) ?_
  intro p e s m args below meth c C
  have i_X3 : ∀ w ∈ wsX30, w ∈ wsX7_maskOf := by decide +kernel
  have iL : ∀ w ∈ wsJx4a65c0, w ∈ wsX7_maskOf := by decide +kernel
  refine m_sub (L' := [(0, .ref (Z (100 + n)))]) [0] rfl ?_
  obtain ⟨b9, cap9, f9, mc9, h_a, hB, hcap, h60, hf9⟩ := hR.kd hcm hn
  have hk0 : 0 < mny ar n → cP ar cm (kid ar n 0) := fun h => hK n hn 0 h
  refine m_aload_n C dX7_maskOf_0 rfl 0 rfl ?_
  refine m_ifnull (x := some (Z (100 + n))) (tgt := 21) C dX7_maskOf_1 (by decide) (fun h => absurd h (by simp)) (fun _ _ => ?_)
  refine m_aload_n C dX7_maskOf_4 rfl 0 rfl ?_
  refine m_get (ref := "PaintLayers$Node") C (hR.nd hn) rfl i_X3 9 (by decide) (by decide +kernel) (fun x h => h) (v := .int (ar 13 n)) rfl dX7_maskOf_5 ?_
  refine m_if_eq (tgt := 21) C dX7_maskOf_8 (by decide) (fun h_1 => ?_) (fun h_1 => ?_)
  · refine m_null C dX7_maskOf_21 ?_
    exact m_aret C (Or.inl ⟨_, rfl⟩) (v := none) (Nat.le_of_ble_eq_true rfl) (Nat.le_of_ble_eq_true rfl) dX7_maskOf_22 (⟨rfl, by rw [q_mk, if_pos (Or.inl h_1)]; rfl⟩)
  · refine m_aload_n C dX7_maskOf_11 rfl 0 rfl ?_
    refine m_get (ref := "PaintLayers$Node") C (hR.nd hn) rfl i_X3 2 (by decide) (by decide +kernel) (fun x h => h) (v := .ref (Z (200 + n))) rfl dX7_maskOf_12 ?_
    refine m_callVFi (As := []) (st := []) (v := bI (decide (mny ar n = 0))) C h_a rfl (c_Jx4a65c_isEmpty_aae02 D A l h_a (by omega)) (cwV 0 C.1.2.2.2.2 gX7_maskOf_Jx4a65c_isEmpty_aae02 rfl rfl rfl (by decide +kernel) ⟨Nat.le_of_ble_eq_true rfl, Nat.le_of_ble_eq_true rfl⟩) rfl rfl (Nat.le_of_ble_eq_true rfl) dX7_maskOf_15 ⟨Nat.le_of_ble_eq_true rfl, Nat.le_of_ble_eq_true rfl⟩ ?_
    refine m_if_eq (tgt := 23) C dX7_maskOf_18 (by decide) (fun hz_2 => ?_) (fun hz_2 => ?_)
    · have hz_2 := bI_z hz_2
      have hm0 := of_decide_eq_false hz_2
      have hk0 := hk0 (Nat.pos_of_ne_zero hm0)
      refine m_aload_n C dX7_maskOf_23 rfl 0 rfl ?_
      refine m_get (ref := "PaintLayers$Node") C (hR.nd hn) rfl i_X3 2 (by decide) (by decide +kernel) (fun x h => h) (v := .ref (Z (200 + n))) rfl dX7_maskOf_24 ?_
      refine m_iconst (v := 0) C dX7_maskOf_27 (by decide) ?_
      have h_b := hB.own (by omega)
      refine m_callVFq (As := [.int 0]) (st := []) C h_a rfl (c_Jx4a65c_get_915e3 D A l h_a h_b (Nat.pos_of_ne_zero hm0) ⟨hcap, by omega⟩) (cwV 1 C.1.2.2.2.2 gX7_maskOf_Jx4a65c_get_915e3 rfl rfl rfl (by decide +kernel) ⟨Nat.le_of_ble_eq_true rfl, Nat.le_of_ble_eq_true rfl⟩) rfl rfl (Nat.le_of_ble_eq_true rfl) dX7_maskOf_28 ⟨Nat.le_of_ble_eq_true rfl, Nat.le_of_ble_eq_true rfl⟩ ?_
      rw [hf9 0 (Nat.pos_of_ne_zero hm0)]
      refine m_castN C (hR.nd hk0) (by decide +kernel) dX7_maskOf_31 ?_
      exact m_aret C (Or.inl ⟨_, rfl⟩) (v := some (Z (100 + kid ar n 0))) (Nat.le_of_ble_eq_true rfl) (Nat.le_of_ble_eq_true rfl) dX7_maskOf_34 (⟨rfl, by rw [q_mk, if_neg (fun z9 => z9.elim h_1 hm0)]; rfl⟩)
    · have hz_2 := bI_n hz_2
      have hm0 := of_decide_eq_true hz_2
      refine m_null C dX7_maskOf_21 ?_
      exact m_aret C (Or.inl ⟨_, rfl⟩) (v := none) (Nat.le_of_ble_eq_true rfl) (Nat.le_of_ble_eq_true rfl) dX7_maskOf_22 (⟨rfl, by rw [q_mk, if_pos (Or.inr hm0)]; rfl⟩)
theorem c_X7_maskOf (D : mD) (A : Nat → Prop) (l : Launch) {Z : Nat → Nat} {F : Mm} {cm : Nat} {g : Int32} {ar : rA} {fi : Nat → Nat → Int32} {nl : Nat → Nat → Int64} {L : List Nat} {rw : Nat → Int32} {M : Mm} (hR : cS D Z F cm g ar fi nl L rw M) (hcm : cm ≤ 40) (hK : ∀ n, cP ar cm n → ∀ k, k < mny ar n → cP ar cm (kid ar n k)) {on9 : Option Nat} (hP : ∀ n, on9 = some n → cP ar cm n) : mMq D A l yX7_maskOf wsX7_maskOf ({ frames := 4, cells := 0, slots := 0, locals := 220 } : Room) [va_rf (zO Z on9)] M (fun r M' => M' = M ∧ r = zO Z (on9.bind (q_mk ar))) 0 0 := by
  cases on9 with
  | none => exact c_X7_maskOf_n D A l
  | some n => exact c_X7_maskOf_s D A l hR hcm hK (hP n rfl)

