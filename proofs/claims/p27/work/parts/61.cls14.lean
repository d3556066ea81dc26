/-! ===== the class: room for one more ===== -/
set_option maxHeartbeats 4000000 in
set_option maxRecDepth 100000 in
theorem c_X7_checkTakesMore (D : mD) (A : Nat → Prop) (l : Launch) (hst : l.stackTraces = false) {Z : Nat → Nat} {F : Mm} {cm : Nat} {g : Int32} {ar : rA} {fi : Nat → Nat → Int32} {nl : Nat → Nat → Int64} {L : List Nat} {rw : Nat → Int32} {M : Mm} (hR : cS D Z F cm g ar fi nl L rw M) (hcm : cm ≤ 40) {p9 : Nat} (hp9 : cP ar cm p9) : mXv D A l yX7_checkTakesMore wsX7_checkTakesMore ({ frames := 6, cells := 1, slots := 6, locals := 200 } : Room) [.ref (Z 0), .ref (Z (100 + p9))] M (fun M' => M' = M ∧ ar 3 p9 = 0 ∧ cm < 40) (fun E M' => E = xIS ∧ M' = M ∧ (¬ ar 3 p9 = 0 ∨ cm = 40)) 1 6 := by
  refine m_startX (cc := cX7_checkTakesMore) (maxL := 2) (ret := none) (by decide) rfl (Nat.le_of_ble_eq_true rfl) ?_
  intro p e s m args below meth c C hE
  have i_X7 : ∀ w ∈ wsX70, w ∈ wsX7_checkTakesMore := by decide +kernel
  have i_X3 : ∀ w ∈ wsX30, w ∈ wsX7_checkTakesMore := by decide +kernel
  refine m_sub (L' := [(0, .ref (Z 0)), (1, .ref (Z (100 + p9)))]) [0, 1] rfl ?_
  refine m_aload_n C dX7_checkTakesMore_0 rfl 1 rfl ?_
  refine m_get (ref := "PaintLayers$Node") C (hR.nd hp9) rfl i_X3 1 (by decide) (by decide +kernel) (fun x h => h) (v := va_rf (nSh Z ar p9)) rfl dX7_checkTakesMore_1 ?_
  by_cases h3 : ar 3 p9 = 0
  · rw [show nSh Z ar p9 = none from if_pos h3]
    refine m_ifnonnull (x := none) (tgt := 16) C dX7_checkTakesMore_4 (by decide) (fun q h => absurd h (by simp)) (fun _ => ?_)
    refine m_aload_n C dX7_checkTakesMore_7 rfl 0 rfl ?_
    refine m_get (ref := "PaintLayers") C hR.me rfl i_X7 5 (by decide) (by decide +kernel) (fun x h => h) (v := .int (nI cm)) rfl dX7_checkTakesMore_8 ?_
    refine m_bipush (v := 40) C dX7_checkTakesMore_11 (by decide) ?_
    refine m_icmp_lt (tgt := 26) C dX7_checkTakesMore_13 (by decide) (fun h_1 => ?_) (fun h_1 => ?_)
    · have hlt : cm < 40 := by
        rcases Nat.lt_or_ge cm 40 with u | u
        · exact u
        · exact absurd h_1 (nI_nlt (b := 40) (a := cm) u (by omega))
      exact m_vretX C (Nat.le_of_ble_eq_true rfl) (Nat.le_of_ble_eq_true rfl) dX7_checkTakesMore_26 (⟨rfl, h3, hlt⟩)
    · have hge : cm = 40 := by
        rcases Nat.lt_or_ge cm 40 with u | u
        · exact absurd (nI_lt (b := 40) u (by omega)) h_1
        · omega
      exact m_throwS (E := xIS) (text := "no group, or too many nodes") C hst hE (by decide) (by decide +kernel) (by decide +kernel) (by decide +kernel) (by decide) (by decide +kernel) (by decide +kernel) (by decide +kernel) dX7_checkTakesMore_16 dX7_checkTakesMore_19 dX7_checkTakesMore_20 dX7_checkTakesMore_22 dX7_checkTakesMore_25 (Nat.le_of_ble_eq_true rfl) (Nat.le_of_ble_eq_true rfl) (Nat.le_of_ble_eq_true rfl) (Nat.le_of_ble_eq_true rfl) (Nat.le_of_ble_eq_true rfl) (Nat.le_of_ble_eq_true rfl) (⟨rfl, rfl, Or.inr hge⟩)
  · rw [show nSh Z ar p9 = some (Z (400 + p9)) from if_neg h3]
    refine m_ifnonnull (x := some (Z (400 + p9))) (tgt := 16) C dX7_checkTakesMore_4 (by decide) (fun _ _ => ?_) (fun h => absurd h (by simp))
    exact m_throwS (E := xIS) (text := "no group, or too many nodes") C hst hE (by decide) (by decide +kernel) (by decide +kernel) (by decide +kernel) (by decide) (by decide +kernel) (by decide +kernel) (by decide +kernel) dX7_checkTakesMore_16 dX7_checkTakesMore_19 dX7_checkTakesMore_20 dX7_checkTakesMore_22 dX7_checkTakesMore_25 (Nat.le_of_ble_eq_true rfl) (Nat.le_of_ble_eq_true rfl) (Nat.le_of_ble_eq_true rfl) (Nat.le_of_ble_eq_true rfl) (Nat.le_of_ble_eq_true rfl) (Nat.le_of_ble_eq_true rfl) (⟨rfl, rfl, Or.inl h3⟩)

