/-! ===== the class: its public methods, third part ===== -/
set_option maxHeartbeats 4000000 in
set_option maxRecDepth 100000 in
theorem lp_X7_hit {p : Program} {l : Launch} {e : Env} {s : State} {m : MethodId} {args : Array Value} {below : List Frame} {meth : Method} {c : Code} {Q : State → Prop} {D : mD} {A : Nat → Prop} {Z : Nat → Nat} {F : Mm} {cm : Nat} {g : Int32} {ar : rA} {fi : Nat → Nat → Int32} {nl : Nat → Nat → Int64} {rw : Nat → Int32} {M : Mm} (hR : cS D Z F cm g ar fi nl (pre9 ar 0) rw M) (hw : wf ar cm) (hfv : FV ar cm fi) {x9 y9 : Nat} (hx9 : x9 < 64) (hs : SC ar cm nl 2 y9 (fun n => q_any ar (pre9 ar n))) {B : Int32} (i_X7 : ∀ w ∈ wsX70, w ∈ wsX7_hit) (i_X3 : ∀ w ∈ wsX30, w ∈ wsX7_hit) (iL : ∀ w ∈ wsJx4a65c0, w ∈ wsX7_hit) (C : mC p m meth c cX7_hit 5 s args wsX7_hit yX7_hit.cls D A yX7_hit (some .int)) (k77 : -1 = B → mV p l e ({ frames := 9, cells := 1, slots := 6, locals := 600 } : Room) s m args below meth c 5 D A Q M 1 6 [(0, .ref (Z 0))] [] 77) (k70 : ∀ v : Int32, v = B → mV p l e ({ frames := 9, cells := 1, slots := 6, locals := 600 } : Room) s m args below meth c 5 D A Q M 1 6 [(0, .ref (Z 0))] [.int v] 70) : ∀ (N : Nat) (j9 : Nat) (x3 : Int32), j9 = N → (j9 ≤ (pre9 ar 0).length) → (x3 = nI j9 - 1) → (q_hitL ar ((pre9 ar 0).take j9) (nI x9) (nI y9) = B) → mV p l e ({ frames := 9, cells := 1, slots := 6, locals := 600 } : Room) s m args below meth c 5 D A Q M 1 6 [(3, .int x3), (0, .ref (Z 0)), (1, .int (nI x9))] [] 20 := by
  intro N
  induction N using Nat.strongRecOn with
  | _ N ih =>
    intro j9 x3 hN hk hx hB
    have hcm := hw.1.2
    obtain ⟨b9, cap9, f9, mc9, h_a, hB9, hnc, h60, hf9, hall⟩ := hR.od
    refine m_iload_n C dX7_hit_20 rfl 0 rfl ?_
    refine m_if_lt (tgt := 77) C dX7_hit_21 (by decide) (fun h_1 => ?_) (fun h_1 => ?_)
    · refine m_sub (L' := [(0, .ref (Z 0))]) [1] rfl ?_
      have hz : j9 = 0 := by
        rcases Nat.eq_zero_or_pos j9 with z | z
        · exact z
        · rw [hx, show (1 : Int32) = nI 1 from rfl, pk_sub z] at h_1
          exact absurd h_1 (nI_pos (by omega))
      subst hz
      exact k77 hB
    · have hj1 : 0 < j9 := by
        rcases Nat.eq_zero_or_pos j9 with z | z
        · rw [hx, z] at h_1
          exact absurd (show nI 0 - 1 < 0 by decide) h_1
        · exact z
      obtain ⟨k9, rfl⟩ : ∃ k9, j9 = k9 + 1 := ⟨j9 - 1, by omega⟩
      rw [nI_pred] at hx
      subst hx
      have hkm : k9 < (pre9 ar 0).length := hk
      obtain ⟨a9, ha9⟩ : ∃ z : Nat, z = (pre9 ar 0).getD k9 0 := ⟨_, rfl⟩
      have hna : cP ar cm a9 := by rw [ha9]; exact wf_preL hw (wf_root hw).1 (wf_root hw).2 k9 hkm
      rw [q_hitL_s hkm, ← ha9] at hB
      refine m_aload_n C dX7_hit_24 rfl 1 rfl ?_
      refine m_get (ref := "PaintLayers") C hR.me rfl i_X7 2 (by decide) (by decide +kernel) (fun x h => h) (v := .ref (Z 240)) rfl dX7_hit_25 ?_
      refine m_iload_n C dX7_hit_28 rfl 0 rfl ?_
      have h_b := hB9.own (by omega)
      refine m_callVFq (As := [.int (nI k9)]) (st := []) C h_a rfl (c_Jx4a65c_get_915e3 D A l h_a h_b (j := k9) hkm ⟨hnc, by omega⟩) (cwV 1 C.1.2.2.2.2 gX7_hit_Jx4a65c_get_915e3 rfl rfl rfl (by decide +kernel) ⟨Nat.le_of_ble_eq_true rfl, Nat.le_of_ble_eq_true rfl⟩) rfl rfl (Nat.le_of_ble_eq_true rfl) dX7_hit_29 ⟨Nat.le_of_ble_eq_true rfl, Nat.le_of_ble_eq_true rfl⟩ ?_
      rw [hf9 k9 hkm, ← ha9]
      refine m_castN C (hR.nd hna) (by decide +kernel) dX7_hit_32 ?_
      refine m_astore (L' := [(4, .ref (Z (100 + a9))), (3, .int (nI k9)), (0, .ref (Z 0)), (1, .int (nI x9))]) C dX7_hit_35 (by decide) rfl ?_
      refine m_aload C dX7_hit_37 0 rfl ?_
      refine m_get (ref := "PaintLayers$Node") C (hR.nd hna) rfl i_X3 1 (by decide) (by decide +kernel) (fun x h => h) (v := va_rf (nSh Z ar a9)) rfl dX7_hit_39 ?_
      by_cases h3 : ar 3 a9 = 0
      · rw [show nSh Z ar a9 = none from if_pos h3]
        refine m_ifnull (x := none) (tgt := 71) C dX7_hit_42 (by decide) (fun _ => ?_) (fun q h => absurd h (by simp))
        obtain ⟨x4, ex4⟩ : ∃ y : Int32, y = nI k9 - 1 := ⟨_, rfl⟩
        refine m_iinc (q := 1) (v := x4) (L' := [(3, .int x4), (4, .ref (Z (100 + a9))), (0, .ref (Z 0)), (1, .int (nI x9))]) C dX7_hit_71 rfl (by rw [ex4, Int32.sub_eq_add_neg]; rfl) (by decide) rfl ?_
        refine m_goto (tgt := 20) C dX7_hit_74 (by decide) ?_
        refine m_sub (L' := [(3, .int x4), (0, .ref (Z 0)), (1, .int (nI x9))]) [0, 2, 3] rfl ?_
        exact ih k9 (by omega) k9 x4 rfl (by omega) ex4 (by rw [if_neg (by rw [shown_gr h3, Bool.false_and]; decide)] at hB; exact hB)
      · rw [show nSh Z ar a9 = some (Z (400 + a9)) from if_neg h3]
        refine m_ifnull (x := some (Z (400 + a9))) (tgt := 71) C dX7_hit_42 (by decide) (fun h => absurd h (by simp)) (fun _ _ => ?_)
        have e3 : fi 3 a9 = q_sn ar a9 := hfv a9 hna 3 (by decide)
        have hsb : bL (nl 2 a9) x9 = q_shown ar a9 (nI x9) (nI y9) := by rw [hs a9 hna x9 hx9]; exact any_sh hw hna h3 _ _
        refine m_aload C dX7_hit_45 0 rfl ?_
        refine m_get (ref := "PaintLayers$Node") C (hR.nd hna) rfl i_X3 14 (by decide) (by decide +kernel) (fun x h => h) (v := .int (fi 3 a9)) rfl dX7_hit_47 ?_
        refine m_if_le (tgt := 71) C dX7_hit_50 (by decide) (fun h_2 => ?_) (fun h_2 => ?_)
        · obtain ⟨x4, ex4⟩ : ∃ y : Int32, y = nI k9 - 1 := ⟨_, rfl⟩
          refine m_iinc (q := 1) (v := x4) (L' := [(3, .int x4), (4, .ref (Z (100 + a9))), (0, .ref (Z 0)), (1, .int (nI x9))]) C dX7_hit_71 rfl (by rw [ex4, Int32.sub_eq_add_neg]; rfl) (by decide) rfl ?_
          refine m_goto (tgt := 20) C dX7_hit_74 (by decide) ?_
          refine m_sub (L' := [(3, .int x4), (0, .ref (Z 0)), (1, .int (nI x9))]) [0, 2, 3] rfl ?_
          exact ih k9 (by omega) k9 x4 rfl (by omega) ex4 (by rw [if_neg (fun z => by rw [Bool.and_eq_true, decide_eq_true_eq, ← e3] at z; exact absurd z.2 (Int32.not_lt.mpr h_2))] at hB; exact hB)
        · refine m_aload C dX7_hit_53 0 rfl ?_
          refine m_get (ref := "PaintLayers$Node") C (hR.nd hna) rfl i_X3 18 (by decide) (by decide +kernel) (fun x h => h) (v := .long (nl 2 a9)) rfl dX7_hit_55 ?_
          refine m_iload_n C dX7_hit_58 rfl 3 rfl ?_
          refine m_callSFi (As := [.long (nl 2 a9), .int (nI x9)]) (st := []) (v := bI (bL (nl 2 a9) x9)) C (c_X7_hasBit D A l (x := x9) (by omega)) (va_cwS 2 C.1.2.2.2.2 gX7_hit_X7_hasBit rfl rfl rfl (by decide +kernel) ⟨Nat.le_of_ble_eq_true rfl, Nat.le_of_ble_eq_true rfl⟩) rfl rfl (Nat.le_of_ble_eq_true rfl) dX7_hit_59 ⟨Nat.le_of_ble_eq_true rfl, Nat.le_of_ble_eq_true rfl⟩ ?_
          refine m_if_eq (tgt := 71) C dX7_hit_62 (by decide) (fun hz_3 => ?_) (fun hz_3 => ?_)
          · have hz_3 := bI_z hz_3
            obtain ⟨x4, ex4⟩ : ∃ y : Int32, y = nI k9 - 1 := ⟨_, rfl⟩
            refine m_iinc (q := 1) (v := x4) (L' := [(3, .int x4), (4, .ref (Z (100 + a9))), (0, .ref (Z 0)), (1, .int (nI x9))]) C dX7_hit_71 rfl (by rw [ex4, Int32.sub_eq_add_neg]; rfl) (by decide) rfl ?_
            refine m_goto (tgt := 20) C dX7_hit_74 (by decide) ?_
            refine m_sub (L' := [(3, .int x4), (0, .ref (Z 0)), (1, .int (nI x9))]) [0, 2, 3] rfl ?_
            exact ih k9 (by omega) k9 x4 rfl (by omega) ex4 (by rw [if_neg (by rw [← hsb, hz_3, Bool.false_and]; decide)] at hB; exact hB)
          · have hz_3 := bI_n hz_3
            refine m_aload C dX7_hit_65 0 rfl ?_
            refine m_get (ref := "PaintLayers$Node") C (hR.nd hna) rfl i_X3 0 (by decide) (by decide +kernel) (fun x h => h) (v := .int (nI a9)) rfl dX7_hit_67 ?_
            refine m_sub (L' := [(0, .ref (Z 0))]) [2] rfl ?_
            exact k70 _ (by rw [← hB, if_pos (by rw [← hsb, hz_3, ← e3, decide_eq_true (Int32.not_le.mp h_2)]; rfl)])
set_option maxHeartbeats 4000000 in
set_option maxRecDepth 100000 in
theorem c_X7_hit (D : mD) (A : Nat → Prop) (l : Launch) (hst : l.stackTraces = false) {Z : Nat → Nat} {F : Mm} {cm : Nat} {g : Int32} {ar : rA} {M : Mm} (hI : cI D Z F cm g ar M) (hw : wf ar cm) (hb : BD ar cm) {x y : Int32} : mXi D A l yX7_hit wsX7_hit ({ frames := 9, cells := 1, slots := 6, locals := 600 } : Room) [.ref (Z 0), .int x, .int y] M (fun r M' => k_pix x y = 0 ∧ r = q_hitL ar (pre9 ar 0) x y ∧ cI D Z F cm g ar M') (fun E M' => cI D Z F cm g ar M' ∧ ((k_pix x y = 1 ∧ E = xIO))) 1 6 := by
  refine m_startX (cc := cX7_hit) (maxL := 5) (ret := (some .int)) (by decide) rfl (Nat.le_of_ble_eq_true rfl) ?_
  intro p e s m args below meth c C hE
  have i_X7 : ∀ w ∈ wsX70, w ∈ wsX7_hit := by decide +kernel
  have i_X3 : ∀ w ∈ wsX30, w ∈ wsX7_hit := by decide +kernel
  have iL : ∀ w ∈ wsJx4a65c0, w ∈ wsX7_hit := by decide +kernel
  refine m_sub (L' := [(0, .ref (Z 0)), (1, .int x), (2, .int y)]) [0, 1, 2] rfl ?_
  have hcm := hw.1.2
  have hI9 := hI
  obtain ⟨fi, nl, rw, hfv, hR⟩ := hI9
  refine m_iload_n C dX7_hit_0 rfl 1 rfl ?_
  refine m_iload_n C dX7_hit_1 rfl 2 rfl ?_
  refine m_callSXv (As := [.int x, .int y]) (st := []) C (c_X7_checkPixel D A l hst) (va_cwS 2 C.1.2.2.2.2 gX7_hit_X7_checkPixel rfl rfl rfl (by decide +kernel) ⟨Nat.le_of_ble_eq_true rfl, Nat.le_of_ble_eq_true rfl⟩) rfl rfl (Nat.le_of_ble_eq_true rfl) dX7_hit_2 ⟨Nat.le_of_ble_eq_true rfl, Nat.le_of_ble_eq_true rfl⟩ hE (fun E M9 z9 => ⟨by rw [z9.2.1]; exact hI, ⟨by unfold k_pix; rw [← okX_pix, z9.2.2]; rfl, z9.1⟩⟩) (Nat.le_of_ble_eq_true rfl) (Nat.le_of_ble_eq_true rfl) (fun M9 hq9 => ?_)
  obtain ⟨e9, hok⟩ := hq9
  subst e9
  rename Mm => M
  have hk0 : k_pix x y = 0 := by unfold k_pix; rw [← okX_pix, hok]; rfl
  obtain ⟨x9, y9, hx9, hy9, rfl, rfl⟩ := pix_n hok
  refine m_aload_n C dX7_hit_5 rfl 0 rfl ?_
  refine m_iload_n C dX7_hit_6 rfl 2 rfl ?_
  refine m_callVv (As := [.int (nI y9)]) (st := []) C hR.me rfl (c_X7_scanRow D A l hR hw hb hfv hy9) (cwV 1 C.1.2.2.2.2 gX7_hit_X7_scanRow rfl rfl rfl (by decide +kernel) ⟨Nat.le_of_ble_eq_true rfl, Nat.le_of_ble_eq_true rfl⟩) rfl rfl (Nat.le_of_ble_eq_true rfl) dX7_hit_7 ⟨Nat.le_of_ble_eq_true rfl, Nat.le_of_ble_eq_true rfl⟩ (fun M1 hq1 => ?_)
  obtain ⟨m1, hR1, hs1⟩ := hq1
  rename cS D Z F cm g ar fi m1 (pre9 ar 0) rw M1 => hR
  obtain ⟨b9, cap9, f9, mc9, h_a, hB9, hnc, h60, hf9, hall⟩ := hR.od
  refine m_aload_n C dX7_hit_10 rfl 0 rfl ?_
  refine m_get (ref := "PaintLayers") C hR.me rfl i_X7 2 (by decide) (by decide +kernel) (fun x h => h) (v := .ref (Z 240)) rfl dX7_hit_11 ?_
  refine m_callVFi (As := []) (st := []) (v := nI ((pre9 ar 0).length)) C h_a rfl (c_Jx4a65c_size_8abf5 D A l h_a) (cwV 0 C.1.2.2.2.2 gX7_hit_Jx4a65c_size_8abf5 rfl rfl rfl (by decide +kernel) ⟨Nat.le_of_ble_eq_true rfl, Nat.le_of_ble_eq_true rfl⟩) rfl rfl (Nat.le_of_ble_eq_true rfl) dX7_hit_14 ⟨Nat.le_of_ble_eq_true rfl, Nat.le_of_ble_eq_true rfl⟩ ?_
  refine m_iconst (v := 1) C dX7_hit_17 (by decide) ?_
  refine m_isub C dX7_hit_18 ?_
  refine m_istore_n (L' := [(3, .int ((nI ((pre9 ar 0).length)) - 1)), (0, .ref (Z 0)), (1, .int (nI x9)), (2, .int (nI y9))]) C dX7_hit_19 rfl (by decide) rfl ?_
  refine m_sub (L' := [(3, .int ((nI ((pre9 ar 0).length)) - 1)), (0, .ref (Z 0)), (1, .int (nI x9))]) [0, 1, 2] rfl ?_
  refine m_widen (k' := 1) (n' := 6) (Nat.le_of_ble_eq_true rfl) (Nat.le_of_ble_eq_true rfl) ?_
  refine lp_X7_hit hR hw hfv hx9 hs1 (B := q_hitL ar (pre9 ar 0) (nI x9) (nI y9)) i_X7 i_X3 iL C (fun hB => ?_) (fun v hB => ?_) _ (pre9 ar 0).length _ rfl (Nat.le_refl _) rfl (by rw [List.take_length])
  · refine m_iconst (v := (-1)) C dX7_hit_77 (by decide) ?_
    exact m_iretX C (Nat.le_of_ble_eq_true rfl) (Nat.le_of_ble_eq_true rfl) dX7_hit_78 (⟨hk0, hB, fi, m1, rw, hfv, hR⟩)
  · exact m_iretX C (Nat.le_of_ble_eq_true rfl) (Nat.le_of_ble_eq_true rfl) dX7_hit_70 (⟨hk0, hB, fi, m1, rw, hfv, hR⟩)
theorem chg_s {ar : rA} {g : Int32} {L : List Nat} {t r c : Nat} (hc : c < 8) : q_chg ar g L t (8 * r + (c + 1)) = q_chg ar g L t (8 * r + c) + (if q_val ar g L (nI (8 * (t % 8) + c)) (nI (8 * (t / 8) + r)) = ar 16 (64 * (8 * (t / 8) + r) + (8 * (t % 8) + c)) then 0 else 1) := by
  show q_chg ar g L t (8 * r + c + 1) = _
  rw [q_chg, show (8 * r + c) % 8 = c by omega, show (8 * r + c) / 8 = r by omega]
set_option maxHeartbeats 4000000 in
set_option maxRecDepth 100000 in
theorem lp_X7_changed1 {p : Program} {l : Launch} {e : Env} {s : State} {m : MethodId} {args : Array Value} {below : List Frame} {meth : Method} {c : Code} {Q : State → Prop} {D : mD} {A : Nat → Prop} {Z : Nat → Nat} {F : Mm} {cm : Nat} {g : Int32} {ar : rA} {fi : Nat → Nat → Int32} {nl : Nat → Nat → Int64} {rw : Nat → Int32} {M : Mm} (hR : cS D Z F cm g ar fi nl (pre9 ar 0) rw M) {t9 r9 : Nat} (ht9 : t9 < 48) (hr9 : r9 < 8) (hv : ∀ x, x < 64 → rw x = q_val ar g (pre9 ar 0) (nI x) (nI (8 * (t9 / 8) + r9))) (i_X7 : ∀ w ∈ wsX70, w ∈ wsX7_changed) (C : mC p m meth c cX7_changed 7 s args wsX7_changed yX7_changed.cls D A yX7_changed (some .int)) (kx : mV p l e ({ frames := 10, cells := 1, slots := 6, locals := 600 } : Room) s m args below meth c 7 D A Q M 1 6 [(4, .int (nI (q_chg ar g (pre9 ar 0) t9 (8 * r9 + 8)))), (5, .int (nI (8 * (t9 / 8) + r9))), (3, .int (nI (8 * (t9 / 8)))), (2, .int (nI (8 * (t9 % 8)))), (0, .ref (Z 0))] [] 87) : ∀ (N : Nat) (c9 : Nat), 8 - c9 = N → (c9 ≤ 8) → mV p l e ({ frames := 10, cells := 1, slots := 6, locals := 600 } : Room) s m args below meth c 7 D A Q M 1 6 [(6, .int (nI (8 * (t9 % 8) + c9))), (4, .int (nI (q_chg ar g (pre9 ar 0) t9 (8 * r9 + c9)))), (5, .int (nI (8 * (t9 / 8) + r9))), (3, .int (nI (8 * (t9 / 8)))), (2, .int (nI (8 * (t9 % 8)))), (0, .ref (Z 0))] [] 46 := by
  intro N
  induction N using Nat.strongRecOn with
  | _ N ih =>
    intro c9 hN hk
    have hle := q_chg_le ar g (pre9 ar 0) t9 (8 * r9 + c9)
    refine m_iload C dX7_changed_46 0 rfl ?_
    refine m_iload_n C dX7_changed_48 rfl 4 rfl ?_
    refine m_bipush (v := 8) C dX7_changed_49 (by decide) ?_
    refine m_iadd C dX7_changed_51 ?_
    refine m_i (y := nI (8 * (t9 % 8) + 8)) (nI_add _ 8) ?_
    refine m_icmp_ge (tgt := 87) C dX7_changed_52 (by decide) (fun h_1 => ?_) (fun h_1 => ?_)
    · refine m_sub (L' := [(4, .int (nI (q_chg ar g (pre9 ar 0) t9 (8 * r9 + c9)))), (5, .int (nI (8 * (t9 / 8) + r9))), (3, .int (nI (8 * (t9 / 8)))), (2, .int (nI (8 * (t9 % 8)))), (0, .ref (Z 0))]) [1, 2, 3, 4, 5] rfl ?_
      have hkm : c9 = 8 := by
        have := (nI_leI (a := 8 * (t9 % 8) + 8) (b := 8 * (t9 % 8) + c9) (by omega) (by omega)).mp h_1
        omega
      subst hkm
      exact kx
    · have hkm : c9 < 8 := by
        rcases Nat.lt_or_ge c9 8 with z | z
        · exact z
        · exact absurd (nI_le (a := 8 * (t9 % 8) + 8) (b := 8 * (t9 % 8) + c9) (by omega) (by omega)) h_1
      have hcs := chg_s (ar := ar) (g := g) (L := pre9 ar 0) (t := t9) (r := r9) hkm
      refine m_aload_n C dX7_changed_55 rfl 5 rfl ?_
      refine m_get (ref := "PaintLayers") C hR.me rfl i_X7 4 (by decide) (by decide +kernel) (fun x h => h) (v := .ref (Z 3)) rfl dX7_changed_56 ?_
      refine m_iload C dX7_changed_59 0 rfl ?_
      refine m_iald C hR.1.grw (vp_in_nI (show 8 * (t9 % 8) + c9 < 64 by omega) (by omega)) dX7_changed_61 ?_
      rw [nI_clamp (show 8 * (t9 % 8) + c9 < 2 ^ 31 by omega)]
      refine m_aload_n C dX7_changed_62 rfl 5 rfl ?_
      refine m_get (ref := "PaintLayers") C hR.me rfl i_X7 3 (by decide) (by decide +kernel) (fun x h => h) (v := .ref (Z 2)) rfl dX7_changed_63 ?_
      refine m_iload C dX7_changed_66 2 rfl ?_
      refine m_bipush (v := 64) C dX7_changed_68 (by decide) ?_
      refine m_imul C dX7_changed_70 ?_
      refine m_i (y := nI ((8 * (t9 / 8) + r9) * 64)) (pk_mul _ 64) ?_
      refine m_iload C dX7_changed_71 0 rfl ?_
      refine m_iadd C dX7_changed_73 ?_
      refine m_i (y := nI (64 * (8 * (t9 / 8) + r9) + (8 * (t9 % 8) + c9))) (by rw [nI_add, Nat.mul_comm 64]) ?_
      refine m_iald C hR.1.gcv (vp_in_nI (show 64 * (8 * (t9 / 8) + r9) + (8 * (t9 % 8) + c9) < 3072 by omega) (by omega)) dX7_changed_74 ?_
      rw [nI_clamp (show 64 * (8 * (t9 / 8) + r9) + (8 * (t9 % 8) + c9) < 2 ^ 31 by omega)]
      refine m_icmp_eq (tgt := 81) C dX7_changed_75 (by decide) (fun h_2 => ?_) (fun h_2 => ?_)
      · rw [← hv (8 * (t9 % 8) + c9) (by omega), if_pos h_2] at hcs
        have hcs := hcs.trans (Nat.add_zero _)
        rw [← hcs]
        obtain ⟨x_3, ex_3⟩ : ∃ z : Int32, z = nI (8 * (t9 % 8) + c9) + 1 := ⟨_, rfl⟩
        refine m_iinc (q := 0) (v := x_3) (L' := [(6, .int x_3), (4, .int (nI (q_chg ar g (pre9 ar 0) t9 (8 * r9 + (c9 + 1))))), (5, .int (nI (8 * (t9 / 8) + r9))), (3, .int (nI (8 * (t9 / 8)))), (2, .int (nI (8 * (t9 % 8)))), (0, .ref (Z 0))]) C dX7_changed_81 rfl (by rw [ex_3]; rfl) (by decide) rfl ?_
        refine m_goto (tgt := 46) C dX7_changed_84 (by decide) ?_
        rw [nI_1] at ex_3
        subst ex_3
        refine m_sub (L' := [(6, .int (nI (8 * (t9 % 8) + (c9 + 1)))), (4, .int (nI (q_chg ar g (pre9 ar 0) t9 (8 * r9 + (c9 + 1))))), (5, .int (nI (8 * (t9 / 8) + r9))), (3, .int (nI (8 * (t9 / 8)))), (2, .int (nI (8 * (t9 % 8)))), (0, .ref (Z 0))]) [0, 1, 2, 3, 4, 5] rfl ?_
        exact ih (8 - (c9 + 1)) (by omega) (c9 + 1) rfl (by omega)
      · rw [← hv (8 * (t9 % 8) + c9) (by omega), if_neg h_2] at hcs
        obtain ⟨x_4, ex_4⟩ : ∃ z : Int32, z = nI (q_chg ar g (pre9 ar 0) t9 (8 * r9 + c9)) + 1 := ⟨_, rfl⟩
        refine m_iinc (q := 1) (v := x_4) (L' := [(4, .int x_4), (6, .int (nI (8 * (t9 % 8) + c9))), (5, .int (nI (8 * (t9 / 8) + r9))), (3, .int (nI (8 * (t9 / 8)))), (2, .int (nI (8 * (t9 % 8)))), (0, .ref (Z 0))]) C dX7_changed_78 rfl (by rw [ex_4]; rfl) (by decide) rfl ?_
        rw [nI_1, ← hcs] at ex_4
        subst ex_4
        obtain ⟨x_5, ex_5⟩ : ∃ z : Int32, z = nI (8 * (t9 % 8) + c9) + 1 := ⟨_, rfl⟩
        refine m_iinc (q := 1) (v := x_5) (L' := [(6, .int x_5), (4, .int (nI (q_chg ar g (pre9 ar 0) t9 (8 * r9 + (c9 + 1))))), (5, .int (nI (8 * (t9 / 8) + r9))), (3, .int (nI (8 * (t9 / 8)))), (2, .int (nI (8 * (t9 % 8)))), (0, .ref (Z 0))]) C dX7_changed_81 rfl (by rw [ex_5]; rfl) (by decide) rfl ?_
        refine m_goto (tgt := 46) C dX7_changed_84 (by decide) ?_
        rw [nI_1] at ex_5
        subst ex_5
        refine m_sub (L' := [(6, .int (nI (8 * (t9 % 8) + (c9 + 1)))), (4, .int (nI (q_chg ar g (pre9 ar 0) t9 (8 * r9 + (c9 + 1))))), (5, .int (nI (8 * (t9 / 8) + r9))), (3, .int (nI (8 * (t9 / 8)))), (2, .int (nI (8 * (t9 % 8)))), (0, .ref (Z 0))]) [0, 1, 2, 3, 4, 5] rfl ?_
        exact ih (8 - (c9 + 1)) (by omega) (c9 + 1) rfl (by omega)
set_option maxHeartbeats 4000000 in
set_option maxRecDepth 100000 in
theorem lp_X7_changed {p : Program} {l : Launch} {e : Env} {s : State} {m : MethodId} {args : Array Value} {below : List Frame} {meth : Method} {c : Code} {Q : State → Prop} {D : mD} {A : Nat → Prop} {Z : Nat → Nat} {F : Mm} {cm : Nat} {g : Int32} {ar : rA} {fi : Nat → Nat → Int32} (hw : wf ar cm) (hb : BD ar cm) (hfv : FV ar cm fi) (i_X7 : ∀ w ∈ wsX70, w ∈ wsX7_changed) {t9 : Nat} (ht9 : t9 < 48) (C : mC p m meth c cX7_changed 7 s args wsX7_changed yX7_changed.cls D A yX7_changed (some .int)) (kx : ∀ (nl : Nat → Nat → Int64) (rw : Nat → Int32) (M : Mm), cS D Z F cm g ar fi nl (pre9 ar 0) rw M → mV p l e ({ frames := 10, cells := 1, slots := 6, locals := 600 } : Room) s m args below meth c 7 D A Q M 1 6 [(4, .int (nI (q_chg ar g (pre9 ar 0) t9 64)))] [] 93) : ∀ (N : Nat) (r9 : Nat) (nl : Nat → Nat → Int64) (rw : Nat → Int32) (M : Mm), 8 - r9 = N → (r9 ≤ 8) → (cS D Z F cm g ar fi nl (pre9 ar 0) rw M) → mV p l e ({ frames := 10, cells := 1, slots := 6, locals := 600 } : Room) s m args below meth c 7 D A Q M 1 6 [(5, .int (nI (8 * (t9 / 8) + r9))), (4, .int (nI (q_chg ar g (pre9 ar 0) t9 (8 * r9)))), (3, .int (nI (8 * (t9 / 8)))), (2, .int (nI (8 * (t9 % 8)))), (0, .ref (Z 0))] [] 28 := by
  intro N
  induction N using Nat.strongRecOn with
  | _ N ih =>
    intro r9 nl rw M hN hk hR
    refine m_iload C dX7_changed_28 0 rfl ?_
    refine m_iload_n C dX7_changed_30 rfl 2 rfl ?_
    refine m_bipush (v := 8) C dX7_changed_31 (by decide) ?_
    refine m_iadd C dX7_changed_33 ?_
    refine m_i (y := nI (8 * (t9 / 8) + 8)) (nI_add _ 8) ?_
    refine m_icmp_ge (tgt := 93) C dX7_changed_34 (by decide) (fun h_1 => ?_) (fun h_1 => ?_)
    · refine m_sub (L' := [(4, .int (nI (q_chg ar g (pre9 ar 0) t9 (8 * r9))))]) [1] rfl ?_
      have hkm : r9 = 8 := by
        have := (nI_leI (a := 8 * (t9 / 8) + 8) (b := 8 * (t9 / 8) + r9) (by omega) (by omega)).mp h_1
        omega
      subst hkm
      exact kx nl rw M hR
    · have hkm : r9 < 8 := by
        rcases Nat.lt_or_ge r9 8 with z | z
        · exact z
        · exact absurd (nI_le (a := 8 * (t9 / 8) + 8) (b := 8 * (t9 / 8) + r9) (by omega) (by omega)) h_1
      have hy9 : 8 * (t9 / 8) + r9 < 48 := by omega
      refine m_aload_n C dX7_changed_37 rfl 4 rfl ?_
      refine m_iload C dX7_changed_38 0 rfl ?_
      refine m_callVv (As := [.int (nI (8 * (t9 / 8) + r9))]) (st := []) C hR.me rfl (c_X7_mixRow D A l hR hw hb hfv hy9) (cwV 1 C.1.2.2.2.2 gX7_changed_X7_mixRow rfl rfl rfl (by decide +kernel) ⟨Nat.le_of_ble_eq_true rfl, Nat.le_of_ble_eq_true rfl⟩) rfl rfl (Nat.le_of_ble_eq_true rfl) dX7_changed_40 ⟨Nat.le_of_ble_eq_true rfl, Nat.le_of_ble_eq_true rfl⟩ (fun M1 hq1 => ?_)
      obtain ⟨m1, rw1, hR1, hv1⟩ := hq1
      refine m_iload_n C dX7_changed_43 rfl 3 rfl ?_
      refine m_istore (L' := [(6, .int (nI (8 * (t9 % 8)))), (5, .int (nI (8 * (t9 / 8) + r9))), (4, .int (nI (q_chg ar g (pre9 ar 0) t9 (8 * r9)))), (3, .int (nI (8 * (t9 / 8)))), (2, .int (nI (8 * (t9 % 8)))), (0, .ref (Z 0))]) C dX7_changed_44 (by decide) rfl ?_
      refine m_sub (L' := [(6, .int (nI (8 * (t9 % 8)))), (4, .int (nI (q_chg ar g (pre9 ar 0) t9 (8 * r9)))), (5, .int (nI (8 * (t9 / 8) + r9))), (3, .int (nI (8 * (t9 / 8)))), (2, .int (nI (8 * (t9 % 8)))), (0, .ref (Z 0))]) [0, 2, 1, 3, 4, 5] rfl ?_
      refine lp_X7_changed1 hR1 ht9 hkm hv1 i_X7 C ?_ _ 0 rfl (Nat.zero_le _)
      obtain ⟨x_2, ex_2⟩ : ∃ z : Int32, z = nI (8 * (t9 / 8) + r9) + 1 := ⟨_, rfl⟩
      refine m_iinc (q := 1) (v := x_2) (L' := [(5, .int x_2), (4, .int (nI (q_chg ar g (pre9 ar 0) t9 (8 * r9 + 8)))), (3, .int (nI (8 * (t9 / 8)))), (2, .int (nI (8 * (t9 % 8)))), (0, .ref (Z 0))]) C dX7_changed_87 rfl (by rw [ex_2]; rfl) (by decide) rfl ?_
      refine m_goto (tgt := 28) C dX7_changed_90 (by decide) ?_
      rw [nI_1] at ex_2
      subst ex_2
      refine m_sub (L' := [(5, .int (nI (8 * (t9 / 8) + (r9 + 1)))), (4, .int (nI (q_chg ar g (pre9 ar 0) t9 (8 * r9 + 8)))), (3, .int (nI (8 * (t9 / 8)))), (2, .int (nI (8 * (t9 % 8)))), (0, .ref (Z 0))]) [0, 1, 2, 3, 4] rfl ?_
      exact ih (8 - (r9 + 1)) (by omega) (r9 + 1) m1 rw1 M1 rfl (by omega) hR1
set_option maxHeartbeats 4000000 in
set_option maxRecDepth 100000 in
theorem c_X7_changed (D : mD) (A : Nat → Prop) (l : Launch) (hst : l.stackTraces = false) {Z : Nat → Nat} {F : Mm} {cm : Nat} {g : Int32} {ar : rA} {M : Mm} (hI : cI D Z F cm g ar M) (hw : wf ar cm) (hb : BD ar cm) {v : Int32} : mXi D A l yX7_changed wsX7_changed ({ frames := 10, cells := 1, slots := 6, locals := 600 } : Room) [.ref (Z 0), .int v] M (fun r M' => k_tile v = 0 ∧ r = nI (q_chg ar g (pre9 ar 0) (jN v) 64) ∧ cI D Z F cm g ar M') (fun E M' => cI D Z F cm g ar M' ∧ ((k_tile v = 1 ∧ E = xIO))) 1 6 := by
  refine m_startX (cc := cX7_changed) (maxL := 7) (ret := (some .int)) (by decide) rfl (Nat.le_of_ble_eq_true rfl) ?_
  intro p e s m args below meth c C hE
  have i_X7 : ∀ w ∈ wsX70, w ∈ wsX7_changed := by decide +kernel
  refine m_sub (L' := [(0, .ref (Z 0)), (1, .int v)]) [0, 1] rfl ?_
  have hcm := hw.1.2
  have hI9 := hI
  obtain ⟨fi, nl, rw, hfv, hR⟩ := hI9
  refine m_iload_n C dX7_changed_0 rfl 1 rfl ?_
  refine m_bipush (v := 48) C dX7_changed_1 (by decide) ?_
  refine m_callSXv (As := [.int v, .int 48]) (st := []) C (c_X7_checkIndex D A l hst) (va_cwS 2 C.1.2.2.2.2 gX7_changed_X7_checkIndex rfl rfl rfl (by decide +kernel) ⟨Nat.le_of_ble_eq_true rfl, Nat.le_of_ble_eq_true rfl⟩) rfl rfl (Nat.le_of_ble_eq_true rfl) dX7_changed_3 ⟨Nat.le_of_ble_eq_true rfl, Nat.le_of_ble_eq_true rfl⟩ hE (fun E M9 z9 => ⟨by rw [z9.2.1]; exact hI, ⟨by unfold k_tile; rw [← show okI v 48 = q_in v 0 47 from okI_in (m := 48) (by decide) (by decide) v, z9.2.2]; rfl, z9.1⟩⟩) (Nat.le_of_ble_eq_true rfl) (Nat.le_of_ble_eq_true rfl) (fun M9 hq9 => ?_)
  obtain ⟨e9, hok⟩ := hq9
  subst e9
  rename Mm => M
  rw [show okI v 48 = q_in v 0 47 from okI_in (m := 48) (by decide) (by decide) v] at hok
  have hk0 : k_tile v = 0 := by unfold k_tile; rw [hok]; rfl
  obtain ⟨t9, ht9, rfl⟩ := q_in_N (a := 47) (by decide) hok
  refine m_iload_n C dX7_changed_6 rfl 1 rfl ?_
  refine m_bipush (v := 8) C dX7_changed_7 (by decide) ?_
  refine m_irem C dX7_changed_9 (by decide) ?_
  refine m_i (y := nI (t9 % 8)) (pk_rem (d := 8) (by omega) (by decide) (by decide)) ?_
  refine m_bipush (v := 8) C dX7_changed_10 (by decide) ?_
  refine m_imul C dX7_changed_12 ?_
  refine m_i (y := nI (8 * (t9 % 8))) (by rw [Nat.mul_comm]; exact pk_mul _ 8) ?_
  refine m_istore_n (L' := [(2, .int (nI (8 * (t9 % 8)))), (0, .ref (Z 0)), (1, .int (nI t9))]) C dX7_changed_13 rfl (by decide) rfl ?_
  refine m_iload_n C dX7_changed_14 rfl 2 rfl ?_
  refine m_bipush (v := 8) C dX7_changed_15 (by decide) ?_
  refine m_idiv C dX7_changed_17 (by decide) ?_
  refine m_i (y := nI (t9 / 8)) (pk_div (d := 8) (by omega) (by decide) (by decide)) ?_
  refine m_bipush (v := 8) C dX7_changed_18 (by decide) ?_
  refine m_imul C dX7_changed_20 ?_
  refine m_i (y := nI (8 * (t9 / 8))) (by rw [Nat.mul_comm]; exact pk_mul _ 8) ?_
  refine m_istore_n (L' := [(3, .int (nI (8 * (t9 / 8)))), (2, .int (nI (8 * (t9 % 8)))), (0, .ref (Z 0)), (1, .int (nI t9))]) C dX7_changed_21 rfl (by decide) rfl ?_
  refine m_iconst (v := 0) C dX7_changed_22 (by decide) ?_
  refine m_istore (L' := [(4, .int 0), (3, .int (nI (8 * (t9 / 8)))), (2, .int (nI (8 * (t9 % 8)))), (0, .ref (Z 0)), (1, .int (nI t9))]) C dX7_changed_23 (by decide) rfl ?_
  refine m_iload_n C dX7_changed_25 rfl 1 rfl ?_
  refine m_istore (L' := [(5, .int (nI (8 * (t9 / 8)))), (4, .int 0), (3, .int (nI (8 * (t9 / 8)))), (2, .int (nI (8 * (t9 % 8)))), (0, .ref (Z 0)), (1, .int (nI t9))]) C dX7_changed_26 (by decide) rfl ?_
  refine m_sub (L' := [(5, .int (nI (8 * (t9 / 8)))), (4, .int 0), (3, .int (nI (8 * (t9 / 8)))), (2, .int (nI (8 * (t9 % 8)))), (0, .ref (Z 0))]) [0, 1, 2, 3, 4] rfl ?_
  refine m_widen (k' := 1) (n' := 6) (Nat.le_of_ble_eq_true rfl) (Nat.le_of_ble_eq_true rfl) ?_
  refine lp_X7_changed hw hb hfv i_X7 (show t9 < 48 by omega) C (fun nl9 rw9 M9 hR9 => ?_) _ 0 nl rw M rfl (Nat.zero_le _) hR
  refine m_iload C dX7_changed_93 0 rfl ?_
  exact m_iretX C (Nat.le_of_ble_eq_true rfl) (Nat.le_of_ble_eq_true rfl) dX7_changed_95 (⟨hk0, by rw [show jN (nI t9) = t9 from nI_clamp (by omega)], fi, nl9, rw9, hfv, hR9⟩)
theorem pnt_s {ar : rA} {g : Int32} {L : List Nat} {cv : Nat → Int32} {y x : Nat} (hx : x < 64) : q_pnt ar g L cv (64 * y + (x + 1)) = upd (q_pnt ar g L cv (64 * y + x)) (64 * y + x) (q_val ar g L (nI x) (nI y)) := by
  show q_pnt ar g L cv (64 * y + x + 1) = _
  rw [q_pnt, show (64 * y + x) % 64 = x by omega, show (64 * y + x) / 64 = y by omega]
theorem FV16 {ar : rA} {cm : Nat} {fi : Nat → Nat → Int32} {c : Nat → Int32} (h : FV ar cm fi) : FV (upA ar 16 c) cm fi := fun n hn i hi => by
  rw [q_fv_cg (ar1 := upA ar 16 c) (ar := ar) rfl rfl rfl rfl rfl rfl]
  exact h n hn i hi
theorem pnt_ge {ar : rA} {g : Int32} {L : List Nat} {cv : Nat → Int32} {j : Nat} : ∀ k, k ≤ j → q_pnt ar g L cv k j = cv j
  | 0, _ => rfl
  | k + 1, h => by
    rw [q_pnt]
    show (if j = k then _ else q_pnt ar g L cv k j) = cv j
    rw [if_neg (by omega), pnt_ge k (by omega)]
theorem tr_cv {ar : rA} {g : Int32} {L : List Nat} {c : Nat → Int32} {y t : Nat} (h : ∀ x, x < 64 → c (64 * y + x) = ar 16 (64 * y + x)) : ∀ k, k ≤ 64 → q_tr (upA ar 16 c) g L y t k = q_tr ar g L y t k
  | 0, _ => rfl
  | k + 1, hk => by
    have e : q_df (upA ar 16 c) g L k y = q_df ar g L k y := by
      unfold q_df
      rw [cv_val, upA_s, h k (by omega)]
    rw [q_tr, q_tr, tr_cv h k (by omega), e]
set_option maxHeartbeats 4000000 in
set_option maxRecDepth 100000 in
theorem lp_X7_paint1 {p : Program} {l : Launch} {e : Env} {s : State} {m : MethodId} {args : Array Value} {below : List Frame} {meth : Method} {c : Code} {Q : State → Prop} {D : mD} {A : Nat → Prop} {Z : Nat → Nat} {F : Mm} {cm : Nat} {g : Int32} {ar : rA} {fi : Nat → Nat → Int32} {nl : Nat → Nat → Int64} {rw : Nat → Int32} {y9 : Nat} (hy9 : y9 < 48) (hv : ∀ x, x < 64 → rw x = q_val ar g (pre9 ar 0) (nI x) (nI y9)) {tv : Int64} (i_X7 : ∀ w ∈ wsX70, w ∈ wsX7_paint) (C : mC p m meth c cX7_paint 5 s args wsX7_paint yX7_paint.cls D A yX7_paint (some .int)) (kx : ∀ M : Mm, cS D Z F cm g (upA ar 16 (q_pnt ar g (pre9 ar 0) (ar 16) (64 * y9 + 64))) fi nl (pre9 ar 0) rw M → mV p l e ({ frames := 10, cells := 0, slots := 0, locals := 620 } : Room) s m args below meth c 5 D A Q M 0 0 [(1, .long tv), (3, .int (nI y9)), (0, .ref (Z 0))] [] 53) : ∀ (N : Nat) (x9 : Nat) (M : Mm), 64 - x9 = N → (x9 ≤ 64) → (cS D Z F cm g (upA ar 16 (q_pnt ar g (pre9 ar 0) (ar 16) (64 * y9 + x9))) fi nl (pre9 ar 0) rw M) → mV p l e ({ frames := 10, cells := 0, slots := 0, locals := 620 } : Room) s m args below meth c 5 D A Q M 0 0 [(4, .int (nI x9)), (1, .long tv), (3, .int (nI y9)), (0, .ref (Z 0))] [] 21 := by
  intro N
  induction N using Nat.strongRecOn with
  | _ N ih =>
    intro x9 M hN hk hR
    refine m_iload C dX7_paint_21 0 rfl ?_
    refine m_bipush (v := 64) C dX7_paint_23 (by decide) ?_
    refine m_icmp_ge (tgt := 53) C dX7_paint_25 (by decide) (fun h_1 => ?_) (fun h_1 => ?_)
    · refine m_sub (L' := [(1, .long tv), (3, .int (nI y9)), (0, .ref (Z 0))]) [1, 2, 3] rfl ?_
      have hkm : x9 = 64 := by
        have := (nI_leI (a := 64) (b := x9) (by omega) (by omega)).mp h_1
        omega
      subst hkm
      exact kx M hR
    · have hkm : x9 < 64 := by
        rcases Nat.lt_or_ge x9 64 with z | z
        · exact z
        · exact absurd (nI_le (a := 64) (b := x9) z (by omega)) h_1
      refine m_aload_n C dX7_paint_28 rfl 3 rfl ?_
      refine m_get (ref := "PaintLayers") C hR.me rfl i_X7 3 (by decide) (by decide +kernel) (fun x h => h) (v := .ref (Z 2)) rfl dX7_paint_29 ?_
      refine m_iload_n C dX7_paint_32 rfl 2 rfl ?_
      refine m_bipush (v := 64) C dX7_paint_33 (by decide) ?_
      refine m_imul C dX7_paint_35 ?_
      refine m_i (y := nI (y9 * 64)) (pk_mul _ 64) ?_
      refine m_iload C dX7_paint_36 0 rfl ?_
      refine m_iadd C dX7_paint_38 ?_
      refine m_i (y := nI (64 * y9 + x9)) (by rw [nI_add, Nat.mul_comm 64]) ?_
      refine m_aload_n C dX7_paint_39 rfl 3 rfl ?_
      refine m_get (ref := "PaintLayers") C hR.me rfl i_X7 4 (by decide) (by decide +kernel) (fun x h => h) (v := .ref (Z 3)) rfl dX7_paint_40 ?_
      refine m_iload C dX7_paint_43 0 rfl ?_
      refine m_iald C hR.1.grw (vp_in_nI hkm (by omega)) dX7_paint_45 ?_
      rw [nI_clamp (show x9 < 2 ^ 31 by omega)]
      refine m_iast C hR.1.gcv (vp_in_nI (show 64 * y9 + x9 < 3072 by omega) (by omega)) dX7_paint_46 ?_
      rw [nI_clamp (show 64 * y9 + x9 < 2 ^ 31 by omega)]
      have e9 : upd ((upA ar 16 (q_pnt ar g (pre9 ar 0) (ar 16) (64 * y9 + x9))) 16) (64 * y9 + x9) (rw x9) = q_pnt ar g (pre9 ar 0) (ar 16) (64 * y9 + (x9 + 1)) := by rw [pnt_s hkm, upA_s, hv x9 hkm]
      rw [e9]
      have hR9 := hR.scv (q_pnt ar g (pre9 ar 0) (ar 16) (64 * y9 + (x9 + 1)))
      rw [upA_upA] at hR9
      revert hR9
      generalize m_up M _ _ = M
      intro hR
      obtain ⟨x_2, ex_2⟩ : ∃ z : Int32, z = nI x9 + 1 := ⟨_, rfl⟩
      refine m_iinc (q := 0) (v := x_2) (L' := [(4, .int x_2), (1, .long tv), (3, .int (nI y9)), (0, .ref (Z 0))]) C dX7_paint_47 rfl (by rw [ex_2]; rfl) (by decide) rfl ?_
      refine m_goto (tgt := 21) C dX7_paint_50 (by decide) ?_
      rw [nI_1] at ex_2
      subst ex_2
      refine m_sub (L' := [(4, .int (nI (x9 + 1))), (1, .long tv), (3, .int (nI y9)), (0, .ref (Z 0))]) [0, 1, 2, 3] rfl ?_
      exact ih (64 - (x9 + 1)) (by omega) (x9 + 1) M rfl (by omega) hR
set_option maxHeartbeats 4000000 in
set_option maxRecDepth 100000 in
theorem lp_X7_paint {p : Program} {l : Launch} {e : Env} {s : State} {m : MethodId} {args : Array Value} {below : List Frame} {meth : Method} {c : Code} {Q : State → Prop} {D : mD} {A : Nat → Prop} {Z : Nat → Nat} {F : Mm} {cm : Nat} {g : Int32} {ar : rA} {fi : Nat → Nat → Int32} (hw : wf ar cm) (hb : BD ar cm) (hfv : FV ar cm fi) (i_X7 : ∀ w ∈ wsX70, w ∈ wsX7_paint) (C : mC p m meth c cX7_paint 5 s args wsX7_paint yX7_paint.cls D A yX7_paint (some .int)) (kx : ∀ (t : Int64) (nl : Nat → Nat → Int64) (rw : Nat → Int32) (M : Mm), cS D Z F cm g (upA ar 16 (q_pnt ar g (pre9 ar 0) (ar 16) 3072)) fi nl (pre9 ar 0) rw M → (∀ tl, tl < 64 → bL t tl = q_tt ar g (pre9 ar 0) tl 48) → mV p l e ({ frames := 10, cells := 0, slots := 0, locals := 620 } : Room) s m args below meth c 5 D A Q M 0 0 [(1, .long t)] [] 59) : ∀ (N : Nat) (y9 : Nat) (t9 : Int64) (nl : Nat → Nat → Int64) (rw : Nat → Int32) (M : Mm), 48 - y9 = N → (y9 ≤ 48) → (cS D Z F cm g (upA ar 16 (q_pnt ar g (pre9 ar 0) (ar 16) (64 * y9))) fi nl (pre9 ar 0) rw M) → (∀ tl, tl < 64 → bL t9 tl = q_tt ar g (pre9 ar 0) tl y9) → mV p l e ({ frames := 10, cells := 0, slots := 0, locals := 620 } : Room) s m args below meth c 5 D A Q M 0 0 [(3, .int (nI y9)), (1, .long t9), (0, .ref (Z 0))] [] 4 := by
  intro N
  induction N using Nat.strongRecOn with
  | _ N ih =>
    intro y9 t9 nl rw M hN hk hR ht
    refine m_iload_n C dX7_paint_4 rfl 0 rfl ?_
    refine m_bipush (v := 48) C dX7_paint_5 (by decide) ?_
    refine m_icmp_ge (tgt := 59) C dX7_paint_7 (by decide) (fun h_1 => ?_) (fun h_1 => ?_)
    · refine m_sub (L' := [(1, .long t9)]) [1] rfl ?_
      have hkm : y9 = 48 := by
        have := (nI_leI (a := 48) (b := y9) (by omega) (by omega)).mp h_1
        omega
      subst hkm
      exact kx t9 nl rw M hR ht
    · have hkm : y9 < 48 := by
        rcases Nat.lt_or_ge y9 48 with z | z
        · exact z
        · exact absurd (nI_le (a := 48) (b := y9) z (by omega)) h_1
      have hy9 := hkm
      refine m_lload_n C dX7_paint_10 rfl 1 rfl ?_
      refine m_aload_n C dX7_paint_11 rfl 2 rfl ?_
      refine m_iload_n C dX7_paint_12 rfl 0 rfl ?_
      have e9 : pre9 (upA ar 16 (q_pnt ar g (pre9 ar 0) (ar 16) (64 * y9))) 0 = pre9 ar 0 := cv_pre9 0
      have hR0 : cS D Z F cm g (upA ar 16 (q_pnt ar g (pre9 ar 0) (ar 16) (64 * y9))) fi nl (pre9 (upA ar 16 (q_pnt ar g (pre9 ar 0) (ar 16) (64 * y9))) 0) rw M := by rw [e9]; exact hR
      refine m_callVl (As := [.int (nI y9)]) (st := [.long t9]) C hR.me rfl (c_X7_changedTiles D A l hR0 (cv_wf hw) hb (FV16 hfv) hy9) (cwV 1 C.1.2.2.2.2 gX7_paint_X7_changedTiles rfl rfl rfl (by decide +kernel) ⟨Nat.le_of_ble_eq_true rfl, Nat.le_of_ble_eq_true rfl⟩) rfl rfl (Nat.le_of_ble_eq_true rfl) dX7_paint_13 ⟨Nat.le_of_ble_eq_true rfl, Nat.le_of_ble_eq_true rfl⟩ (fun r1 M1 hq1 => ?_)
      obtain ⟨ht1, m1, rw1, hR1, hv1⟩ := hq1
      rw [e9] at hR1 hv1 ht1
      have hv2 : ∀ x, x < 64 → rw1 x = q_val ar g (pre9 ar 0) (nI x) (nI y9) := fun x hx => by rw [hv1 x hx, cv_val]
      have ht2 : ∀ tl, tl < 64 → bL (t9 ||| r1) tl = q_tt ar g (pre9 ar 0) tl (y9 + 1) := fun tl htl => by
        rw [bL_or, ht tl htl, ht1 tl htl, tr_cv (fun x hx => pnt_ge _ (by omega)) 64 (Nat.le_refl _)]
        rfl
      refine m_lor C dX7_paint_16 ?_
      refine m_lstore_n (L' := [(1, .long (t9 ||| r1)), (3, .int (nI y9)), (0, .ref (Z 0))]) C dX7_paint_17 rfl (by decide) rfl ?_
      refine m_iconst (v := 0) C dX7_paint_18 (by decide) ?_
      refine m_istore (L' := [(4, .int 0), (1, .long (t9 ||| r1)), (3, .int (nI y9)), (0, .ref (Z 0))]) C dX7_paint_19 (by decide) rfl ?_
      refine m_sub (L' := [(4, .int 0), (1, .long (t9 ||| r1)), (3, .int (nI y9)), (0, .ref (Z 0))]) [0, 1, 2, 3] rfl ?_
      refine lp_X7_paint1 hy9 hv2 i_X7 C (fun M2 hR2 => ?_) _ 0 M1 rfl (Nat.zero_le _) hR1
      obtain ⟨x_2, ex_2⟩ : ∃ z : Int32, z = nI y9 + 1 := ⟨_, rfl⟩
      refine m_iinc (q := 1) (v := x_2) (L' := [(3, .int x_2), (1, .long (t9 ||| r1)), (0, .ref (Z 0))]) C dX7_paint_53 rfl (by rw [ex_2]; rfl) (by decide) rfl ?_
      refine m_goto (tgt := 4) C dX7_paint_56 (by decide) ?_
      rw [nI_1] at ex_2
      subst ex_2
      refine m_sub (L' := [(3, .int (nI (y9 + 1))), (1, .long (t9 ||| r1)), (0, .ref (Z 0))]) [0, 1, 2] rfl ?_
      exact ih (48 - (y9 + 1)) (by omega) (y9 + 1) _ m1 rw1 M2 rfl (by omega) hR2 ht2
set_option maxHeartbeats 4000000 in
set_option maxRecDepth 100000 in
theorem c_X7_paint (D : mD) (A : Nat → Prop) (l : Launch) {Z : Nat → Nat} {F : Mm} {cm : Nat} {g : Int32} {ar : rA} {M : Mm} (hI : cI D Z F cm g ar M) (hw : wf ar cm) (hb : BD ar cm) : mMi D A l yX7_paint wsX7_paint ({ frames := 10, cells := 0, slots := 0, locals := 620 } : Room) [.ref (Z 0)] M (fun r M' => r = nI (q_dty ar g (pre9 ar 0) 48) ∧ cI D Z F cm g (upA ar 16 (q_pnt ar g (pre9 ar 0) (ar 16) 3072)) M') 0 0 := by
  refine m_start (cc := cX7_paint) (maxL := 5) (ret := (some .int)) (by decide) rfl (Nat.le_of_ble_eq_true rfl) ?_
  intro p e s m args below meth c C
  have i_X7 : ∀ w ∈ wsX70, w ∈ wsX7_paint := by decide +kernel
  refine m_sub (L' := [(0, .ref (Z 0))]) [0] rfl ?_
  have hcm := hw.1.2
  have hI9 := hI
  obtain ⟨fi, nl, rw, hfv, hR⟩ := hI9
  refine m_lconst (v := 0) C dX7_paint_0 rfl ?_
  refine m_lstore_n (L' := [(1, .long 0), (0, .ref (Z 0))]) C dX7_paint_1 rfl (by decide) rfl ?_
  refine m_iconst (v := 0) C dX7_paint_2 (by decide) ?_
  refine m_istore_n (L' := [(3, .int 0), (1, .long 0), (0, .ref (Z 0))]) C dX7_paint_3 rfl (by decide) rfl ?_
  refine m_sub (L' := [(3, .int 0), (1, .long 0), (0, .ref (Z 0))]) [0, 1, 2] rfl ?_
  have hR2 : cS D Z F cm g (upA ar 16 (q_pnt ar g (pre9 ar 0) (ar 16) (64 * 0))) fi nl (pre9 ar 0) rw M := by
    have e9 : (upA ar 16 (q_pnt ar g (pre9 ar 0) (ar 16) (64 * 0))) = ar := by
      funext f
      by_cases z : f = 16
      · rw [z, upA_s]; rfl
      · rw [upA_n z]
    rw [e9]; exact hR
  refine lp_X7_paint hw hb hfv i_X7 C (fun t nl9 rw9 M9 hR9 ht9 => ?_) _ 0 0 nl rw M rfl (Nat.zero_le _) hR2 (fun tl _ => bL_0 tl)
  refine m_lload_n C dX7_paint_59 rfl 0 rfl ?_
  refine m_callSFi (As := [.long t]) (st := []) (v := nI (cB (bL t) 64)) C (c_J13_bitCount_95d88 D A l) (va_cwS 1 C.1.2.2.2.2 gX7_paint_J13_bitCount_95d88 rfl rfl rfl (by decide +kernel) ⟨Nat.le_of_ble_eq_true rfl, Nat.le_of_ble_eq_true rfl⟩) rfl rfl (Nat.le_of_ble_eq_true rfl) dX7_paint_60 ⟨Nat.le_of_ble_eq_true rfl, Nat.le_of_ble_eq_true rfl⟩ ?_
  rw [tiles_n ht9]
  exact m_iret C (Nat.le_of_ble_eq_true rfl) (Nat.le_of_ble_eq_true rfl) dX7_paint_63 (⟨rfl, cI.of16 hfv hR9⟩)

