/-! ===== the class: which tiles have changed ===== -/
section TILES
variable {ar : rA} {g : Int32} {L : List Nat}
def q_df (ar : rA) (g : Int32) (L : List Nat) (x y : Nat) : Bool := decide (¬ q_val ar g L (nI x) (nI y) = ar 16 (64 * y + x))
def q_tr (ar : rA) (g : Int32) (L : List Nat) (y t : Nat) : Nat → Bool
  | 0 => false
  | k + 1 => q_tr ar g L y t k || (q_df ar g L k y && decide (t = y / 8 * 8 + k / 8))
def q_tt (ar : rA) (g : Int32) (L : List Nat) (t : Nat) : Nat → Bool
  | 0 => false
  | y + 1 => q_tt ar g L t y || q_tr ar g L y t 64
theorem q_tr_i {y t : Nat} : ∀ k, q_tr ar g L y t k = true ↔ ∃ x, x < k ∧ q_df ar g L x y = true ∧ t = y / 8 * 8 + x / 8
  | 0 => ⟨fun z => (by cases z), fun ⟨x, hx, _⟩ => absurd hx (Nat.not_lt_zero x)⟩
  | k + 1 => by
    show (q_tr ar g L y t k || (q_df ar g L k y && decide (t = y / 8 * 8 + k / 8))) = true ↔ _
    rw [Bool.or_eq_true, q_tr_i k, Bool.and_eq_true, decide_eq_true_eq]
    constructor
    · rintro (⟨x, h1, h2⟩ | ⟨h1, h2⟩)
      · exact ⟨x, by omega, h2⟩
      · exact ⟨k, by omega, h1, h2⟩
    · rintro ⟨x, h1, h2, h3⟩
      by_cases z : x = k
      · rw [z] at h2 h3
        exact Or.inr ⟨h2, h3⟩
      · exact Or.inl ⟨x, by omega, h2, h3⟩
theorem q_tt_i {t : Nat} : ∀ y, q_tt ar g L t y = true ↔ ∃ v x, v < y ∧ x < 64 ∧ q_df ar g L x v = true ∧ t = v / 8 * 8 + x / 8
  | 0 => ⟨fun z => (by cases z), fun ⟨v, x, hv, _⟩ => absurd hv (Nat.not_lt_zero v)⟩
  | y + 1 => by
    show (q_tt ar g L t y || q_tr ar g L y t 64) = true ↔ _
    rw [Bool.or_eq_true, q_tt_i y, q_tr_i]
    constructor
    · rintro (⟨v, x, h1, h2⟩ | ⟨x, h1, h2⟩)
      · exact ⟨v, x, by omega, h2⟩
      · exact ⟨y, x, by omega, h1, h2⟩
    · rintro ⟨v, x, h1, h2, h3⟩
      by_cases z : v = y
      · rw [z] at h3
        exact Or.inr ⟨x, h2, h3⟩
      · exact Or.inl ⟨v, x, by omega, h2, h3⟩
theorem q_chg_i {t : Nat} : ∀ k, 0 < q_chg ar g L t k ↔ ∃ j, j < k ∧ q_df ar g L (8 * (t % 8) + j % 8) (8 * (t / 8) + j / 8) = true
  | 0 => ⟨fun z => absurd z (Nat.lt_irrefl 0), fun ⟨j, hj, _⟩ => absurd hj (Nat.not_lt_zero j)⟩
  | k + 1 => by
    have ih := q_chg_i (t := t) k
    unfold q_chg
    have e : (if q_val ar g L (nI (8 * (t % 8) + k % 8)) (nI (8 * (t / 8) + k / 8)) = ar 16 (64 * (8 * (t / 8) + k / 8) + (8 * (t % 8) + k % 8)) then 0 else 1) = (if q_df ar g L (8 * (t % 8) + k % 8) (8 * (t / 8) + k / 8) = true then 1 else 0) := by
      unfold q_df
      by_cases z : q_val ar g L (nI (8 * (t % 8) + k % 8)) (nI (8 * (t / 8) + k / 8)) = ar 16 (64 * (8 * (t / 8) + k / 8) + (8 * (t % 8) + k % 8))
      · rw [if_pos z, if_neg (by simp [z])]
      · rw [if_neg z, if_pos (by simp [z])]
    rw [e]
    constructor
    · intro h
      by_cases z : q_df ar g L (8 * (t % 8) + k % 8) (8 * (t / 8) + k / 8) = true
      · exact ⟨k, by omega, z⟩
      · rw [if_neg z] at h
        obtain ⟨j, h1, h2⟩ := ih.mp (by omega)
        exact ⟨j, by omega, h2⟩
    · rintro ⟨j, h1, h2⟩
      by_cases z : j = k
      · rw [z] at h2
        rw [if_pos h2]
        omega
      · have := ih.mpr ⟨j, by omega, h2⟩
        omega
theorem tt_chg {t : Nat} (ht : t < 48) : q_tt ar g L t 48 = true ↔ 0 < q_chg ar g L t 64 := by
  rw [q_tt_i, q_chg_i]
  constructor
  · rintro ⟨v, x, h1, h2, h3, h4⟩
    refine ⟨8 * (v % 8) + x % 8, by omega, ?_⟩
    rw [show 8 * (t % 8) + (8 * (v % 8) + x % 8) % 8 = x by omega, show 8 * (t / 8) + (8 * (v % 8) + x % 8) / 8 = v by omega]
    exact h3
  · rintro ⟨j, h1, h2⟩
    exact ⟨8 * (t / 8) + j / 8, 8 * (t % 8) + j % 8, by omega, by omega, h2, by omega⟩
theorem tt_no {t : Nat} (ht : 48 ≤ t) : q_tt ar g L t 48 = false := by
  cases z : q_tt ar g L t 48 with
  | false => rfl
  | true =>
    obtain ⟨v, x, h1, h2, h3, h4⟩ := (q_tt_i 48).mp z
    omega
theorem dty_cB : ∀ k, k ≤ 48 → cB (fun t => q_tt ar g L t 48) k = q_dty ar g L k
  | 0, _ => rfl
  | k + 1, h => by
    rw [cB, dty_cB k (by omega), q_dty]
    congr 1
    by_cases z : q_tt ar g L k 48 = true
    · rw [if_pos z, if_pos ((tt_chg (by omega)).mp z)]
    · rw [if_neg z, if_neg (fun y => z ((tt_chg (by omega)).mpr y))]
theorem cB_out (f : Nat → Bool) (m : Nat) (h : ∀ i, m ≤ i → f i = false) : ∀ k, cB f (m + k) = cB f m
  | 0 => rfl
  | k + 1 => by
    rw [← Nat.add_assoc, cB, cB_out f m h k, h (m + k) (by omega)]
    rfl
theorem tiles_n {b : Int64} (h : ∀ t, t < 64 → bL b t = q_tt ar g L t 48) : cB (bL b) 64 = q_dty ar g L 48 := by
  rw [cB_ext 64 h, show 64 = 48 + 16 from rfl, cB_out _ 48 (fun i hi => tt_no hi) 16, dty_cB 48 (Nat.le_refl _)]
end TILES
theorem bit_l : ∀ j, j < 64 → ∀ x, x < 64 → bL ((1 : Int64) <<< ((nI j).toInt64 &&& 63)) x = decide (x = j) := by decide +kernel
set_option maxHeartbeats 4000000 in
set_option maxRecDepth 100000 in
theorem lp_X7_changedTiles1 {p : Program} {l : Launch} {e : Env} {s : State} {m : MethodId} {args : Array Value} {below : List Frame} {meth : Method} {c : Code} {Q : State → Prop} {D : mD} {A : Nat → Prop} {Z : Nat → Nat} {F : Mm} {cm : Nat} {g : Int32} {ar : rA} {fi : Nat → Nat → Int32} {nl : Nat → Nat → Int64} {rw : Nat → Int32} {M : Mm} (hR : cS D Z F cm g ar fi nl (pre9 ar 0) rw M) {y9 : Nat} (hy9 : y9 < 48) (hv : ∀ x, x < 64 → rw x = q_val ar g (pre9 ar 0) (nI x) (nI y9)) (i_X7 : ∀ w ∈ wsX70, w ∈ wsX7_changedTiles) (C : mC p m meth c cX7_changedTiles 5 s args wsX7_changedTiles yX7_changedTiles.cls D A yX7_changedTiles (some .long)) (kx : ∀ t : Int64, (∀ tl, tl < 64 → bL t tl = q_tr ar g (pre9 ar 0) y9 tl 64) → mV p l e ({ frames := 9, cells := 0, slots := 0, locals := 540 } : Room) s m args below meth c 5 D A Q M 0 0 [(2, .long t)] [] 63) : ∀ (N : Nat) (x9 : Nat) (t9 : Int64), 64 - x9 = N → (x9 ≤ 64) → (∀ tl, tl < 64 → bL t9 tl = q_tr ar g (pre9 ar 0) y9 tl x9) → mV p l e ({ frames := 9, cells := 0, slots := 0, locals := 540 } : Room) s m args below meth c 5 D A Q M 0 0 [(4, .int (nI x9)), (2, .long t9), (0, .ref (Z 0)), (1, .int (nI y9))] [] 10 := by
  intro N
  induction N using Nat.strongRecOn with
  | _ N ih =>
    intro x9 t9 hN hk ht
    refine m_iload C dX7_changedTiles_10 0 rfl ?_
    refine m_bipush (v := 64) C dX7_changedTiles_12 (by decide) ?_
    refine m_icmp_ge (tgt := 63) C dX7_changedTiles_14 (by decide) (fun h_1 => ?_) (fun h_1 => ?_)
    · refine m_sub (L' := [(2, .long t9)]) [1] rfl ?_
      have hkm : x9 = 64 := by
        have := (nI_leI (a := 64) (b := x9) (by omega) (by omega)).mp h_1
        omega
      subst hkm
      exact kx t9 ht
    · have hkm : x9 < 64 := by
        rcases Nat.lt_or_ge x9 64 with z | z
        · exact z
        · exact absurd (nI_le (a := 64) (b := x9) z (by omega)) h_1
      refine m_aload_n C dX7_changedTiles_17 rfl 2 rfl ?_
      refine m_get (ref := "PaintLayers") C hR.me rfl i_X7 4 (by decide) (by decide +kernel) (fun x h => h) (v := .ref (Z 3)) rfl dX7_changedTiles_18 ?_
      refine m_iload C dX7_changedTiles_21 0 rfl ?_
      refine m_iald C hR.1.grw (vp_in_nI hkm (by omega)) dX7_changedTiles_23 ?_
      rw [nI_clamp (show x9 < 2 ^ 31 by omega)]
      refine m_aload_n C dX7_changedTiles_24 rfl 2 rfl ?_
      refine m_get (ref := "PaintLayers") C hR.me rfl i_X7 3 (by decide) (by decide +kernel) (fun x h => h) (v := .ref (Z 2)) rfl dX7_changedTiles_25 ?_
      refine m_iload_n C dX7_changedTiles_28 rfl 3 rfl ?_
      refine m_bipush (v := 64) C dX7_changedTiles_29 (by decide) ?_
      refine m_imul C dX7_changedTiles_31 ?_
      refine m_i (y := nI (y9 * 64)) (pk_mul _ 64) ?_
      refine m_iload C dX7_changedTiles_32 0 rfl ?_
      refine m_iadd C dX7_changedTiles_34 ?_
      refine m_i (y := nI (64 * y9 + x9)) (by rw [nI_add, Nat.mul_comm 64]) ?_
      refine m_iald C hR.1.gcv (vp_in_nI (show 64 * y9 + x9 < 3072 by omega) (by omega)) dX7_changedTiles_35 ?_
      rw [nI_clamp (show 64 * y9 + x9 < 2 ^ 31 by omega)]
      refine m_icmp_eq (tgt := 57) C dX7_changedTiles_36 (by decide) (fun h_2 => ?_) (fun h_2 => ?_)
      · have hd : q_df ar g (pre9 ar 0) x9 y9 = false := by unfold q_df; rw [← hv x9 hkm]; exact decide_eq_false (fun z => z h_2)
        obtain ⟨x_3, ex_3⟩ : ∃ z : Int32, z = nI x9 + 1 := ⟨_, rfl⟩
        refine m_iinc (q := 0) (v := x_3) (L' := [(4, .int x_3), (2, .long t9), (0, .ref (Z 0)), (1, .int (nI y9))]) C dX7_changedTiles_57 rfl (by rw [ex_3]; rfl) (by decide) rfl ?_
        refine m_goto (tgt := 10) C dX7_changedTiles_60 (by decide) ?_
        rw [nI_1] at ex_3
        subst ex_3
        refine m_sub (L' := [(4, .int (nI (x9 + 1))), (2, .long t9), (0, .ref (Z 0)), (1, .int (nI y9))]) [0, 1, 2, 3] rfl ?_
        exact ih (64 - (x9 + 1)) (by omega) (x9 + 1) _ rfl (by omega) (fun tl htl => by rw [q_tr, hd, Bool.false_and, Bool.or_false]; exact ht tl htl)
      · have hd : q_df ar g (pre9 ar 0) x9 y9 = true := by unfold q_df; rw [← hv x9 hkm]; exact decide_eq_true h_2
        refine m_lload_n C dX7_changedTiles_39 rfl 1 rfl ?_
        refine m_lconst (v := 1) C dX7_changedTiles_40 rfl ?_
        refine m_iload_n C dX7_changedTiles_41 rfl 3 rfl ?_
        refine m_bipush (v := 8) C dX7_changedTiles_42 (by decide) ?_
        refine m_idiv C dX7_changedTiles_44 (by decide) ?_
        refine m_i (y := nI (y9 / 8)) (pk_div (d := 8) (by omega) (by decide) (by decide)) ?_
        refine m_bipush (v := 8) C dX7_changedTiles_45 (by decide) ?_
        refine m_imul C dX7_changedTiles_47 ?_
        refine m_i (y := nI (y9 / 8 * 8)) (pk_mul _ 8) ?_
        refine m_iload C dX7_changedTiles_48 0 rfl ?_
        refine m_bipush (v := 8) C dX7_changedTiles_50 (by decide) ?_
        refine m_idiv C dX7_changedTiles_52 (by decide) ?_
        refine m_i (y := nI (x9 / 8)) (pk_div (d := 8) (by omega) (by decide) (by decide)) ?_
        refine m_iadd C dX7_changedTiles_53 ?_
        refine m_i (y := nI (y9 / 8 * 8 + x9 / 8)) (nI_add _ _) ?_
        refine m_lshl C dX7_changedTiles_54 rfl ?_
        refine m_lor C dX7_changedTiles_55 ?_
        refine m_lstore_n (L' := [(2, .long (t9 ||| (1 <<< ((nI (y9 / 8 * 8 + x9 / 8)).toInt64 &&& 63)))), (4, .int (nI x9)), (0, .ref (Z 0)), (1, .int (nI y9))]) C dX7_changedTiles_56 rfl (by decide) rfl ?_
        obtain ⟨x_4, ex_4⟩ : ∃ z : Int32, z = nI x9 + 1 := ⟨_, rfl⟩
        refine m_iinc (q := 1) (v := x_4) (L' := [(4, .int x_4), (2, .long (t9 ||| (1 <<< ((nI (y9 / 8 * 8 + x9 / 8)).toInt64 &&& 63)))), (0, .ref (Z 0)), (1, .int (nI y9))]) C dX7_changedTiles_57 rfl (by rw [ex_4]; rfl) (by decide) rfl ?_
        refine m_goto (tgt := 10) C dX7_changedTiles_60 (by decide) ?_
        rw [nI_1] at ex_4
        subst ex_4
        refine m_sub (L' := [(4, .int (nI (x9 + 1))), (2, .long (t9 ||| (1 <<< ((nI (y9 / 8 * 8 + x9 / 8)).toInt64 &&& 63)))), (0, .ref (Z 0)), (1, .int (nI y9))]) [0, 1, 2, 3] rfl ?_
        exact ih (64 - (x9 + 1)) (by omega) (x9 + 1) _ rfl (by omega) (fun tl htl => by rw [bL_or, bit_l _ (by omega) tl htl, ht tl htl, q_tr, hd, Bool.true_and])
set_option maxHeartbeats 4000000 in
set_option maxRecDepth 100000 in
theorem c_X7_changedTiles (D : mD) (A : Nat → Prop) (l : Launch) {Z : Nat → Nat} {F : Mm} {cm : Nat} {g : Int32} {ar : rA} {fi : Nat → Nat → Int32} {nl : Nat → Nat → Int64} {rw : Nat → Int32} {M : Mm} (hR : cS D Z F cm g ar fi nl (pre9 ar 0) rw M) (hw : wf ar cm) (hb : BD ar cm) (hfv : FV ar cm fi) {y9 : Nat} (hy9 : y9 < 48) : mMl D A l yX7_changedTiles wsX7_changedTiles ({ frames := 9, cells := 0, slots := 0, locals := 540 } : Room) [.ref (Z 0), .int (nI y9)] M (fun r M' => (∀ tl, tl < 64 → bL r tl = q_tr ar g (pre9 ar 0) y9 tl 64) ∧ ∃ (nl' : Nat → Nat → Int64) (rw' : Nat → Int32), cS D Z F cm g ar fi nl' (pre9 ar 0) rw' M' ∧ ∀ x, x < 64 → rw' x = q_val ar g (pre9 ar 0) (nI x) (nI y9)) 0 0 := by
  refine m_start (cc := cX7_changedTiles) (maxL := 5) (ret := (some .long)) (by decide) rfl (Nat.le_of_ble_eq_true rfl) ?_
  intro p e s m args below meth c C
  have i_X7 : ∀ w ∈ wsX70, w ∈ wsX7_changedTiles := by decide +kernel
  refine m_sub (L' := [(0, .ref (Z 0)), (1, .int (nI y9))]) [0, 1] rfl ?_
  refine m_aload_n C dX7_changedTiles_0 rfl 0 rfl ?_
  refine m_iload_n C dX7_changedTiles_1 rfl 1 rfl ?_
  refine m_callVv (As := [.int (nI y9)]) (st := []) C hR.me rfl (c_X7_mixRow D A l hR hw hb hfv hy9) (cwV 1 C.1.2.2.2.2 gX7_changedTiles_X7_mixRow rfl rfl rfl (by decide +kernel) ⟨Nat.le_of_ble_eq_true rfl, Nat.le_of_ble_eq_true rfl⟩) rfl rfl (Nat.le_of_ble_eq_true rfl) dX7_changedTiles_2 ⟨Nat.le_of_ble_eq_true rfl, Nat.le_of_ble_eq_true rfl⟩ (fun M1 hq1 => ?_)
  obtain ⟨m1, rw1, hR1, hv1⟩ := hq1
  refine m_lconst (v := 0) C dX7_changedTiles_5 rfl ?_
  refine m_lstore_n (L' := [(2, .long 0), (0, .ref (Z 0)), (1, .int (nI y9))]) C dX7_changedTiles_6 rfl (by decide) rfl ?_
  refine m_iconst (v := 0) C dX7_changedTiles_7 (by decide) ?_
  refine m_istore (L' := [(4, .int 0), (2, .long 0), (0, .ref (Z 0)), (1, .int (nI y9))]) C dX7_changedTiles_8 (by decide) rfl ?_
  refine m_sub (L' := [(4, .int 0), (2, .long 0), (0, .ref (Z 0)), (1, .int (nI y9))]) [0, 1, 2, 3] rfl ?_
  refine lp_X7_changedTiles1 hR1 hy9 hv1 i_X7 C (fun t ht1 => ?_) _ 0 0 rfl (Nat.zero_le _) (fun tl _ => bL_0 tl)
  refine m_lload_n C dX7_changedTiles_63 rfl 0 rfl ?_
  exact m_lret C (Nat.le_of_ble_eq_true rfl) (Nat.le_of_ble_eq_true rfl) dX7_changedTiles_64 (⟨ht1, m1, rw1, hR1, hv1⟩)

