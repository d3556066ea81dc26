/-! ===== the class: rows of boxes, what shapes hold ===== -/
def hD (cx cy r x y : Int32) : Bool := decide (¬ 4 * r * r < (2 * x + 1 - 2 * cx) * (2 * x + 1 - 2 * cx) + (2 * y + 1 - 2 * cy) * (2 * y + 1 - 2 * cy))
def hS (ax ay bx bz px py : Int32) : Int32 := (2 * bx - 2 * ax) * (py - 2 * ay) - (2 * bz - 2 * ay) * (px - 2 * ax)
def hT3 (u v w : Int32) : Bool := ((decide (¬ u < 0) && decide (¬ v < 0) && decide (¬ w < 0)) || (decide (¬ 0 < u) && decide (¬ 0 < v) && decide (¬ 0 < w))) && (decide (¬ u = 0) || decide (¬ v = 0) || decide (¬ w = 0))
def hT (ax ay bx bz cx cz x y : Int32) : Bool := hT3 (hS ax ay bx bz (2 * x + 1) (2 * y + 1)) (hS bx bz cx cz (2 * x + 1) (2 * y + 1)) (hS cx cz ax ay (2 * x + 1) (2 * y + 1))
set_option maxHeartbeats 4000000 in
set_option maxRecDepth 100000 in
theorem c_X0_rowBits (D : mD) (A : Nat → Prop) (l : Launch) {a : Nat} {y dx dy lf tp rt bt : Int32} {M : Mm} (h_a : M a = some (.inr (3, [.int lf, .int tp, .int rt, .int bt]))) : mMl D A l yX0_rowBits wsX0_rowBits ({ frames := 2, cells := 0, slots := 0, locals := 120 } : Room) [.ref a, .int y, .int dx, .int dy] M (fun r M' => M' = M ∧ ∀ x9, x9 < 64 → bL r x9 = ((decide (tp ≤ y - dy) && decide (y - dy < bt)) && (decide (lf + dx ≤ nI x9) && decide (nI x9 < rt + dx)))) 0 0 := by
  refine m_start (cc := cX0_rowBits) (maxL := 4) (ret := (some .long)) (by decide) rfl (Nat.le_of_ble_eq_true rfl) ?_
  intro p e s m args below meth c C
  have i_X0 : ∀ w ∈ wsX00, w ∈ wsX0_rowBits := by decide +kernel
  refine m_sub (L' := [(0, .ref a), (1, .int y), (2, .int dx), (3, .int dy)]) [0, 1, 2, 3] rfl ?_
  refine m_aload_n C dX0_rowBits_0 rfl 0 rfl ?_
  refine m_iload_n C dX0_rowBits_1 rfl 1 rfl ?_
  refine m_iload_n C dX0_rowBits_2 rfl 3 rfl ?_
  refine m_isub C dX0_rowBits_3 ?_
  refine m_callVFi (As := [.int (y - dy)]) (st := []) (v := bI (decide (tp ≤ y - dy) && decide (y - dy < bt))) C h_a rfl (c_X0_hasRow D A l h_a) (cwV 1 C.1.2.2.2.2 gX0_rowBits_X0_hasRow rfl rfl rfl (by decide +kernel) ⟨Nat.le_of_ble_eq_true rfl, Nat.le_of_ble_eq_true rfl⟩) rfl rfl (Nat.le_of_ble_eq_true rfl) dX0_rowBits_4 ⟨Nat.le_of_ble_eq_true rfl, Nat.le_of_ble_eq_true rfl⟩ ?_
  refine m_if_eq (tgt := 28) C dX0_rowBits_7 (by decide) (fun hz_1 => ?_) (fun hz_1 => ?_)
  · have hz_1 := bI_z hz_1
    refine m_lconst (v := 0) C dX0_rowBits_28 rfl ?_
    exact m_lret C (Nat.le_of_ble_eq_true rfl) (Nat.le_of_ble_eq_true rfl) dX0_rowBits_29 (⟨rfl, fun x9 hx9 => by rw [hz_1, Bool.false_and]; exact bL_0 x9⟩)
  · have hz_1 := bI_n hz_1
    refine m_aload_n C dX0_rowBits_10 rfl 0 rfl ?_
    refine m_get (ref := "PaintLayers$Box") C h_a rfl i_X0 0 (by decide) (by decide +kernel) (fun x h => h) (v := .int lf) rfl dX0_rowBits_11 ?_
    refine m_iload_n C dX0_rowBits_14 rfl 2 rfl ?_
    refine m_iadd C dX0_rowBits_15 ?_
    refine m_aload_n C dX0_rowBits_16 rfl 0 rfl ?_
    refine m_get (ref := "PaintLayers$Box") C h_a rfl i_X0 2 (by decide) (by decide +kernel) (fun x h => h) (v := .int rt) rfl dX0_rowBits_17 ?_
    refine m_iload_n C dX0_rowBits_20 rfl 2 rfl ?_
    refine m_iadd C dX0_rowBits_21 ?_
    refine m_callSNPl (As := [.int (lf + dx), .int (rt + dx)]) (st := []) C (c_X7_spanBits D A l (f := lf + dx) (t := rt + dx)) ⟨va_cnB 2 C.1.2.2.2.2 gX0_rowBits_X7_spanBits_n26 rfl rfl rfl C.2.1.2.2.2.2.2.2.2.1.2.1 (C.1.2.2.2.2 _ (by decide +kernel)) (by decide +kernel) ⟨Nat.le_of_ble_eq_true rfl, Nat.le_of_ble_eq_true rfl⟩, C.1.2.2.2.2 _ (by decide +kernel), trivial⟩ rfl rfl (Nat.le_of_ble_eq_true rfl) dX0_rowBits_22 ⟨Nat.le_of_ble_eq_true rfl, Nat.le_of_ble_eq_true rfl⟩ (fun r9 hr9 => ?_)
    refine m_goto (tgt := 29) C dX0_rowBits_25 (by decide) ?_
    exact m_lret C (Nat.le_of_ble_eq_true rfl) (Nat.le_of_ble_eq_true rfl) dX0_rowBits_29 (⟨rfl, fun x9 hx9 => by rw [hz_1, Bool.true_and]; exact hr9 x9 hx9⟩)
set_option maxHeartbeats 4000000 in
set_option maxRecDepth 100000 in
theorem c_X4_holds (D : mD) (A : Nat → Prop) (l : Launch) {a : Nat} {x y : Int32} {M : Mm} : mMi D A l yX4_holds wsX4_holds ({ frames := 0, cells := 0, slots := 0, locals := 0 } : Room) [.ref a, .int x, .int y] M (fun r M' => M' = M ∧ r = bI true) 0 0 := by
  refine m_start (cc := cX4_holds) (maxL := 3) (ret := (some .boolean)) (by decide) rfl (Nat.le_of_ble_eq_true rfl) ?_
  intro p e s m args below meth c C
  refine m_sub (L' := [(0, .ref a), (1, .int x), (2, .int y)]) [0, 1, 2] rfl ?_
  refine m_iconst (v := 1) C dX4_holds_0 (by decide) ?_
  exact m_zret C (Nat.le_of_ble_eq_true rfl) (Nat.le_of_ble_eq_true rfl) dX4_holds_1 (Or.inr rfl) (⟨rfl, rfl⟩)
set_option maxHeartbeats 4000000 in
set_option maxRecDepth 100000 in
theorem c_X2_holds (D : mD) (A : Nat → Prop) (l : Launch) {a bx : Nat} {so cx cy r x y : Int32} {M : Mm} (h_a : M a = some (.inr (5, [.int so, .ref bx, .int cx, .int cy, .int r]))) : mMi D A l yX2_holds wsX2_holds ({ frames := 0, cells := 0, slots := 0, locals := 0 } : Room) [.ref a, .int x, .int y] M (fun r9 M' => M' = M ∧ r9 = bI (hD cx cy r x y)) 0 0 := by
  refine m_start (cc := cX2_holds) (maxL := 5) (ret := (some .boolean)) (by decide) rfl (Nat.le_of_ble_eq_true rfl) ?_
  intro p e s m args below meth c C
  have i_X2 : ∀ w ∈ wsX20, w ∈ wsX2_holds := by decide +kernel
  refine m_sub (L' := [(0, .ref a), (1, .int x), (2, .int y)]) [0, 1, 2] rfl ?_
  refine m_iconst (v := 2) C dX2_holds_0 (by decide) ?_
  refine m_iload_n C dX2_holds_1 rfl 1 rfl ?_
  refine m_imul C dX2_holds_2 ?_
  refine m_iconst (v := 1) C dX2_holds_3 (by decide) ?_
  refine m_iadd C dX2_holds_4 ?_
  refine m_iconst (v := 2) C dX2_holds_5 (by decide) ?_
  refine m_aload_n C dX2_holds_6 rfl 0 rfl ?_
  refine m_get (ref := "PaintLayers$Disc") C h_a rfl i_X2 2 (by decide) (by decide +kernel) (fun x h => h) (v := .int cx) rfl dX2_holds_7 ?_
  refine m_imul C dX2_holds_10 ?_
  refine m_isub C dX2_holds_11 ?_
  refine m_istore_n (L' := [(3, .int (((2 * x) + 1) - (2 * cx))), (0, .ref a), (1, .int x), (2, .int y)]) C dX2_holds_12 rfl (by decide) rfl ?_
  refine m_iconst (v := 2) C dX2_holds_13 (by decide) ?_
  refine m_iload_n C dX2_holds_14 rfl 3 rfl ?_
  refine m_imul C dX2_holds_15 ?_
  refine m_iconst (v := 1) C dX2_holds_16 (by decide) ?_
  refine m_iadd C dX2_holds_17 ?_
  refine m_iconst (v := 2) C dX2_holds_18 (by decide) ?_
  refine m_aload_n C dX2_holds_19 rfl 1 rfl ?_
  refine m_get (ref := "PaintLayers$Disc") C h_a rfl i_X2 3 (by decide) (by decide +kernel) (fun x h => h) (v := .int cy) rfl dX2_holds_20 ?_
  refine m_imul C dX2_holds_23 ?_
  refine m_isub C dX2_holds_24 ?_
  refine m_istore (L' := [(4, .int (((2 * y) + 1) - (2 * cy))), (3, .int (((2 * x) + 1) - (2 * cx))), (0, .ref a), (1, .int x), (2, .int y)]) C dX2_holds_25 (by decide) rfl ?_
  refine m_iload_n C dX2_holds_27 rfl 1 rfl ?_
  refine m_iload_n C dX2_holds_28 rfl 1 rfl ?_
  refine m_imul C dX2_holds_29 ?_
  refine m_iload C dX2_holds_30 0 rfl ?_
  refine m_iload C dX2_holds_32 0 rfl ?_
  refine m_imul C dX2_holds_34 ?_
  refine m_iadd C dX2_holds_35 ?_
  refine m_iconst (v := 4) C dX2_holds_36 (by decide) ?_
  refine m_aload_n C dX2_holds_37 rfl 2 rfl ?_
  refine m_get (ref := "PaintLayers$Disc") C h_a rfl i_X2 4 (by decide) (by decide +kernel) (fun x h => h) (v := .int r) rfl dX2_holds_38 ?_
  refine m_imul C dX2_holds_41 ?_
  refine m_aload_n C dX2_holds_42 rfl 2 rfl ?_
  refine m_get (ref := "PaintLayers$Disc") C h_a rfl i_X2 4 (by decide) (by decide +kernel) (fun x h => h) (v := .int r) rfl dX2_holds_43 ?_
  refine m_imul C dX2_holds_46 ?_
  refine m_icmp_gt (tgt := 54) C dX2_holds_47 (by decide) (fun h_1 => ?_) (fun h_1 => ?_)
  · refine m_iconst (v := 0) C dX2_holds_54 (by decide) ?_
    exact m_zret C (Nat.le_of_ble_eq_true rfl) (Nat.le_of_ble_eq_true rfl) dX2_holds_55 (Or.inl rfl) (⟨rfl, by simp [hD, bI, h_1, Int32.not_le.mpr h_1]⟩)
  · refine m_iconst (v := 1) C dX2_holds_50 (by decide) ?_
    refine m_goto (tgt := 55) C dX2_holds_51 (by decide) ?_
    exact m_zret C (Nat.le_of_ble_eq_true rfl) (Nat.le_of_ble_eq_true rfl) dX2_holds_55 (Or.inr rfl) (⟨rfl, by simp [hD, bI, h_1, Int32.not_lt.mp h_1]⟩)
set_option maxHeartbeats 4000000 in
set_option maxRecDepth 100000 in
theorem c_X6_sideOf (D : mD) (A : Nat → Prop) (l : Launch) {a b : Nat} {ax ay bx bz px py : Int32} {M : Mm} (h_a : M a = some (.inr (4, [.int ax, .int ay]))) (h_b : M b = some (.inr (4, [.int bx, .int bz]))) : mMi D A l yX6_sideOf wsX6_sideOf ({ frames := 0, cells := 0, slots := 0, locals := 0 } : Room) [.ref a, .ref b, .int px, .int py] M (fun r M' => M' = M ∧ r = hS ax ay bx bz px py) 0 0 := by
  refine m_start (cc := cX6_sideOf) (maxL := 6) (ret := (some .int)) (by decide) rfl (Nat.le_of_ble_eq_true rfl) ?_
  intro p e s m args below meth c C
  have i_X1 : ∀ w ∈ wsX10, w ∈ wsX6_sideOf := by decide +kernel
  refine m_sub (L' := [(0, .ref a), (1, .ref b), (2, .int px), (3, .int py)]) [0, 1, 2, 3] rfl ?_
  refine m_iconst (v := 2) C dX6_sideOf_0 (by decide) ?_
  refine m_aload_n C dX6_sideOf_1 rfl 0 rfl ?_
  refine m_get (ref := "PaintLayers$Corner") C h_a rfl i_X1 0 (by decide) (by decide +kernel) (fun x h => h) (v := .int ax) rfl dX6_sideOf_2 ?_
  refine m_imul C dX6_sideOf_5 ?_
  refine m_istore (L' := [(4, .int (2 * ax)), (0, .ref a), (1, .ref b), (2, .int px), (3, .int py)]) C dX6_sideOf_6 (by decide) rfl ?_
  refine m_iconst (v := 2) C dX6_sideOf_8 (by decide) ?_
  refine m_aload_n C dX6_sideOf_9 rfl 1 rfl ?_
  refine m_get (ref := "PaintLayers$Corner") C h_a rfl i_X1 1 (by decide) (by decide +kernel) (fun x h => h) (v := .int ay) rfl dX6_sideOf_10 ?_
  refine m_imul C dX6_sideOf_13 ?_
  refine m_istore (L' := [(5, .int (2 * ay)), (4, .int (2 * ax)), (0, .ref a), (1, .ref b), (2, .int px), (3, .int py)]) C dX6_sideOf_14 (by decide) rfl ?_
  refine m_iconst (v := 2) C dX6_sideOf_16 (by decide) ?_
  refine m_aload_n C dX6_sideOf_17 rfl 3 rfl ?_
  refine m_get (ref := "PaintLayers$Corner") C h_b rfl i_X1 0 (by decide) (by decide +kernel) (fun x h => h) (v := .int bx) rfl dX6_sideOf_18 ?_
  refine m_imul C dX6_sideOf_21 ?_
  refine m_iload C dX6_sideOf_22 1 rfl ?_
  refine m_isub C dX6_sideOf_24 ?_
  refine m_iload_n C dX6_sideOf_25 rfl 5 rfl ?_
  refine m_iload C dX6_sideOf_26 0 rfl ?_
  refine m_isub C dX6_sideOf_28 ?_
  refine m_imul C dX6_sideOf_29 ?_
  refine m_iconst (v := 2) C dX6_sideOf_30 (by decide) ?_
  refine m_aload_n C dX6_sideOf_31 rfl 3 rfl ?_
  refine m_get (ref := "PaintLayers$Corner") C h_b rfl i_X1 1 (by decide) (by decide +kernel) (fun x h => h) (v := .int bz) rfl dX6_sideOf_32 ?_
  refine m_imul C dX6_sideOf_35 ?_
  refine m_iload C dX6_sideOf_36 0 rfl ?_
  refine m_isub C dX6_sideOf_38 ?_
  refine m_iload_n C dX6_sideOf_39 rfl 4 rfl ?_
  refine m_iload C dX6_sideOf_40 1 rfl ?_
  refine m_isub C dX6_sideOf_42 ?_
  refine m_imul C dX6_sideOf_43 ?_
  refine m_isub C dX6_sideOf_44 ?_
  exact m_iret C (Nat.le_of_ble_eq_true rfl) (Nat.le_of_ble_eq_true rfl) dX6_sideOf_45 (⟨rfl, rfl⟩)
set_option maxHeartbeats 4000000 in
set_option maxRecDepth 100000 in
theorem c_X6_holds (D : mD) (A : Nat → Prop) (l : Launch) {a bx0 ca cb cc : Nat} {so ax ay bx bz cx cz x y : Int32} {M : Mm} (h_a : M a = some (.inr (8, [.int so, .ref bx0, .ref ca, .ref cb, .ref cc]))) (h_ca : M ca = some (.inr (4, [.int ax, .int ay]))) (h_cb : M cb = some (.inr (4, [.int bx, .int bz]))) (h_cc : M cc = some (.inr (4, [.int cx, .int cz]))) : mMi D A l yX6_holds wsX6_holds ({ frames := 1, cells := 0, slots := 0, locals := 60 } : Room) [.ref a, .int x, .int y] M (fun r9 M' => M' = M ∧ r9 = bI (hT ax ay bx bz cx cz x y)) 0 0 := by
  refine m_start (cc := cX6_holds) (maxL := 9) (ret := (some .boolean)) (by decide) rfl (Nat.le_of_ble_eq_true rfl) ?_
  intro p e s m args below meth c C
  have i_X6 : ∀ w ∈ wsX60, w ∈ wsX6_holds := by decide +kernel
  refine m_sub (L' := [(0, .ref a), (1, .int x), (2, .int y)]) [0, 1, 2] rfl ?_
  refine m_iconst (v := 2) C dX6_holds_0 (by decide) ?_
  refine m_iload_n C dX6_holds_1 rfl 1 rfl ?_
  refine m_imul C dX6_holds_2 ?_
  refine m_iconst (v := 1) C dX6_holds_3 (by decide) ?_
  refine m_iadd C dX6_holds_4 ?_
  refine m_istore_n (L' := [(3, .int ((2 * x) + 1)), (0, .ref a), (1, .int x), (2, .int y)]) C dX6_holds_5 rfl (by decide) rfl ?_
  refine m_iconst (v := 2) C dX6_holds_6 (by decide) ?_
  refine m_iload_n C dX6_holds_7 rfl 3 rfl ?_
  refine m_imul C dX6_holds_8 ?_
  refine m_iconst (v := 1) C dX6_holds_9 (by decide) ?_
  refine m_iadd C dX6_holds_10 ?_
  refine m_istore (L' := [(4, .int ((2 * y) + 1)), (3, .int ((2 * x) + 1)), (0, .ref a), (1, .int x), (2, .int y)]) C dX6_holds_11 (by decide) rfl ?_
  refine m_aload_n C dX6_holds_13 rfl 2 rfl ?_
  refine m_get (ref := "PaintLayers$Triangle") C h_a rfl i_X6 2 (by decide) (by decide +kernel) (fun x h => h) (v := .ref ca) rfl dX6_holds_14 ?_
  refine m_aload_n C dX6_holds_17 rfl 2 rfl ?_
  refine m_get (ref := "PaintLayers$Triangle") C h_a rfl i_X6 3 (by decide) (by decide +kernel) (fun x h => h) (v := .ref cb) rfl dX6_holds_18 ?_
  refine m_iload_n C dX6_holds_21 rfl 1 rfl ?_
  refine m_iload C dX6_holds_22 0 rfl ?_
  refine m_callSFi (As := [.ref ca, .ref cb, .int ((2 * x) + 1), .int ((2 * y) + 1)]) (st := []) (v := hS ax ay bx bz ((2 * x) + 1) ((2 * y) + 1)) C (c_X6_sideOf D A l h_ca h_cb) (va_cwS 4 C.1.2.2.2.2 gX6_holds_X6_sideOf rfl rfl rfl (by decide +kernel) ⟨Nat.le_of_ble_eq_true rfl, Nat.le_of_ble_eq_true rfl⟩) rfl rfl (Nat.le_of_ble_eq_true rfl) dX6_holds_24 ⟨Nat.le_of_ble_eq_true rfl, Nat.le_of_ble_eq_true rfl⟩ ?_
  refine m_topi (fun u9 eu9 => ?_)
  refine m_istore (L' := [(5, .int u9), (4, .int ((2 * y) + 1)), (3, .int ((2 * x) + 1)), (0, .ref a), (1, .int x), (2, .int y)]) C dX6_holds_27 (by decide) rfl ?_
  refine m_aload_n C dX6_holds_29 rfl 3 rfl ?_
  refine m_get (ref := "PaintLayers$Triangle") C h_a rfl i_X6 3 (by decide) (by decide +kernel) (fun x h => h) (v := .ref cb) rfl dX6_holds_30 ?_
  refine m_aload_n C dX6_holds_33 rfl 3 rfl ?_
  refine m_get (ref := "PaintLayers$Triangle") C h_a rfl i_X6 4 (by decide) (by decide +kernel) (fun x h => h) (v := .ref cc) rfl dX6_holds_34 ?_
  refine m_iload_n C dX6_holds_37 rfl 2 rfl ?_
  refine m_iload C dX6_holds_38 1 rfl ?_
  refine m_callSFi (As := [.ref cb, .ref cc, .int ((2 * x) + 1), .int ((2 * y) + 1)]) (st := []) (v := hS bx bz cx cz ((2 * x) + 1) ((2 * y) + 1)) C (c_X6_sideOf D A l h_cb h_cc) (va_cwS 4 C.1.2.2.2.2 gX6_holds_X6_sideOf rfl rfl rfl (by decide +kernel) ⟨Nat.le_of_ble_eq_true rfl, Nat.le_of_ble_eq_true rfl⟩) rfl rfl (Nat.le_of_ble_eq_true rfl) dX6_holds_40 ⟨Nat.le_of_ble_eq_true rfl, Nat.le_of_ble_eq_true rfl⟩ ?_
  refine m_topi (fun v9 ev9 => ?_)
  refine m_istore (L' := [(6, .int v9), (5, .int u9), (4, .int ((2 * y) + 1)), (3, .int ((2 * x) + 1)), (0, .ref a), (1, .int x), (2, .int y)]) C dX6_holds_43 (by decide) rfl ?_
  refine m_aload_n C dX6_holds_45 rfl 4 rfl ?_
  refine m_get (ref := "PaintLayers$Triangle") C h_a rfl i_X6 4 (by decide) (by decide +kernel) (fun x h => h) (v := .ref cc) rfl dX6_holds_46 ?_
  refine m_aload_n C dX6_holds_49 rfl 4 rfl ?_
  refine m_get (ref := "PaintLayers$Triangle") C h_a rfl i_X6 2 (by decide) (by decide +kernel) (fun x h => h) (v := .ref ca) rfl dX6_holds_50 ?_
  refine m_iload_n C dX6_holds_53 rfl 3 rfl ?_
  refine m_iload C dX6_holds_54 2 rfl ?_
  refine m_callSFi (As := [.ref cc, .ref ca, .int ((2 * x) + 1), .int ((2 * y) + 1)]) (st := []) (v := hS cx cz ax ay ((2 * x) + 1) ((2 * y) + 1)) C (c_X6_sideOf D A l h_cc h_ca) (va_cwS 4 C.1.2.2.2.2 gX6_holds_X6_sideOf rfl rfl rfl (by decide +kernel) ⟨Nat.le_of_ble_eq_true rfl, Nat.le_of_ble_eq_true rfl⟩) rfl rfl (Nat.le_of_ble_eq_true rfl) dX6_holds_56 ⟨Nat.le_of_ble_eq_true rfl, Nat.le_of_ble_eq_true rfl⟩ ?_
  refine m_topi (fun w9 ew9 => ?_)
  refine m_istore (L' := [(7, .int w9), (6, .int v9), (5, .int u9), (4, .int ((2 * y) + 1)), (3, .int ((2 * x) + 1)), (0, .ref a), (1, .int x), (2, .int y)]) C dX6_holds_59 (by decide) rfl ?_
  refine m_iload C dX6_holds_61 2 rfl ?_
  refine m_if_lt (tgt := 76) C dX6_holds_63 (by decide) (fun h_1 => ?_) (fun h_1 => ?_)
  · refine m_iload C dX6_holds_76 2 rfl ?_
    refine m_if_gt (tgt := 95) C dX6_holds_78 (by decide) (fun h_2 => ?_) (fun h_2 => ?_)
    · refine m_iconst (v := 0) C dX6_holds_95 (by decide) ?_
      refine m_istore (L' := [(8, .int 0), (7, .int w9), (6, .int v9), (5, .int u9), (4, .int ((2 * y) + 1)), (3, .int ((2 * x) + 1)), (0, .ref a), (1, .int x), (2, .int y)]) C dX6_holds_96 (by decide) rfl ?_
      refine m_iload C dX6_holds_98 0 rfl ?_
      refine m_if_eq (tgt := 122) C dX6_holds_100 (by decide) (fun h_3 => ?_) (fun h_3 => ?_)
      · refine m_iconst (v := 0) C dX6_holds_122 (by decide) ?_
        exact m_zret C (Nat.le_of_ble_eq_true rfl) (Nat.le_of_ble_eq_true rfl) dX6_holds_123 (Or.inl rfl) (⟨rfl, by rw [hT, ← eu9, ← ev9, ← ew9]; simp [hT3, bI, h_1, Int32.not_le.mpr h_1, h_2, Int32.not_le.mpr h_2]⟩)
      · exact absurd rfl h_3
    · refine m_iload C dX6_holds_81 1 rfl ?_
      refine m_if_gt (tgt := 95) C dX6_holds_83 (by decide) (fun h_4 => ?_) (fun h_4 => ?_)
      · refine m_iconst (v := 0) C dX6_holds_95 (by decide) ?_
        refine m_istore (L' := [(8, .int 0), (7, .int w9), (6, .int v9), (5, .int u9), (4, .int ((2 * y) + 1)), (3, .int ((2 * x) + 1)), (0, .ref a), (1, .int x), (2, .int y)]) C dX6_holds_96 (by decide) rfl ?_
        refine m_iload C dX6_holds_98 0 rfl ?_
        refine m_if_eq (tgt := 122) C dX6_holds_100 (by decide) (fun h_5 => ?_) (fun h_5 => ?_)
        · refine m_iconst (v := 0) C dX6_holds_122 (by decide) ?_
          exact m_zret C (Nat.le_of_ble_eq_true rfl) (Nat.le_of_ble_eq_true rfl) dX6_holds_123 (Or.inl rfl) (⟨rfl, by rw [hT, ← eu9, ← ev9, ← ew9]; simp [hT3, bI, h_1, Int32.not_le.mpr h_1, h_2, Int32.not_lt.mp h_2, h_4, Int32.not_le.mpr h_4]⟩)
        · exact absurd rfl h_5
      · refine m_iload C dX6_holds_86 0 rfl ?_
        refine m_if_gt (tgt := 95) C dX6_holds_88 (by decide) (fun h_6 => ?_) (fun h_6 => ?_)
        · refine m_iconst (v := 0) C dX6_holds_95 (by decide) ?_
          refine m_istore (L' := [(8, .int 0), (7, .int w9), (6, .int v9), (5, .int u9), (4, .int ((2 * y) + 1)), (3, .int ((2 * x) + 1)), (0, .ref a), (1, .int x), (2, .int y)]) C dX6_holds_96 (by decide) rfl ?_
          refine m_iload C dX6_holds_98 0 rfl ?_
          refine m_if_eq (tgt := 122) C dX6_holds_100 (by decide) (fun h_7 => ?_) (fun h_7 => ?_)
          · refine m_iconst (v := 0) C dX6_holds_122 (by decide) ?_
            exact m_zret C (Nat.le_of_ble_eq_true rfl) (Nat.le_of_ble_eq_true rfl) dX6_holds_123 (Or.inl rfl) (⟨rfl, by rw [hT, ← eu9, ← ev9, ← ew9]; simp [hT3, bI, h_1, Int32.not_le.mpr h_1, h_2, Int32.not_lt.mp h_2, h_4, Int32.not_lt.mp h_4, h_6, Int32.not_le.mpr h_6]⟩)
          · exact absurd rfl h_7
        · refine m_iconst (v := 1) C dX6_holds_91 (by decide) ?_
          refine m_goto (tgt := 96) C dX6_holds_92 (by decide) ?_
          refine m_istore (L' := [(8, .int 1), (7, .int w9), (6, .int v9), (5, .int u9), (4, .int ((2 * y) + 1)), (3, .int ((2 * x) + 1)), (0, .ref a), (1, .int x), (2, .int y)]) C dX6_holds_96 (by decide) rfl ?_
          refine m_iload C dX6_holds_98 0 rfl ?_
          refine m_if_eq (tgt := 122) C dX6_holds_100 (by decide) (fun h_8 => ?_) (fun h_8 => ?_)
          · exact absurd h_8 (by decide)
          · refine m_iload C dX6_holds_103 3 rfl ?_
            refine m_if_ne (tgt := 118) C dX6_holds_105 (by decide) (fun h_9 => ?_) (fun h_9 => ?_)
            · refine m_iconst (v := 1) C dX6_holds_118 (by decide) ?_
              refine m_goto (tgt := 123) C dX6_holds_119 (by decide) ?_
              exact m_zret C (Nat.le_of_ble_eq_true rfl) (Nat.le_of_ble_eq_true rfl) dX6_holds_123 (Or.inr rfl) (⟨rfl, by rw [hT, ← eu9, ← ev9, ← ew9]; simp [hT3, bI, h_1, Int32.not_le.mpr h_1, h_2, Int32.not_lt.mp h_2, h_4, Int32.not_lt.mp h_4, h_6, Int32.not_lt.mp h_6, h_9]⟩)
            · refine m_iload C dX6_holds_108 2 rfl ?_
              refine m_if_ne (tgt := 118) C dX6_holds_110 (by decide) (fun h_10 => ?_) (fun h_10 => ?_)
              · refine m_iconst (v := 1) C dX6_holds_118 (by decide) ?_
                refine m_goto (tgt := 123) C dX6_holds_119 (by decide) ?_
                exact m_zret C (Nat.le_of_ble_eq_true rfl) (Nat.le_of_ble_eq_true rfl) dX6_holds_123 (Or.inr rfl) (⟨rfl, by rw [hT, ← eu9, ← ev9, ← ew9]; simp [hT3, bI, h_1, Int32.not_le.mpr h_1, h_2, Int32.not_lt.mp h_2, h_4, Int32.not_lt.mp h_4, h_6, Int32.not_lt.mp h_6, h_9, h_10]⟩)
              · refine m_iload C dX6_holds_113 1 rfl ?_
                refine m_if_eq (tgt := 122) C dX6_holds_115 (by decide) (fun h_11 => ?_) (fun h_11 => ?_)
                · refine m_iconst (v := 0) C dX6_holds_122 (by decide) ?_
                  exact m_zret C (Nat.le_of_ble_eq_true rfl) (Nat.le_of_ble_eq_true rfl) dX6_holds_123 (Or.inl rfl) (⟨rfl, by rw [hT, ← eu9, ← ev9, ← ew9]; simp [hT3, bI, h_1, Int32.not_le.mpr h_1, h_2, Int32.not_lt.mp h_2, h_4, Int32.not_lt.mp h_4, h_6, Int32.not_lt.mp h_6, h_9, h_10, h_11]⟩)
                · refine m_iconst (v := 1) C dX6_holds_118 (by decide) ?_
                  refine m_goto (tgt := 123) C dX6_holds_119 (by decide) ?_
                  exact m_zret C (Nat.le_of_ble_eq_true rfl) (Nat.le_of_ble_eq_true rfl) dX6_holds_123 (Or.inr rfl) (⟨rfl, by rw [hT, ← eu9, ← ev9, ← ew9]; simp [hT3, bI, h_1, Int32.not_le.mpr h_1, h_2, Int32.not_lt.mp h_2, h_4, Int32.not_lt.mp h_4, h_6, Int32.not_lt.mp h_6, h_9, h_10, h_11]⟩)
  · refine m_iload C dX6_holds_66 1 rfl ?_
    refine m_if_lt (tgt := 76) C dX6_holds_68 (by decide) (fun h_12 => ?_) (fun h_12 => ?_)
    · refine m_iload C dX6_holds_76 2 rfl ?_
      refine m_if_gt (tgt := 95) C dX6_holds_78 (by decide) (fun h_13 => ?_) (fun h_13 => ?_)
      · refine m_iconst (v := 0) C dX6_holds_95 (by decide) ?_
        refine m_istore (L' := [(8, .int 0), (7, .int w9), (6, .int v9), (5, .int u9), (4, .int ((2 * y) + 1)), (3, .int ((2 * x) + 1)), (0, .ref a), (1, .int x), (2, .int y)]) C dX6_holds_96 (by decide) rfl ?_
        refine m_iload C dX6_holds_98 0 rfl ?_
        refine m_if_eq (tgt := 122) C dX6_holds_100 (by decide) (fun h_14 => ?_) (fun h_14 => ?_)
        · refine m_iconst (v := 0) C dX6_holds_122 (by decide) ?_
          exact m_zret C (Nat.le_of_ble_eq_true rfl) (Nat.le_of_ble_eq_true rfl) dX6_holds_123 (Or.inl rfl) (⟨rfl, by rw [hT, ← eu9, ← ev9, ← ew9]; simp [hT3, bI, h_1, Int32.not_lt.mp h_1, h_12, Int32.not_le.mpr h_12, h_13, Int32.not_le.mpr h_13]⟩)
        · exact absurd rfl h_14
      · refine m_iload C dX6_holds_81 1 rfl ?_
        refine m_if_gt (tgt := 95) C dX6_holds_83 (by decide) (fun h_15 => ?_) (fun h_15 => ?_)
        · refine m_iconst (v := 0) C dX6_holds_95 (by decide) ?_
          refine m_istore (L' := [(8, .int 0), (7, .int w9), (6, .int v9), (5, .int u9), (4, .int ((2 * y) + 1)), (3, .int ((2 * x) + 1)), (0, .ref a), (1, .int x), (2, .int y)]) C dX6_holds_96 (by decide) rfl ?_
          refine m_iload C dX6_holds_98 0 rfl ?_
          refine m_if_eq (tgt := 122) C dX6_holds_100 (by decide) (fun h_16 => ?_) (fun h_16 => ?_)
          · refine m_iconst (v := 0) C dX6_holds_122 (by decide) ?_
            exact m_zret C (Nat.le_of_ble_eq_true rfl) (Nat.le_of_ble_eq_true rfl) dX6_holds_123 (Or.inl rfl) (⟨rfl, by rw [hT, ← eu9, ← ev9, ← ew9]; simp [hT3, bI, h_1, Int32.not_lt.mp h_1, h_12, Int32.not_le.mpr h_12, h_13, Int32.not_lt.mp h_13, h_15, Int32.not_le.mpr h_15]⟩)
          · exact absurd rfl h_16
        · refine m_iload C dX6_holds_86 0 rfl ?_
          refine m_if_gt (tgt := 95) C dX6_holds_88 (by decide) (fun h_17 => ?_) (fun h_17 => ?_)
          · refine m_iconst (v := 0) C dX6_holds_95 (by decide) ?_
            refine m_istore (L' := [(8, .int 0), (7, .int w9), (6, .int v9), (5, .int u9), (4, .int ((2 * y) + 1)), (3, .int ((2 * x) + 1)), (0, .ref a), (1, .int x), (2, .int y)]) C dX6_holds_96 (by decide) rfl ?_
            refine m_iload C dX6_holds_98 0 rfl ?_
            refine m_if_eq (tgt := 122) C dX6_holds_100 (by decide) (fun h_18 => ?_) (fun h_18 => ?_)
            · refine m_iconst (v := 0) C dX6_holds_122 (by decide) ?_
              exact m_zret C (Nat.le_of_ble_eq_true rfl) (Nat.le_of_ble_eq_true rfl) dX6_holds_123 (Or.inl rfl) (⟨rfl, by rw [hT, ← eu9, ← ev9, ← ew9]; simp [hT3, bI, h_1, Int32.not_lt.mp h_1, h_12, Int32.not_le.mpr h_12, h_13, Int32.not_lt.mp h_13, h_15, Int32.not_lt.mp h_15, h_17, Int32.not_le.mpr h_17]⟩)
            · exact absurd rfl h_18
          · refine m_iconst (v := 1) C dX6_holds_91 (by decide) ?_
            refine m_goto (tgt := 96) C dX6_holds_92 (by decide) ?_
            refine m_istore (L' := [(8, .int 1), (7, .int w9), (6, .int v9), (5, .int u9), (4, .int ((2 * y) + 1)), (3, .int ((2 * x) + 1)), (0, .ref a), (1, .int x), (2, .int y)]) C dX6_holds_96 (by decide) rfl ?_
            refine m_iload C dX6_holds_98 0 rfl ?_
            refine m_if_eq (tgt := 122) C dX6_holds_100 (by decide) (fun h_19 => ?_) (fun h_19 => ?_)
            · exact absurd h_19 (by decide)
            · refine m_iload C dX6_holds_103 3 rfl ?_
              refine m_if_ne (tgt := 118) C dX6_holds_105 (by decide) (fun h_20 => ?_) (fun h_20 => ?_)
              · refine m_iconst (v := 1) C dX6_holds_118 (by decide) ?_
                refine m_goto (tgt := 123) C dX6_holds_119 (by decide) ?_
                exact m_zret C (Nat.le_of_ble_eq_true rfl) (Nat.le_of_ble_eq_true rfl) dX6_holds_123 (Or.inr rfl) (⟨rfl, by rw [hT, ← eu9, ← ev9, ← ew9]; simp [hT3, bI, h_1, Int32.not_lt.mp h_1, h_12, Int32.not_le.mpr h_12, h_13, Int32.not_lt.mp h_13, h_15, Int32.not_lt.mp h_15, h_17, Int32.not_lt.mp h_17, h_20]⟩)
              · refine m_iload C dX6_holds_108 2 rfl ?_
                refine m_if_ne (tgt := 118) C dX6_holds_110 (by decide) (fun h_21 => ?_) (fun h_21 => ?_)
                · refine m_iconst (v := 1) C dX6_holds_118 (by decide) ?_
                  refine m_goto (tgt := 123) C dX6_holds_119 (by decide) ?_
                  exact m_zret C (Nat.le_of_ble_eq_true rfl) (Nat.le_of_ble_eq_true rfl) dX6_holds_123 (Or.inr rfl) (⟨rfl, by rw [hT, ← eu9, ← ev9, ← ew9]; simp [hT3, bI, h_1, Int32.not_lt.mp h_1, h_12, Int32.not_le.mpr h_12, h_13, Int32.not_lt.mp h_13, h_15, Int32.not_lt.mp h_15, h_17, Int32.not_lt.mp h_17, h_20, h_21]⟩)
                · refine m_iload C dX6_holds_113 1 rfl ?_
                  refine m_if_eq (tgt := 122) C dX6_holds_115 (by decide) (fun h_22 => ?_) (fun h_22 => ?_)
                  · refine m_iconst (v := 0) C dX6_holds_122 (by decide) ?_
                    exact m_zret C (Nat.le_of_ble_eq_true rfl) (Nat.le_of_ble_eq_true rfl) dX6_holds_123 (Or.inl rfl) (⟨rfl, by rw [hT, ← eu9, ← ev9, ← ew9]; simp [hT3, bI, h_1, Int32.not_lt.mp h_1, h_12, Int32.not_le.mpr h_12, h_13, Int32.not_lt.mp h_13, h_15, Int32.not_lt.mp h_15, h_17, Int32.not_lt.mp h_17, h_20, h_21, h_22]⟩)
                  · refine m_iconst (v := 1) C dX6_holds_118 (by decide) ?_
                    refine m_goto (tgt := 123) C dX6_holds_119 (by decide) ?_
                    exact m_zret C (Nat.le_of_ble_eq_true rfl) (Nat.le_of_ble_eq_true rfl) dX6_holds_123 (Or.inr rfl) (⟨rfl, by rw [hT, ← eu9, ← ev9, ← ew9]; simp [hT3, bI, h_1, Int32.not_lt.mp h_1, h_12, Int32.not_le.mpr h_12, h_13, Int32.not_lt.mp h_13, h_15, Int32.not_lt.mp h_15, h_17, Int32.not_lt.mp h_17, h_20, h_21, h_22]⟩)
    · refine m_iload C dX6_holds_71 0 rfl ?_
      refine m_if_ge (tgt := 91) C dX6_holds_73 (by decide) (fun h_23 => ?_) (fun h_23 => ?_)
      · refine m_iconst (v := 1) C dX6_holds_91 (by decide) ?_
        refine m_goto (tgt := 96) C dX6_holds_92 (by decide) ?_
        refine m_istore (L' := [(8, .int 1), (7, .int w9), (6, .int v9), (5, .int u9), (4, .int ((2 * y) + 1)), (3, .int ((2 * x) + 1)), (0, .ref a), (1, .int x), (2, .int y)]) C dX6_holds_96 (by decide) rfl ?_
        refine m_iload C dX6_holds_98 0 rfl ?_
        refine m_if_eq (tgt := 122) C dX6_holds_100 (by decide) (fun h_24 => ?_) (fun h_24 => ?_)
        · exact absurd h_24 (by decide)
        · refine m_iload C dX6_holds_103 3 rfl ?_
          refine m_if_ne (tgt := 118) C dX6_holds_105 (by decide) (fun h_25 => ?_) (fun h_25 => ?_)
          · refine m_iconst (v := 1) C dX6_holds_118 (by decide) ?_
            refine m_goto (tgt := 123) C dX6_holds_119 (by decide) ?_
            exact m_zret C (Nat.le_of_ble_eq_true rfl) (Nat.le_of_ble_eq_true rfl) dX6_holds_123 (Or.inr rfl) (⟨rfl, by rw [hT, ← eu9, ← ev9, ← ew9]; simp [hT3, bI, h_1, Int32.not_lt.mp h_1, h_12, Int32.not_lt.mp h_12, h_23, Int32.not_lt.mpr h_23, h_25]⟩)
          · refine m_iload C dX6_holds_108 2 rfl ?_
            refine m_if_ne (tgt := 118) C dX6_holds_110 (by decide) (fun h_26 => ?_) (fun h_26 => ?_)
            · refine m_iconst (v := 1) C dX6_holds_118 (by decide) ?_
              refine m_goto (tgt := 123) C dX6_holds_119 (by decide) ?_
              exact m_zret C (Nat.le_of_ble_eq_true rfl) (Nat.le_of_ble_eq_true rfl) dX6_holds_123 (Or.inr rfl) (⟨rfl, by rw [hT, ← eu9, ← ev9, ← ew9]; simp [hT3, bI, h_1, Int32.not_lt.mp h_1, h_12, Int32.not_lt.mp h_12, h_23, Int32.not_lt.mpr h_23, h_25, h_26]⟩)
            · refine m_iload C dX6_holds_113 1 rfl ?_
              refine m_if_eq (tgt := 122) C dX6_holds_115 (by decide) (fun h_27 => ?_) (fun h_27 => ?_)
              · refine m_iconst (v := 0) C dX6_holds_122 (by decide) ?_
                exact m_zret C (Nat.le_of_ble_eq_true rfl) (Nat.le_of_ble_eq_true rfl) dX6_holds_123 (Or.inl rfl) (⟨rfl, by rw [hT, ← eu9, ← ev9, ← ew9]; simp [hT3, bI, h_1, Int32.not_lt.mp h_1, h_12, Int32.not_lt.mp h_12, h_23, Int32.not_lt.mpr h_23, h_25, h_26, h_27]⟩)
              · refine m_iconst (v := 1) C dX6_holds_118 (by decide) ?_
                refine m_goto (tgt := 123) C dX6_holds_119 (by decide) ?_
                exact m_zret C (Nat.le_of_ble_eq_true rfl) (Nat.le_of_ble_eq_true rfl) dX6_holds_123 (Or.inr rfl) (⟨rfl, by rw [hT, ← eu9, ← ev9, ← ew9]; simp [hT3, bI, h_1, Int32.not_lt.mp h_1, h_12, Int32.not_lt.mp h_12, h_23, Int32.not_lt.mpr h_23, h_25, h_26, h_27]⟩)
      · refine m_iload C dX6_holds_76 2 rfl ?_
        refine m_if_gt (tgt := 95) C dX6_holds_78 (by decide) (fun h_28 => ?_) (fun h_28 => ?_)
        · refine m_iconst (v := 0) C dX6_holds_95 (by decide) ?_
          refine m_istore (L' := [(8, .int 0), (7, .int w9), (6, .int v9), (5, .int u9), (4, .int ((2 * y) + 1)), (3, .int ((2 * x) + 1)), (0, .ref a), (1, .int x), (2, .int y)]) C dX6_holds_96 (by decide) rfl ?_
          refine m_iload C dX6_holds_98 0 rfl ?_
          refine m_if_eq (tgt := 122) C dX6_holds_100 (by decide) (fun h_29 => ?_) (fun h_29 => ?_)
          · refine m_iconst (v := 0) C dX6_holds_122 (by decide) ?_
            exact m_zret C (Nat.le_of_ble_eq_true rfl) (Nat.le_of_ble_eq_true rfl) dX6_holds_123 (Or.inl rfl) (⟨rfl, by rw [hT, ← eu9, ← ev9, ← ew9]; simp [hT3, bI, h_1, Int32.not_lt.mp h_1, h_12, Int32.not_lt.mp h_12, h_23, Int32.not_le.mp h_23, h_28, Int32.not_le.mpr h_28]⟩)
          · exact absurd rfl h_29
        · refine m_iload C dX6_holds_81 1 rfl ?_
          refine m_if_gt (tgt := 95) C dX6_holds_83 (by decide) (fun h_30 => ?_) (fun h_30 => ?_)
          · refine m_iconst (v := 0) C dX6_holds_95 (by decide) ?_
            refine m_istore (L' := [(8, .int 0), (7, .int w9), (6, .int v9), (5, .int u9), (4, .int ((2 * y) + 1)), (3, .int ((2 * x) + 1)), (0, .ref a), (1, .int x), (2, .int y)]) C dX6_holds_96 (by decide) rfl ?_
            refine m_iload C dX6_holds_98 0 rfl ?_
            refine m_if_eq (tgt := 122) C dX6_holds_100 (by decide) (fun h_31 => ?_) (fun h_31 => ?_)
            · refine m_iconst (v := 0) C dX6_holds_122 (by decide) ?_
              exact m_zret C (Nat.le_of_ble_eq_true rfl) (Nat.le_of_ble_eq_true rfl) dX6_holds_123 (Or.inl rfl) (⟨rfl, by rw [hT, ← eu9, ← ev9, ← ew9]; simp [hT3, bI, h_1, Int32.not_lt.mp h_1, h_12, Int32.not_lt.mp h_12, h_23, Int32.not_le.mp h_23, h_28, Int32.not_lt.mp h_28, h_30, Int32.not_le.mpr h_30]⟩)
            · exact absurd rfl h_31
          · refine m_iload C dX6_holds_86 0 rfl ?_
            refine m_if_gt (tgt := 95) C dX6_holds_88 (by decide) (fun h_32 => ?_) (fun h_32 => ?_)
            · refine m_iconst (v := 0) C dX6_holds_95 (by decide) ?_
              refine m_istore (L' := [(8, .int 0), (7, .int w9), (6, .int v9), (5, .int u9), (4, .int ((2 * y) + 1)), (3, .int ((2 * x) + 1)), (0, .ref a), (1, .int x), (2, .int y)]) C dX6_holds_96 (by decide) rfl ?_
              refine m_iload C dX6_holds_98 0 rfl ?_
              refine m_if_eq (tgt := 122) C dX6_holds_100 (by decide) (fun h_33 => ?_) (fun h_33 => ?_)
              · refine m_iconst (v := 0) C dX6_holds_122 (by decide) ?_
                exact m_zret C (Nat.le_of_ble_eq_true rfl) (Nat.le_of_ble_eq_true rfl) dX6_holds_123 (Or.inl rfl) (⟨rfl, by rw [hT, ← eu9, ← ev9, ← ew9]; simp [hT3, bI, h_1, Int32.not_lt.mp h_1, h_12, Int32.not_lt.mp h_12, h_23, Int32.not_le.mp h_23, h_28, Int32.not_lt.mp h_28, h_30, Int32.not_lt.mp h_30, h_32, Int32.not_le.mpr h_32]⟩)
              · exact absurd rfl h_33
            · refine m_iconst (v := 1) C dX6_holds_91 (by decide) ?_
              refine m_goto (tgt := 96) C dX6_holds_92 (by decide) ?_
              refine m_istore (L' := [(8, .int 1), (7, .int w9), (6, .int v9), (5, .int u9), (4, .int ((2 * y) + 1)), (3, .int ((2 * x) + 1)), (0, .ref a), (1, .int x), (2, .int y)]) C dX6_holds_96 (by decide) rfl ?_
              refine m_iload C dX6_holds_98 0 rfl ?_
              refine m_if_eq (tgt := 122) C dX6_holds_100 (by decide) (fun h_34 => ?_) (fun h_34 => ?_)
              · exact absurd h_34 (by decide)
              · refine m_iload C dX6_holds_103 3 rfl ?_
                refine m_if_ne (tgt := 118) C dX6_holds_105 (by decide) (fun h_35 => ?_) (fun h_35 => ?_)
                · refine m_iconst (v := 1) C dX6_holds_118 (by decide) ?_
                  refine m_goto (tgt := 123) C dX6_holds_119 (by decide) ?_
                  exact m_zret C (Nat.le_of_ble_eq_true rfl) (Nat.le_of_ble_eq_true rfl) dX6_holds_123 (Or.inr rfl) (⟨rfl, by rw [hT, ← eu9, ← ev9, ← ew9]; simp [hT3, bI, h_1, Int32.not_lt.mp h_1, h_12, Int32.not_lt.mp h_12, h_23, Int32.not_le.mp h_23, h_28, Int32.not_lt.mp h_28, h_30, Int32.not_lt.mp h_30, h_32, Int32.not_lt.mp h_32, h_35]⟩)
                · refine m_iload C dX6_holds_108 2 rfl ?_
                  refine m_if_ne (tgt := 118) C dX6_holds_110 (by decide) (fun h_36 => ?_) (fun h_36 => ?_)
                  · refine m_iconst (v := 1) C dX6_holds_118 (by decide) ?_
                    refine m_goto (tgt := 123) C dX6_holds_119 (by decide) ?_
                    exact m_zret C (Nat.le_of_ble_eq_true rfl) (Nat.le_of_ble_eq_true rfl) dX6_holds_123 (Or.inr rfl) (⟨rfl, by rw [hT, ← eu9, ← ev9, ← ew9]; simp [hT3, bI, h_1, Int32.not_lt.mp h_1, h_12, Int32.not_lt.mp h_12, h_23, Int32.not_le.mp h_23, h_28, Int32.not_lt.mp h_28, h_30, Int32.not_lt.mp h_30, h_32, Int32.not_lt.mp h_32, h_35, h_36]⟩)
                  · refine m_iload C dX6_holds_113 1 rfl ?_
                    refine m_if_eq (tgt := 122) C dX6_holds_115 (by decide) (fun h_37 => ?_) (fun h_37 => ?_)
                    · refine m_iconst (v := 0) C dX6_holds_122 (by decide) ?_
                      exact m_zret C (Nat.le_of_ble_eq_true rfl) (Nat.le_of_ble_eq_true rfl) dX6_holds_123 (Or.inl rfl) (⟨rfl, by rw [hT, ← eu9, ← ev9, ← ew9]; simp [hT3, bI, h_1, Int32.not_lt.mp h_1, h_12, Int32.not_lt.mp h_12, h_23, Int32.not_le.mp h_23, h_28, Int32.not_lt.mp h_28, h_30, Int32.not_lt.mp h_30, h_32, Int32.not_lt.mp h_32, h_35, h_36, h_37]⟩)
                    · refine m_iconst (v := 1) C dX6_holds_118 (by decide) ?_
                      refine m_goto (tgt := 123) C dX6_holds_119 (by decide) ?_
                      exact m_zret C (Nat.le_of_ble_eq_true rfl) (Nat.le_of_ble_eq_true rfl) dX6_holds_123 (Or.inr rfl) (⟨rfl, by rw [hT, ← eu9, ← ev9, ← ew9]; simp [hT3, bI, h_1, Int32.not_lt.mp h_1, h_12, Int32.not_lt.mp h_12, h_23, Int32.not_le.mp h_23, h_28, Int32.not_lt.mp h_28, h_30, Int32.not_lt.mp h_30, h_32, Int32.not_lt.mp h_32, h_35, h_36, h_37]⟩)

