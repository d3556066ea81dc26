/-! ===== the class: what its constructors make ===== -/
theorem mX.none {S : List Nat} {M0 M : Mm} {q : Nat} (h : mX S M0 M) (hq : M q = none) (hn : q ∉ S) : M0 q = none := (h q hn).symm.trans hq
set_option maxHeartbeats 4000000 in
set_option maxRecDepth 100000 in
theorem c_X0_init (D : mD) (A : Nat → Prop) (l : Launch) {a : Nat} {lf tp w h : Int32} {M0 : Mm} (h_a : M0 a = some (.inr (3, [.int 0, .int 0, .int 0, .int 0]))) : mMv D A l yX0_init wsX0_init ({ frames := 1, cells := 0, slots := 0, locals := 60 } : Room) [.ref a, .int lf, .int tp, .int w, .int h] M0 (fun M' => mX [a] M0 M' ∧ M' a = some (.inr (3, [.int lf, .int tp, .int (lf + w), .int (tp + h)]))) 0 0 := by
  refine m_start (cc := cX0_init) (maxL := 5) (ret := none) (by decide) rfl (Nat.le_of_ble_eq_true rfl) ?_
  intro p e s m args below meth c C
  have i_X0 : ∀ w ∈ wsX00, w ∈ wsX0_init := by decide +kernel
  refine m_sub (L' := [(0, .ref a), (1, .int lf), (2, .int tp), (3, .int w), (4, .int h)]) [0, 1, 2, 3, 4] rfl ?_
  obtain ⟨M, eM⟩ : ∃ z : Mm, z = M0 := ⟨_, rfl⟩
  refine m_mem (M' := M) (by rw [eM]; exact fun _ _ h => h) ?_
  have h_a : M a = some (.inr (3, [.int 0, .int 0, .int 0, .int 0])) := by rw [eM]; exact h_a
  have hX : mX [a] M0 M := by rw [eM]; exact mX.rf
  clear eM
  refine m_aload_n C dX0_init_0 rfl 0 rfl ?_
  refine m_objInit C (by decide +kernel) (by decide +kernel) (by decide +kernel) (Nat.le_of_ble_eq_true rfl) (Nat.le_of_ble_eq_true rfl) dX0_init_1 ?_
  refine m_aload_n C dX0_init_4 rfl 0 rfl ?_
  refine m_iload_n C dX0_init_5 rfl 1 rfl ?_
  refine m_putF (ref := "PaintLayers$Box") C h_a rfl i_X0 tyX0 tyX0_ok nmX0 0 (by decide) (by decide +kernel) (fun x h => h) rfl rfl rfl rfl rfl (Nat.le_of_ble_eq_true rfl) (e' := .inr (3, [.int lf, .int 0, .int 0, .int 0])) rfl dX0_init_6 ?_
  have g_a : (m_up M a (.inr (3, [.int lf, .int 0, .int 0, .int 0]))) a = some (.inr (3, [.int lf, .int 0, .int 0, .int 0])) := m_up_s
  have gX := hX.put (a := a) (e := .inr (3, [.int lf, .int 0, .int 0, .int 0])) (by simp)
  revert g_a gX
  generalize m_up M a (.inr (3, [.int lf, .int 0, .int 0, .int 0])) = M
  intro h_a hX
  refine m_aload_n C dX0_init_9 rfl 0 rfl ?_
  refine m_iload_n C dX0_init_10 rfl 2 rfl ?_
  refine m_putF (ref := "PaintLayers$Box") C h_a rfl i_X0 tyX0 tyX0_ok nmX0 1 (by decide) (by decide +kernel) (fun x h => h) rfl rfl rfl rfl rfl (Nat.le_of_ble_eq_true rfl) (e' := .inr (3, [.int lf, .int tp, .int 0, .int 0])) rfl dX0_init_11 ?_
  have g_a : (m_up M a (.inr (3, [.int lf, .int tp, .int 0, .int 0]))) a = some (.inr (3, [.int lf, .int tp, .int 0, .int 0])) := m_up_s
  have gX := hX.put (a := a) (e := .inr (3, [.int lf, .int tp, .int 0, .int 0])) (by simp)
  revert g_a gX
  generalize m_up M a (.inr (3, [.int lf, .int tp, .int 0, .int 0])) = M
  intro h_a hX
  refine m_aload_n C dX0_init_14 rfl 0 rfl ?_
  refine m_iload_n C dX0_init_15 rfl 1 rfl ?_
  refine m_iload_n C dX0_init_16 rfl 3 rfl ?_
  refine m_iadd C dX0_init_17 ?_
  refine m_putF (ref := "PaintLayers$Box") C h_a rfl i_X0 tyX0 tyX0_ok nmX0 2 (by decide) (by decide +kernel) (fun x h => h) rfl rfl rfl rfl rfl (Nat.le_of_ble_eq_true rfl) (e' := .inr (3, [.int lf, .int tp, .int (lf + w), .int 0])) rfl dX0_init_18 ?_
  have g_a : (m_up M a (.inr (3, [.int lf, .int tp, .int (lf + w), .int 0]))) a = some (.inr (3, [.int lf, .int tp, .int (lf + w), .int 0])) := m_up_s
  have gX := hX.put (a := a) (e := .inr (3, [.int lf, .int tp, .int (lf + w), .int 0])) (by simp)
  revert g_a gX
  generalize m_up M a (.inr (3, [.int lf, .int tp, .int (lf + w), .int 0])) = M
  intro h_a hX
  refine m_aload_n C dX0_init_21 rfl 0 rfl ?_
  refine m_iload_n C dX0_init_22 rfl 2 rfl ?_
  refine m_iload C dX0_init_23 4 rfl ?_
  refine m_iadd C dX0_init_25 ?_
  refine m_putF (ref := "PaintLayers$Box") C h_a rfl i_X0 tyX0 tyX0_ok nmX0 3 (by decide) (by decide +kernel) (fun x h => h) rfl rfl rfl rfl rfl (Nat.le_of_ble_eq_true rfl) (e' := .inr (3, [.int lf, .int tp, .int (lf + w), .int (tp + h)])) rfl dX0_init_26 ?_
  have g_a : (m_up M a (.inr (3, [.int lf, .int tp, .int (lf + w), .int (tp + h)]))) a = some (.inr (3, [.int lf, .int tp, .int (lf + w), .int (tp + h)])) := m_up_s
  have gX := hX.put (a := a) (e := .inr (3, [.int lf, .int tp, .int (lf + w), .int (tp + h)])) (by simp)
  revert g_a gX
  generalize m_up M a (.inr (3, [.int lf, .int tp, .int (lf + w), .int (tp + h)])) = M
  intro h_a hX
  exact m_vret C (Nat.le_of_ble_eq_true rfl) (Nat.le_of_ble_eq_true rfl) dX0_init_29 (⟨hX, h_a⟩)
set_option maxHeartbeats 4000000 in
set_option maxRecDepth 100000 in
theorem c_X1_init (D : mD) (A : Nat → Prop) (l : Launch) {a : Nat} {x y : Int32} {M0 : Mm} (h_a : M0 a = some (.inr (4, [.int 0, .int 0]))) : mMv D A l yX1_init wsX1_init ({ frames := 1, cells := 0, slots := 0, locals := 60 } : Room) [.ref a, .int x, .int y] M0 (fun M' => mX [a] M0 M' ∧ M' a = some (.inr (4, [.int x, .int y]))) 0 0 := by
  refine m_start (cc := cX1_init) (maxL := 3) (ret := none) (by decide) rfl (Nat.le_of_ble_eq_true rfl) ?_
  intro p e s m args below meth c C
  have i_X1 : ∀ w ∈ wsX10, w ∈ wsX1_init := by decide +kernel
  refine m_sub (L' := [(0, .ref a), (1, .int x), (2, .int y)]) [0, 1, 2] rfl ?_
  obtain ⟨M, eM⟩ : ∃ z : Mm, z = M0 := ⟨_, rfl⟩
  refine m_mem (M' := M) (by rw [eM]; exact fun _ _ h => h) ?_
  have h_a : M a = some (.inr (4, [.int 0, .int 0])) := by rw [eM]; exact h_a
  have hX : mX [a] M0 M := by rw [eM]; exact mX.rf
  clear eM
  refine m_aload_n C dX1_init_0 rfl 0 rfl ?_
  refine m_objInit C (by decide +kernel) (by decide +kernel) (by decide +kernel) (Nat.le_of_ble_eq_true rfl) (Nat.le_of_ble_eq_true rfl) dX1_init_1 ?_
  refine m_aload_n C dX1_init_4 rfl 0 rfl ?_
  refine m_iload_n C dX1_init_5 rfl 1 rfl ?_
  refine m_putF (ref := "PaintLayers$Corner") C h_a rfl i_X1 tyX1 tyX1_ok nmX1 0 (by decide) (by decide +kernel) (fun x h => h) rfl rfl rfl rfl rfl (Nat.le_of_ble_eq_true rfl) (e' := .inr (4, [.int x, .int 0])) rfl dX1_init_6 ?_
  have g_a : (m_up M a (.inr (4, [.int x, .int 0]))) a = some (.inr (4, [.int x, .int 0])) := m_up_s
  have gX := hX.put (a := a) (e := .inr (4, [.int x, .int 0])) (by simp)
  revert g_a gX
  generalize m_up M a (.inr (4, [.int x, .int 0])) = M
  intro h_a hX
  refine m_aload_n C dX1_init_9 rfl 0 rfl ?_
  refine m_iload_n C dX1_init_10 rfl 2 rfl ?_
  refine m_putF (ref := "PaintLayers$Corner") C h_a rfl i_X1 tyX1 tyX1_ok nmX1 1 (by decide) (by decide +kernel) (fun x h => h) rfl rfl rfl rfl rfl (Nat.le_of_ble_eq_true rfl) (e' := .inr (4, [.int x, .int y])) rfl dX1_init_11 ?_
  have g_a : (m_up M a (.inr (4, [.int x, .int y]))) a = some (.inr (4, [.int x, .int y])) := m_up_s
  have gX := hX.put (a := a) (e := .inr (4, [.int x, .int y])) (by simp)
  revert g_a gX
  generalize m_up M a (.inr (4, [.int x, .int y])) = M
  intro h_a hX
  exact m_vret C (Nat.le_of_ble_eq_true rfl) (Nat.le_of_ble_eq_true rfl) dX1_init_14 (⟨hX, h_a⟩)
set_option maxHeartbeats 4000000 in
set_option maxRecDepth 100000 in
theorem c_X5_init_X4 (D : mD) (A : Nat → Prop) (l : Launch) {a b : Nat} {so : Int32} {M0 : Mm} (h_a : M0 a = some (.inr (7, [.int 0, .null]))) : mMv D A l yX5_init wsX5_init ({ frames := 1, cells := 0, slots := 0, locals := 60 } : Room) [.ref a, .int so, .ref b] M0 (fun M' => mX [a] M0 M' ∧ M' a = some (.inr (7, [.int so, .ref b]))) 0 0 := by
  refine m_start (cc := cX5_init) (maxL := 3) (ret := none) (by decide) rfl (Nat.le_of_ble_eq_true rfl) ?_
  intro p e s m args below meth c C
  have i_X4 : ∀ w ∈ wsX40, w ∈ wsX5_init := by decide +kernel
  refine m_sub (L' := [(0, .ref a), (1, .int so), (2, .ref b)]) [0, 1, 2] rfl ?_
  obtain ⟨M, eM⟩ : ∃ z : Mm, z = M0 := ⟨_, rfl⟩
  refine m_mem (M' := M) (by rw [eM]; exact fun _ _ h => h) ?_
  have h_a : M a = some (.inr (7, [.int 0, .null])) := by rw [eM]; exact h_a
  have hX : mX [a] M0 M := by rw [eM]; exact mX.rf
  clear eM
  refine m_aload_n C dX5_init_0 rfl 0 rfl ?_
  refine m_objInit C (by decide +kernel) (by decide +kernel) (by decide +kernel) (Nat.le_of_ble_eq_true rfl) (Nat.le_of_ble_eq_true rfl) dX5_init_1 ?_
  refine m_aload_n C dX5_init_4 rfl 0 rfl ?_
  refine m_iload_n C dX5_init_5 rfl 1 rfl ?_
  refine m_putF (ref := "PaintLayers$Shape") C h_a rfl i_X4 tyX4 tyX4_ok nmX4 0 (by decide) (by decide +kernel) (fun x h => h) rfl rfl rfl rfl rfl (Nat.le_of_ble_eq_true rfl) (e' := .inr (7, [.int so, .null])) rfl dX5_init_6 ?_
  have g_a : (m_up M a (.inr (7, [.int so, .null]))) a = some (.inr (7, [.int so, .null])) := m_up_s
  have gX := hX.put (a := a) (e := .inr (7, [.int so, .null])) (by simp)
  revert g_a gX
  generalize m_up M a (.inr (7, [.int so, .null])) = M
  intro h_a hX
  refine m_aload_n C dX5_init_9 rfl 0 rfl ?_
  refine m_aload_n C dX5_init_10 rfl 2 rfl ?_
  refine m_putF (ref := "PaintLayers$Shape") C h_a rfl i_X4 tyX4 tyX4_ok nmX4 1 (by decide) (by decide +kernel) (fun x h => h) rfl rfl rfl rfl rfl (Nat.le_of_ble_eq_true rfl) (e' := .inr (7, [.int so, .ref b])) rfl dX5_init_11 ?_
  have g_a : (m_up M a (.inr (7, [.int so, .ref b]))) a = some (.inr (7, [.int so, .ref b])) := m_up_s
  have gX := hX.put (a := a) (e := .inr (7, [.int so, .ref b])) (by simp)
  revert g_a gX
  generalize m_up M a (.inr (7, [.int so, .ref b])) = M
  intro h_a hX
  exact m_vret C (Nat.le_of_ble_eq_true rfl) (Nat.le_of_ble_eq_true rfl) dX5_init_14 (⟨hX, h_a⟩)
set_option maxHeartbeats 4000000 in
set_option maxRecDepth 100000 in
theorem c_X5_init_X2 (D : mD) (A : Nat → Prop) (l : Launch) {a b : Nat} {so : Int32} {M0 : Mm} (h_a : M0 a = some (.inr (5, [.int 0, .null, .int 0, .int 0, .int 0]))) : mMv D A l yX5_init wsX5_init ({ frames := 1, cells := 0, slots := 0, locals := 60 } : Room) [.ref a, .int so, .ref b] M0 (fun M' => mX [a] M0 M' ∧ M' a = some (.inr (5, [.int so, .ref b, .int 0, .int 0, .int 0]))) 0 0 := by
  refine m_start (cc := cX5_init) (maxL := 3) (ret := none) (by decide) rfl (Nat.le_of_ble_eq_true rfl) ?_
  intro p e s m args below meth c C
  have i_X2 : ∀ w ∈ wsX20, w ∈ wsX5_init := by decide +kernel
  refine m_sub (L' := [(0, .ref a), (1, .int so), (2, .ref b)]) [0, 1, 2] rfl ?_
  obtain ⟨M, eM⟩ : ∃ z : Mm, z = M0 := ⟨_, rfl⟩
  refine m_mem (M' := M) (by rw [eM]; exact fun _ _ h => h) ?_
  have h_a : M a = some (.inr (5, [.int 0, .null, .int 0, .int 0, .int 0])) := by rw [eM]; exact h_a
  have hX : mX [a] M0 M := by rw [eM]; exact mX.rf
  clear eM
  refine m_aload_n C dX5_init_0 rfl 0 rfl ?_
  refine m_objInit C (by decide +kernel) (by decide +kernel) (by decide +kernel) (Nat.le_of_ble_eq_true rfl) (Nat.le_of_ble_eq_true rfl) dX5_init_1 ?_
  refine m_aload_n C dX5_init_4 rfl 0 rfl ?_
  refine m_iload_n C dX5_init_5 rfl 1 rfl ?_
  refine m_putF (ref := "PaintLayers$Shape") C h_a rfl i_X2 tyX2 tyX2_ok nmX2 0 (by decide) (by decide +kernel) (fun x h => h) rfl rfl rfl rfl rfl (Nat.le_of_ble_eq_true rfl) (e' := .inr (5, [.int so, .null, .int 0, .int 0, .int 0])) rfl dX5_init_6 ?_
  have g_a : (m_up M a (.inr (5, [.int so, .null, .int 0, .int 0, .int 0]))) a = some (.inr (5, [.int so, .null, .int 0, .int 0, .int 0])) := m_up_s
  have gX := hX.put (a := a) (e := .inr (5, [.int so, .null, .int 0, .int 0, .int 0])) (by simp)
  revert g_a gX
  generalize m_up M a (.inr (5, [.int so, .null, .int 0, .int 0, .int 0])) = M
  intro h_a hX
  refine m_aload_n C dX5_init_9 rfl 0 rfl ?_
  refine m_aload_n C dX5_init_10 rfl 2 rfl ?_
  refine m_putF (ref := "PaintLayers$Shape") C h_a rfl i_X2 tyX2 tyX2_ok nmX2 1 (by decide) (by decide +kernel) (fun x h => h) rfl rfl rfl rfl rfl (Nat.le_of_ble_eq_true rfl) (e' := .inr (5, [.int so, .ref b, .int 0, .int 0, .int 0])) rfl dX5_init_11 ?_
  have g_a : (m_up M a (.inr (5, [.int so, .ref b, .int 0, .int 0, .int 0]))) a = some (.inr (5, [.int so, .ref b, .int 0, .int 0, .int 0])) := m_up_s
  have gX := hX.put (a := a) (e := .inr (5, [.int so, .ref b, .int 0, .int 0, .int 0])) (by simp)
  revert g_a gX
  generalize m_up M a (.inr (5, [.int so, .ref b, .int 0, .int 0, .int 0])) = M
  intro h_a hX
  exact m_vret C (Nat.le_of_ble_eq_true rfl) (Nat.le_of_ble_eq_true rfl) dX5_init_14 (⟨hX, h_a⟩)
set_option maxHeartbeats 4000000 in
set_option maxRecDepth 100000 in
theorem c_X5_init_X6 (D : mD) (A : Nat → Prop) (l : Launch) {a b : Nat} {so : Int32} {M0 : Mm} (h_a : M0 a = some (.inr (8, [.int 0, .null, .null, .null, .null]))) : mMv D A l yX5_init wsX5_init ({ frames := 1, cells := 0, slots := 0, locals := 60 } : Room) [.ref a, .int so, .ref b] M0 (fun M' => mX [a] M0 M' ∧ M' a = some (.inr (8, [.int so, .ref b, .null, .null, .null]))) 0 0 := by
  refine m_start (cc := cX5_init) (maxL := 3) (ret := none) (by decide) rfl (Nat.le_of_ble_eq_true rfl) ?_
  intro p e s m args below meth c C
  have i_X6 : ∀ w ∈ wsX60, w ∈ wsX5_init := by decide +kernel
  refine m_sub (L' := [(0, .ref a), (1, .int so), (2, .ref b)]) [0, 1, 2] rfl ?_
  obtain ⟨M, eM⟩ : ∃ z : Mm, z = M0 := ⟨_, rfl⟩
  refine m_mem (M' := M) (by rw [eM]; exact fun _ _ h => h) ?_
  have h_a : M a = some (.inr (8, [.int 0, .null, .null, .null, .null])) := by rw [eM]; exact h_a
  have hX : mX [a] M0 M := by rw [eM]; exact mX.rf
  clear eM
  refine m_aload_n C dX5_init_0 rfl 0 rfl ?_
  refine m_objInit C (by decide +kernel) (by decide +kernel) (by decide +kernel) (Nat.le_of_ble_eq_true rfl) (Nat.le_of_ble_eq_true rfl) dX5_init_1 ?_
  refine m_aload_n C dX5_init_4 rfl 0 rfl ?_
  refine m_iload_n C dX5_init_5 rfl 1 rfl ?_
  refine m_putF (ref := "PaintLayers$Shape") C h_a rfl i_X6 tyX6 tyX6_ok nmX6 0 (by decide) (by decide +kernel) (fun x h => h) rfl rfl rfl rfl rfl (Nat.le_of_ble_eq_true rfl) (e' := .inr (8, [.int so, .null, .null, .null, .null])) rfl dX5_init_6 ?_
  have g_a : (m_up M a (.inr (8, [.int so, .null, .null, .null, .null]))) a = some (.inr (8, [.int so, .null, .null, .null, .null])) := m_up_s
  have gX := hX.put (a := a) (e := .inr (8, [.int so, .null, .null, .null, .null])) (by simp)
  revert g_a gX
  generalize m_up M a (.inr (8, [.int so, .null, .null, .null, .null])) = M
  intro h_a hX
  refine m_aload_n C dX5_init_9 rfl 0 rfl ?_
  refine m_aload_n C dX5_init_10 rfl 2 rfl ?_
  refine m_putF (ref := "PaintLayers$Shape") C h_a rfl i_X6 tyX6 tyX6_ok nmX6 1 (by decide) (by decide +kernel) (fun x h => h) rfl rfl rfl rfl rfl (Nat.le_of_ble_eq_true rfl) (e' := .inr (8, [.int so, .ref b, .null, .null, .null])) rfl dX5_init_11 ?_
  have g_a : (m_up M a (.inr (8, [.int so, .ref b, .null, .null, .null]))) a = some (.inr (8, [.int so, .ref b, .null, .null, .null])) := m_up_s
  have gX := hX.put (a := a) (e := .inr (8, [.int so, .ref b, .null, .null, .null])) (by simp)
  revert g_a gX
  generalize m_up M a (.inr (8, [.int so, .ref b, .null, .null, .null])) = M
  intro h_a hX
  exact m_vret C (Nat.le_of_ble_eq_true rfl) (Nat.le_of_ble_eq_true rfl) dX5_init_14 (⟨hX, h_a⟩)
set_option maxHeartbeats 4000000 in
set_option maxRecDepth 100000 in
theorem c_X4_init (D : mD) (A : Nat → Prop) (l : Launch) {a b : Nat} {M0 : Mm} (h_a : M0 a = some (.inr (7, [.int 0, .null]))) : mMv D A l yX4_init wsX4_init ({ frames := 2, cells := 0, slots := 0, locals := 120 } : Room) [.ref a, .ref b] M0 (fun M' => mX [a] M0 M' ∧ M' a = some (.inr (7, [.int 1, .ref b]))) 0 0 := by
  refine m_start (cc := cX4_init) (maxL := 2) (ret := none) (by decide) rfl (Nat.le_of_ble_eq_true rfl) ?_
  intro p e s m args below meth c C
  have i_X4 : ∀ w ∈ wsX40, w ∈ wsX4_init := by decide +kernel
  refine m_sub (L' := [(0, .ref a), (1, .ref b)]) [0, 1] rfl ?_
  obtain ⟨M, eM⟩ : ∃ z : Mm, z = M0 := ⟨_, rfl⟩
  refine m_mem (M' := M) (by rw [eM]; exact fun _ _ h => h) ?_
  have h_a : M a = some (.inr (7, [.int 0, .null])) := by rw [eM]; exact h_a
  have hX : mX [a] M0 M := by rw [eM]; exact mX.rf
  clear eM
  refine m_aload_n C dX4_init_0 rfl 0 rfl ?_
  refine m_iconst (v := 1) C dX4_init_1 (by decide) ?_
  refine m_aload_n C dX4_init_2 rfl 1 rfl ?_
  refine m_callIv (ret1 := none) (As := [.int 1, .ref b]) (st := []) C (c_X5_init_X4 D A l h_a) ⟨callB_of 2 C.1.2.2.2.2 gX4_init_X5_init rfl rfl rfl (C.1.2.2.2.2 _ (by decide +kernel)) (C.1.2.2.2.2 _ (by decide +kernel)) (by decide +kernel) ⟨Nat.le_of_ble_eq_true rfl, Nat.le_of_ble_eq_true rfl⟩, rfl, C.1.2.2.2.2 _ (by decide +kernel)⟩ rfl rfl (Nat.le_of_ble_eq_true rfl) dX4_init_3 ⟨Nat.le_of_ble_eq_true rfl, Nat.le_of_ble_eq_true rfl⟩ (fun M9 hq9 => ?_)
  exact m_vret C (Nat.le_of_ble_eq_true rfl) (Nat.le_of_ble_eq_true rfl) dX4_init_6 (⟨hX.tr hq9.1, hq9.2⟩)
set_option maxHeartbeats 4000000 in
set_option maxRecDepth 100000 in
theorem c_X6_init (D : mD) (A : Nat → Prop) (l : Launch) {a b p1 p2 p3 : Nat} {M0 : Mm} (h_a : M0 a = some (.inr (8, [.int 0, .null, .null, .null, .null]))) : mMv D A l yX6_init wsX6_init ({ frames := 2, cells := 0, slots := 0, locals := 120 } : Room) [.ref a, .ref b, .ref p1, .ref p2, .ref p3] M0 (fun M' => mX [a] M0 M' ∧ M' a = some (.inr (8, [.int 3, .ref b, .ref p1, .ref p2, .ref p3]))) 0 0 := by
  refine m_start (cc := cX6_init) (maxL := 5) (ret := none) (by decide) rfl (Nat.le_of_ble_eq_true rfl) ?_
  intro p e s m args below meth c C
  have i_X6 : ∀ w ∈ wsX60, w ∈ wsX6_init := by decide +kernel
  refine m_sub (L' := [(0, .ref a), (1, .ref b), (2, .ref p1), (3, .ref p2), (4, .ref p3)]) [0, 1, 2, 3, 4] rfl ?_
  obtain ⟨M, eM⟩ : ∃ z : Mm, z = M0 := ⟨_, rfl⟩
  refine m_mem (M' := M) (by rw [eM]; exact fun _ _ h => h) ?_
  have h_a : M a = some (.inr (8, [.int 0, .null, .null, .null, .null])) := by rw [eM]; exact h_a
  have hX : mX [a] M0 M := by rw [eM]; exact mX.rf
  clear eM
  refine m_aload_n C dX6_init_0 rfl 0 rfl ?_
  refine m_iconst (v := 3) C dX6_init_1 (by decide) ?_
  refine m_aload_n C dX6_init_2 rfl 1 rfl ?_
  refine m_callIv (ret1 := none) (As := [.int 3, .ref b]) (st := []) C (c_X5_init_X6 D A l h_a) ⟨callB_of 2 C.1.2.2.2.2 gX6_init_X5_init rfl rfl rfl (C.1.2.2.2.2 _ (by decide +kernel)) (C.1.2.2.2.2 _ (by decide +kernel)) (by decide +kernel) ⟨Nat.le_of_ble_eq_true rfl, Nat.le_of_ble_eq_true rfl⟩, rfl, C.1.2.2.2.2 _ (by decide +kernel)⟩ rfl rfl (Nat.le_of_ble_eq_true rfl) dX6_init_3 ⟨Nat.le_of_ble_eq_true rfl, Nat.le_of_ble_eq_true rfl⟩ (fun M9 hq9 => ?_)
  have hX := hX.tr hq9.1
  have h_a := hq9.2
  clear hq9
  rename Mm => M
  refine m_aload_n C dX6_init_6 rfl 0 rfl ?_
  refine m_aload_n C dX6_init_7 rfl 2 rfl ?_
  refine m_putF (ref := "PaintLayers$Triangle") C h_a rfl i_X6 tyX6 tyX6_ok nmX6 2 (by decide) (by decide +kernel) (fun x h => h) rfl rfl rfl rfl rfl (Nat.le_of_ble_eq_true rfl) (e' := .inr (8, [.int 3, .ref b, .ref p1, .null, .null])) rfl dX6_init_8 ?_
  have g_a : (m_up M a (.inr (8, [.int 3, .ref b, .ref p1, .null, .null]))) a = some (.inr (8, [.int 3, .ref b, .ref p1, .null, .null])) := m_up_s
  have gX := hX.put (a := a) (e := .inr (8, [.int 3, .ref b, .ref p1, .null, .null])) (by simp)
  revert g_a gX
  generalize m_up M a (.inr (8, [.int 3, .ref b, .ref p1, .null, .null])) = M
  intro h_a hX
  refine m_aload_n C dX6_init_11 rfl 0 rfl ?_
  refine m_aload_n C dX6_init_12 rfl 3 rfl ?_
  refine m_putF (ref := "PaintLayers$Triangle") C h_a rfl i_X6 tyX6 tyX6_ok nmX6 3 (by decide) (by decide +kernel) (fun x h => h) rfl rfl rfl rfl rfl (Nat.le_of_ble_eq_true rfl) (e' := .inr (8, [.int 3, .ref b, .ref p1, .ref p2, .null])) rfl dX6_init_13 ?_
  have g_a : (m_up M a (.inr (8, [.int 3, .ref b, .ref p1, .ref p2, .null]))) a = some (.inr (8, [.int 3, .ref b, .ref p1, .ref p2, .null])) := m_up_s
  have gX := hX.put (a := a) (e := .inr (8, [.int 3, .ref b, .ref p1, .ref p2, .null])) (by simp)
  revert g_a gX
  generalize m_up M a (.inr (8, [.int 3, .ref b, .ref p1, .ref p2, .null])) = M
  intro h_a hX
  refine m_aload_n C dX6_init_16 rfl 0 rfl ?_
  refine m_aload C dX6_init_17 4 rfl ?_
  refine m_putF (ref := "PaintLayers$Triangle") C h_a rfl i_X6 tyX6 tyX6_ok nmX6 4 (by decide) (by decide +kernel) (fun x h => h) rfl rfl rfl rfl rfl (Nat.le_of_ble_eq_true rfl) (e' := .inr (8, [.int 3, .ref b, .ref p1, .ref p2, .ref p3])) rfl dX6_init_19 ?_
  have g_a : (m_up M a (.inr (8, [.int 3, .ref b, .ref p1, .ref p2, .ref p3]))) a = some (.inr (8, [.int 3, .ref b, .ref p1, .ref p2, .ref p3])) := m_up_s
  have gX := hX.put (a := a) (e := .inr (8, [.int 3, .ref b, .ref p1, .ref p2, .ref p3])) (by simp)
  revert g_a gX
  generalize m_up M a (.inr (8, [.int 3, .ref b, .ref p1, .ref p2, .ref p3])) = M
  intro h_a hX
  exact m_vret C (Nat.le_of_ble_eq_true rfl) (Nat.le_of_ble_eq_true rfl) dX6_init_22 (⟨hX, h_a⟩)
set_option maxHeartbeats 4000000 in
set_option maxRecDepth 100000 in
theorem c_X7_boxRound (D : mD) (A : Nat → Prop) (l : Launch) {lf tp rt bt : Int32} {M0 : Mm} : mMq D A l yX7_boxRound wsX7_boxRound ({ frames := 3, cells := 1, slots := 4, locals := 140 } : Room) [.int lf, .int tp, .int rt, .int bt] M0 (fun r M' => ∃ q : Nat, r = some q ∧ M0 q = none ∧ mX [q] M0 M' ∧ M' q = some (.inr (3, [.int lf, .int tp, .int (lf + (rt - lf)), .int (tp + (bt - tp))]))) 1 4 := by
  refine m_start (cc := cX7_boxRound) (maxL := 4) (ret := (some (.object "PaintLayers$Box"))) (by decide) rfl (Nat.le_of_ble_eq_true rfl) ?_
  intro p e s m args below meth c C
  have i_X0 : ∀ w ∈ wsX00, w ∈ wsX7_boxRound := by decide +kernel
  refine m_sub (L' := [(0, .int lf), (1, .int tp), (2, .int rt), (3, .int bt)]) [0, 1, 2, 3] rfl ?_
  obtain ⟨M, eM⟩ : ∃ z : Mm, z = M0 := ⟨_, rfl⟩
  refine m_mem (M' := M) (by rw [eM]; exact fun _ _ h => h) ?_
  have hX : mX [] M0 M := by rw [eM]; exact mX.rf
  clear eM
  refine m_new (ci := 3) (fs := [.int 0, .int 0, .int 0, .int 0]) C rfl i_X0 tyX0 tyX0_ok (by decide +kernel) (by decide +kernel) (by decide +kernel) (fun j hj => by match j, hj with | 0, _ => rfl | 1, _ => rfl | 2, _ => rfl | 3, _ => rfl | k + 4, h => omega) (Nat.le_of_ble_eq_true rfl) (Nat.le_of_ble_eq_true rfl) dX7_boxRound_0 (fun q_1 hq_q_1 => ?_)
  have hq0_q_1 : M0 q_1 = none := hX.none hq_q_1 (by simp)
  have g_q_1 : (m_up M q_1 (.inr (3, [.int 0, .int 0, .int 0, .int 0]))) q_1 = some (.inr (3, [.int 0, .int 0, .int 0, .int 0])) := m_up_s
  have gX := hX.new (q := q_1) (e := .inr (3, [.int 0, .int 0, .int 0, .int 0]))
  revert g_q_1 gX
  generalize m_up M q_1 (.inr (3, [.int 0, .int 0, .int 0, .int 0])) = M
  intro h_q_1 hX
  refine m_dup C dX7_boxRound_3 rfl ?_
  refine m_iload_n C dX7_boxRound_4 rfl 0 rfl ?_
  refine m_iload_n C dX7_boxRound_5 rfl 1 rfl ?_
  refine m_iload_n C dX7_boxRound_6 rfl 2 rfl ?_
  refine m_iload_n C dX7_boxRound_7 rfl 0 rfl ?_
  refine m_isub C dX7_boxRound_8 ?_
  refine m_iload_n C dX7_boxRound_9 rfl 3 rfl ?_
  refine m_iload_n C dX7_boxRound_10 rfl 1 rfl ?_
  refine m_isub C dX7_boxRound_11 ?_
  refine m_callIv (ret1 := none) (As := [.int lf, .int tp, .int (rt - lf), .int (bt - tp)]) (st := [.ref q_1]) C (c_X0_init D A l h_q_1) ⟨callB_of 4 C.1.2.2.2.2 gX7_boxRound_X0_init rfl rfl rfl (C.1.2.2.2.2 _ (by decide +kernel)) (C.1.2.2.2.2 _ (by decide +kernel)) (by decide +kernel) ⟨Nat.le_of_ble_eq_true rfl, Nat.le_of_ble_eq_true rfl⟩, rfl, C.1.2.2.2.2 _ (by decide +kernel)⟩ rfl rfl (Nat.le_of_ble_eq_true rfl) dX7_boxRound_12 ⟨Nat.le_of_ble_eq_true rfl, Nat.le_of_ble_eq_true rfl⟩ (fun M9 hq9 => ?_)
  exact m_aret C (Or.inl ⟨_, rfl⟩) (v := some q_1) (Nat.le_of_ble_eq_true rfl) (Nat.le_of_ble_eq_true rfl) dX7_boxRound_15 (⟨q_1, rfl, hq0_q_1, hX.tr hq9.1, hq9.2⟩)
theorem e_dd {a b : Int32} : a + (b - a) = b := by
  rw [← Int32.toBitVec_inj, Int32.toBitVec_add, Int32.toBitVec_sub]
  generalize a.toBitVec = x
  generalize b.toBitVec = y
  rw [BitVec.add_comm, BitVec.sub_add_cancel]
set_option maxHeartbeats 4000000 in
set_option maxRecDepth 100000 in
theorem c_X2_init (D : mD) (A : Nat → Prop) (l : Launch) {a : Nat} {cx cy r : Int32} {M0 : Mm} (h_a : M0 a = some (.inr (5, [.int 0, .null, .int 0, .int 0, .int 0]))) : mMv D A l yX2_init wsX2_init ({ frames := 4, cells := 1, slots := 4, locals := 220 } : Room) [.ref a, .int cx, .int cy, .int r] M0 (fun M' => ∃ q : Nat, M0 q = none ∧ mX [q, a] M0 M' ∧ M' a = some (.inr (5, [.int 2, .ref q, .int cx, .int cy, .int r])) ∧ ∃ rt bt : Int32, M' q = some (.inr (3, [.int (cx - r), .int (cy - r), .int rt, .int bt])) ∧ rt = cx + r ∧ bt = cy + r) 1 4 := by
  refine m_start (cc := cX2_init) (maxL := 4) (ret := none) (by decide) rfl (Nat.le_of_ble_eq_true rfl) ?_
  intro p e s m args below meth c C
  have i_X2 : ∀ w ∈ wsX20, w ∈ wsX2_init := by decide +kernel
  refine m_sub (L' := [(0, .ref a), (1, .int cx), (2, .int cy), (3, .int r)]) [0, 1, 2, 3] rfl ?_
  obtain ⟨M, eM⟩ : ∃ z : Mm, z = M0 := ⟨_, rfl⟩
  refine m_mem (M' := M) (by rw [eM]; exact fun _ _ h => h) ?_
  have h_a : M a = some (.inr (5, [.int 0, .null, .int 0, .int 0, .int 0])) := by rw [eM]; exact h_a
  have hX : mX [a] M0 M := by rw [eM]; exact mX.rf
  clear eM
  refine m_aload_n C dX2_init_0 rfl 0 rfl ?_
  refine m_iconst (v := 2) C dX2_init_1 (by decide) ?_
  refine m_iload_n C dX2_init_2 rfl 1 rfl ?_
  refine m_iload_n C dX2_init_3 rfl 3 rfl ?_
  refine m_isub C dX2_init_4 ?_
  refine m_iload_n C dX2_init_5 rfl 2 rfl ?_
  refine m_iload_n C dX2_init_6 rfl 3 rfl ?_
  refine m_isub C dX2_init_7 ?_
  refine m_iload_n C dX2_init_8 rfl 1 rfl ?_
  refine m_iload_n C dX2_init_9 rfl 3 rfl ?_
  refine m_iadd C dX2_init_10 ?_
  refine m_iload_n C dX2_init_11 rfl 2 rfl ?_
  refine m_iload_n C dX2_init_12 rfl 3 rfl ?_
  refine m_iadd C dX2_init_13 ?_
  refine m_callSNq (As := [.int (cx - r), .int (cy - r), .int (cx + r), .int (cy + r)]) (st := [.int 2, .ref a]) C (c_X7_boxRound D A l) ⟨va_cnB 4 C.1.2.2.2.2 gX2_init_X7_boxRound_n3 rfl rfl rfl C.2.1.2.2.2.2.2.2.2.1.2.2 (C.1.2.2.2.2 _ (by decide +kernel)) (by decide +kernel) ⟨Nat.le_of_ble_eq_true rfl, Nat.le_of_ble_eq_true rfl⟩, C.1.2.2.2.2 _ (by decide +kernel), trivial⟩ rfl rfl (Nat.le_of_ble_eq_true rfl) dX2_init_14 ⟨Nat.le_of_ble_eq_true rfl, Nat.le_of_ble_eq_true rfl⟩ (fun r9 M9 hq9 => ?_)
  obtain ⟨q9, rfl, hn9, hX9, h_q9⟩ := hq9
  have hq0 : M0 q9 = none := hX.none hn9 (by simp; exact fun z => by rw [z, h_a] at hn9; cases hn9)
  have h_a : M9 a = some (.inr (5, [.int 0, .null, .int 0, .int 0, .int 0])) := (hX9 a (by simp; exact m_neN h_a hn9)).trans h_a
  have hX : mX [q9, a] M0 M9 := (hX.sub (by simp)).tr (hX9.sub (by simp))
  clear hX9 hn9
  rename Mm => M
  refine m_callIv (ret1 := none) (As := [.int 2, .ref q9]) (st := []) C (c_X5_init_X2 D A l h_a) ⟨callB_of 2 C.1.2.2.2.2 gX2_init_X5_init rfl rfl rfl (C.1.2.2.2.2 _ (by decide +kernel)) (C.1.2.2.2.2 _ (by decide +kernel)) (by decide +kernel) ⟨Nat.le_of_ble_eq_true rfl, Nat.le_of_ble_eq_true rfl⟩, rfl, C.1.2.2.2.2 _ (by decide +kernel)⟩ rfl rfl (Nat.le_of_ble_eq_true rfl) dX2_init_17 ⟨Nat.le_of_ble_eq_true rfl, Nat.le_of_ble_eq_true rfl⟩ (fun M9 hq9 => ?_)
  have h_q9 := (hq9.1 q9 (by simp; exact m_ne h_q9 h_a (fun z => by cases z))).trans h_q9
  have hX := hX.tr (hq9.1.sub (by simp))
  have h_a := hq9.2
  clear hq9
  rename Mm => M
  refine m_aload_n C dX2_init_20 rfl 0 rfl ?_
  refine m_iload_n C dX2_init_21 rfl 1 rfl ?_
  refine m_putF (ref := "PaintLayers$Disc") C h_a rfl i_X2 tyX2 tyX2_ok nmX2 2 (by decide) (by decide +kernel) (fun x h => h) rfl rfl rfl rfl rfl (Nat.le_of_ble_eq_true rfl) (e' := .inr (5, [.int 2, .ref q9, .int cx, .int 0, .int 0])) rfl dX2_init_22 ?_
  have g_q9 : (m_up M a (.inr (5, [.int 2, .ref q9, .int cx, .int 0, .int 0]))) q9 = some (.inr (3, [.int (cx - r), .int (cy - r), .int (cx - r + (cx + r - (cx - r))), .int (cy - r + (cy + r - (cy - r)))])) := (m_up_n (m_ne h_q9 h_a (fun z => by cases z))).trans h_q9
  have g_a : (m_up M a (.inr (5, [.int 2, .ref q9, .int cx, .int 0, .int 0]))) a = some (.inr (5, [.int 2, .ref q9, .int cx, .int 0, .int 0])) := m_up_s
  have gX := hX.put (a := a) (e := .inr (5, [.int 2, .ref q9, .int cx, .int 0, .int 0])) (by simp)
  revert g_q9 g_a gX
  generalize m_up M a (.inr (5, [.int 2, .ref q9, .int cx, .int 0, .int 0])) = M
  intro h_q9 h_a hX
  refine m_aload_n C dX2_init_25 rfl 0 rfl ?_
  refine m_iload_n C dX2_init_26 rfl 2 rfl ?_
  refine m_putF (ref := "PaintLayers$Disc") C h_a rfl i_X2 tyX2 tyX2_ok nmX2 3 (by decide) (by decide +kernel) (fun x h => h) rfl rfl rfl rfl rfl (Nat.le_of_ble_eq_true rfl) (e' := .inr (5, [.int 2, .ref q9, .int cx, .int cy, .int 0])) rfl dX2_init_27 ?_
  have g_q9 : (m_up M a (.inr (5, [.int 2, .ref q9, .int cx, .int cy, .int 0]))) q9 = some (.inr (3, [.int (cx - r), .int (cy - r), .int (cx - r + (cx + r - (cx - r))), .int (cy - r + (cy + r - (cy - r)))])) := (m_up_n (m_ne h_q9 h_a (fun z => by cases z))).trans h_q9
  have g_a : (m_up M a (.inr (5, [.int 2, .ref q9, .int cx, .int cy, .int 0]))) a = some (.inr (5, [.int 2, .ref q9, .int cx, .int cy, .int 0])) := m_up_s
  have gX := hX.put (a := a) (e := .inr (5, [.int 2, .ref q9, .int cx, .int cy, .int 0])) (by simp)
  revert g_q9 g_a gX
  generalize m_up M a (.inr (5, [.int 2, .ref q9, .int cx, .int cy, .int 0])) = M
  intro h_q9 h_a hX
  refine m_aload_n C dX2_init_30 rfl 0 rfl ?_
  refine m_iload_n C dX2_init_31 rfl 3 rfl ?_
  refine m_putF (ref := "PaintLayers$Disc") C h_a rfl i_X2 tyX2 tyX2_ok nmX2 4 (by decide) (by decide +kernel) (fun x h => h) rfl rfl rfl rfl rfl (Nat.le_of_ble_eq_true rfl) (e' := .inr (5, [.int 2, .ref q9, .int cx, .int cy, .int r])) rfl dX2_init_32 ?_
  have g_q9 : (m_up M a (.inr (5, [.int 2, .ref q9, .int cx, .int cy, .int r]))) q9 = some (.inr (3, [.int (cx - r), .int (cy - r), .int (cx - r + (cx + r - (cx - r))), .int (cy - r + (cy + r - (cy - r)))])) := (m_up_n (m_ne h_q9 h_a (fun z => by cases z))).trans h_q9
  have g_a : (m_up M a (.inr (5, [.int 2, .ref q9, .int cx, .int cy, .int r]))) a = some (.inr (5, [.int 2, .ref q9, .int cx, .int cy, .int r])) := m_up_s
  have gX := hX.put (a := a) (e := .inr (5, [.int 2, .ref q9, .int cx, .int cy, .int r])) (by simp)
  revert g_q9 g_a gX
  generalize m_up M a (.inr (5, [.int 2, .ref q9, .int cx, .int cy, .int r])) = M
  intro h_q9 h_a hX
  exact m_vret C (Nat.le_of_ble_eq_true rfl) (Nat.le_of_ble_eq_true rfl) dX2_init_35 (⟨q9, hq0, hX, h_a, _, _, h_q9, by rw [e_dd], by rw [e_dd]⟩)
set_option maxHeartbeats 4000000 in
set_option maxRecDepth 100000 in
theorem c_X3_init_r (D : mD) (A : Nat → Prop) (l : Launch) {a : Nat} {nn : Int32} {M0 : Mm} (h_a : M0 a = some (.inr (6, [.int 0, .null, .null, .null, .int 0, .int 0, .int 0, .int 0, .int 0, .int 0, .null, .int 0, .int 0, .int 0, .int 0, .int 0, .long 0, .long 0, .long 0]))) : mMv D A l yX3_init wsX3_init ({ frames := 4, cells := 1, slots := 3, locals := 240 } : Room) [.ref a, .int nn, .null, .null] M0 (fun M' => ∃ q : Nat, M0 q = none ∧ mX [q, a] M0 M' ∧ M' q = some (jLs 0 (D.2.2 0) 0) ∧ M' a = some (.inr (6, [.int nn, .null, .ref q, .null, .int 0, .int 0, .int (-1), .int 8, .int 0, .int 0, .null, .int 0, .int 0, .int 0, .int 0, .int 0, .long 0, .long 0, .long 0]))) 1 3 := by
  refine m_start (cc := cX3_init) (maxL := 4) (ret := none) (by decide) rfl (Nat.le_of_ble_eq_true rfl) ?_
  intro p e s m args below meth c C
  have i_X3 : ∀ w ∈ wsX30, w ∈ wsX3_init := by decide +kernel
  have iL : ∀ w ∈ wsJx4a65c0, w ∈ wsX3_init := by decide +kernel
  refine m_sub (L' := [(0, .ref a), (1, .int nn), (2, .null), (3, .null)]) [0, 1, 2, 3] rfl ?_
  obtain ⟨M, eM⟩ : ∃ z : Mm, z = M0 := ⟨_, rfl⟩
  refine m_mem (M' := M) (by rw [eM]; exact fun _ _ h => h) ?_
  have h_a : M a = some (.inr (6, [.int 0, .null, .null, .null, .int 0, .int 0, .int 0, .int 0, .int 0, .int 0, .null, .int 0, .int 0, .int 0, .int 0, .int 0, .long 0, .long 0, .long 0])) := by rw [eM]; exact h_a
  have hX : mX [a] M0 M := by rw [eM]; exact mX.rf
  clear eM
  refine m_aload_n C dX3_init_0 rfl 0 rfl ?_
  refine m_objInit C (by decide +kernel) (by decide +kernel) (by decide +kernel) (Nat.le_of_ble_eq_true rfl) (Nat.le_of_ble_eq_true rfl) dX3_init_1 ?_
  refine m_aload_n C dX3_init_4 rfl 0 rfl ?_
  refine m_new (ci := 2) (fs := [.int 0, .null, .int 0]) C rfl iL tyJx4a65c tyJx4a65c_ok (by decide +kernel) (by decide +kernel) (by decide +kernel) (fun j hj => by match j, hj with | 0, _ => rfl | 1, _ => rfl | 2, _ => rfl | k + 3, h => omega) (Nat.le_of_ble_eq_true rfl) (Nat.le_of_ble_eq_true rfl) dX3_init_5 (fun q_1 hq_q_1 => ?_)
  have hq0_q_1 : M0 q_1 = none := hX.none hq_q_1 (by simp; exact fun z => by rw [z, h_a] at hq_q_1; cases hq_q_1)
  have g_a : (m_up M q_1 (.inr (2, [.int 0, .null, .int 0]))) a = some (.inr (6, [.int 0, .null, .null, .null, .int 0, .int 0, .int 0, .int 0, .int 0, .int 0, .null, .int 0, .int 0, .int 0, .int 0, .int 0, .long 0, .long 0, .long 0])) := (m_up_n (m_neN h_a hq_q_1)).trans h_a
  have g_q_1 : (m_up M q_1 (.inr (2, [.int 0, .null, .int 0]))) q_1 = some (.inr (2, [.int 0, .null, .int 0])) := m_up_s
  have gX := hX.new (q := q_1) (e := .inr (2, [.int 0, .null, .int 0]))
  revert g_a g_q_1 gX
  generalize m_up M q_1 (.inr (2, [.int 0, .null, .int 0])) = M
  intro h_a h_q_1 hX
  refine m_dup C dX3_init_8 rfl ?_
  refine m_callIv (ret1 := none) (As := []) (st := [.ref q_1, .ref a]) C (c_Jx4a65c_init_da8c8 D A l h_q_1) ⟨callB_of 0 C.1.2.2.2.2 gX3_init_Jx4a65c_init_da8c8 rfl rfl rfl (C.1.2.2.2.2 _ (by decide +kernel)) (C.1.2.2.2.2 _ (by decide +kernel)) (by decide +kernel) ⟨Nat.le_of_ble_eq_true rfl, Nat.le_of_ble_eq_true rfl⟩, rfl, C.1.2.2.2.2 _ (by decide +kernel)⟩ rfl rfl (Nat.le_of_ble_eq_true rfl) dX3_init_9 ⟨Nat.le_of_ble_eq_true rfl, Nat.le_of_ble_eq_true rfl⟩ (fun M9 hq9 => ?_)
  rw [hq9]
  clear hq9
  have g_a : (m_up M q_1 (jLs 0 (D.2.2 0) 0)) a = some (.inr (6, [.int 0, .null, .null, .null, .int 0, .int 0, .int 0, .int 0, .int 0, .int 0, .null, .int 0, .int 0, .int 0, .int 0, .int 0, .long 0, .long 0, .long 0])) := (m_up_n (m_ne h_a h_q_1 (fun z => by cases z))).trans h_a
  have g_q_1 : (m_up M q_1 (jLs 0 (D.2.2 0) 0)) q_1 = some (jLs 0 (D.2.2 0) 0) := m_up_s
  have gX := hX.put (a := q_1) (e := jLs 0 (D.2.2 0) 0) (by simp)
  revert g_a g_q_1 gX
  generalize m_up M q_1 (jLs 0 (D.2.2 0) 0) = M
  intro h_a h_q_1 hX
  refine m_putF (ref := "PaintLayers$Node") C h_a rfl i_X3 tyX3 tyX3_ok nmX3 2 (by decide) (by decide +kernel) (fun x h => h) rfl rfl rfl rfl rfl (Nat.le_of_ble_eq_true rfl) (e' := .inr (6, [.int 0, .null, .ref q_1, .null, .int 0, .int 0, .int 0, .int 0, .int 0, .int 0, .null, .int 0, .int 0, .int 0, .int 0, .int 0, .long 0, .long 0, .long 0])) rfl dX3_init_12 ?_
  have g_q_1 : (m_up M a (.inr (6, [.int 0, .null, .ref q_1, .null, .int 0, .int 0, .int 0, .int 0, .int 0, .int 0, .null, .int 0, .int 0, .int 0, .int 0, .int 0, .long 0, .long 0, .long 0]))) q_1 = some (jLs 0 (D.2.2 0) 0) := (m_up_n (m_ne h_q_1 h_a (fun z => by cases z))).trans h_q_1
  have g_a : (m_up M a (.inr (6, [.int 0, .null, .ref q_1, .null, .int 0, .int 0, .int 0, .int 0, .int 0, .int 0, .null, .int 0, .int 0, .int 0, .int 0, .int 0, .long 0, .long 0, .long 0]))) a = some (.inr (6, [.int 0, .null, .ref q_1, .null, .int 0, .int 0, .int 0, .int 0, .int 0, .int 0, .null, .int 0, .int 0, .int 0, .int 0, .int 0, .long 0, .long 0, .long 0])) := m_up_s
  have gX := hX.put (a := a) (e := .inr (6, [.int 0, .null, .ref q_1, .null, .int 0, .int 0, .int 0, .int 0, .int 0, .int 0, .null, .int 0, .int 0, .int 0, .int 0, .int 0, .long 0, .long 0, .long 0])) (by simp)
  revert g_q_1 g_a gX
  generalize m_up M a (.inr (6, [.int 0, .null, .ref q_1, .null, .int 0, .int 0, .int 0, .int 0, .int 0, .int 0, .null, .int 0, .int 0, .int 0, .int 0, .int 0, .long 0, .long 0, .long 0])) = M
  intro h_q_1 h_a hX
  refine m_aload_n C dX3_init_15 rfl 0 rfl ?_
  refine m_iconst (v := 0) C dX3_init_16 (by decide) ?_
  refine m_put (ref := "PaintLayers$Node") C h_a rfl i_X3 tyX3 tyX3_ok nmX3 4 (by decide) (by decide +kernel) (fun x h => h) rfl rfl rfl (Nat.le_of_ble_eq_true rfl) (e' := .inr (6, [.int 0, .null, .ref q_1, .null, .int 0, .int 0, .int 0, .int 0, .int 0, .int 0, .null, .int 0, .int 0, .int 0, .int 0, .int 0, .long 0, .long 0, .long 0])) rfl dX3_init_17 ?_
  have g_q_1 : (m_up M a (.inr (6, [.int 0, .null, .ref q_1, .null, .int 0, .int 0, .int 0, .int 0, .int 0, .int 0, .null, .int 0, .int 0, .int 0, .int 0, .int 0, .long 0, .long 0, .long 0]))) q_1 = some (jLs 0 (D.2.2 0) 0) := (m_up_n (m_ne h_q_1 h_a (fun z => by cases z))).trans h_q_1
  have g_a : (m_up M a (.inr (6, [.int 0, .null, .ref q_1, .null, .int 0, .int 0, .int 0, .int 0, .int 0, .int 0, .null, .int 0, .int 0, .int 0, .int 0, .int 0, .long 0, .long 0, .long 0]))) a = some (.inr (6, [.int 0, .null, .ref q_1, .null, .int 0, .int 0, .int 0, .int 0, .int 0, .int 0, .null, .int 0, .int 0, .int 0, .int 0, .int 0, .long 0, .long 0, .long 0])) := m_up_s
  have gX := hX.put (a := a) (e := .inr (6, [.int 0, .null, .ref q_1, .null, .int 0, .int 0, .int 0, .int 0, .int 0, .int 0, .null, .int 0, .int 0, .int 0, .int 0, .int 0, .long 0, .long 0, .long 0])) (by simp)
  revert g_q_1 g_a gX
  generalize m_up M a (.inr (6, [.int 0, .null, .ref q_1, .null, .int 0, .int 0, .int 0, .int 0, .int 0, .int 0, .null, .int 0, .int 0, .int 0, .int 0, .int 0, .long 0, .long 0, .long 0])) = M
  intro h_q_1 h_a hX
  refine m_aload_n C dX3_init_20 rfl 0 rfl ?_
  refine m_iconst (v := 0) C dX3_init_21 (by decide) ?_
  refine m_put (ref := "PaintLayers$Node") C h_a rfl i_X3 tyX3 tyX3_ok nmX3 5 (by decide) (by decide +kernel) (fun x h => h) rfl rfl rfl (Nat.le_of_ble_eq_true rfl) (e' := .inr (6, [.int 0, .null, .ref q_1, .null, .int 0, .int 0, .int 0, .int 0, .int 0, .int 0, .null, .int 0, .int 0, .int 0, .int 0, .int 0, .long 0, .long 0, .long 0])) rfl dX3_init_22 ?_
  have g_q_1 : (m_up M a (.inr (6, [.int 0, .null, .ref q_1, .null, .int 0, .int 0, .int 0, .int 0, .int 0, .int 0, .null, .int 0, .int 0, .int 0, .int 0, .int 0, .long 0, .long 0, .long 0]))) q_1 = some (jLs 0 (D.2.2 0) 0) := (m_up_n (m_ne h_q_1 h_a (fun z => by cases z))).trans h_q_1
  have g_a : (m_up M a (.inr (6, [.int 0, .null, .ref q_1, .null, .int 0, .int 0, .int 0, .int 0, .int 0, .int 0, .null, .int 0, .int 0, .int 0, .int 0, .int 0, .long 0, .long 0, .long 0]))) a = some (.inr (6, [.int 0, .null, .ref q_1, .null, .int 0, .int 0, .int 0, .int 0, .int 0, .int 0, .null, .int 0, .int 0, .int 0, .int 0, .int 0, .long 0, .long 0, .long 0])) := m_up_s
  have gX := hX.put (a := a) (e := .inr (6, [.int 0, .null, .ref q_1, .null, .int 0, .int 0, .int 0, .int 0, .int 0, .int 0, .null, .int 0, .int 0, .int 0, .int 0, .int 0, .long 0, .long 0, .long 0])) (by simp)
  revert g_q_1 g_a gX
  generalize m_up M a (.inr (6, [.int 0, .null, .ref q_1, .null, .int 0, .int 0, .int 0, .int 0, .int 0, .int 0, .null, .int 0, .int 0, .int 0, .int 0, .int 0, .long 0, .long 0, .long 0])) = M
  intro h_q_1 h_a hX
  refine m_aload_n C dX3_init_25 rfl 0 rfl ?_
  refine m_iconst (v := (-1)) C dX3_init_26 (by decide) ?_
  refine m_put (ref := "PaintLayers$Node") C h_a rfl i_X3 tyX3 tyX3_ok nmX3 6 (by decide) (by decide +kernel) (fun x h => h) rfl rfl rfl (Nat.le_of_ble_eq_true rfl) (e' := .inr (6, [.int 0, .null, .ref q_1, .null, .int 0, .int 0, .int ((-1)), .int 0, .int 0, .int 0, .null, .int 0, .int 0, .int 0, .int 0, .int 0, .long 0, .long 0, .long 0])) rfl dX3_init_27 ?_
  have g_q_1 : (m_up M a (.inr (6, [.int 0, .null, .ref q_1, .null, .int 0, .int 0, .int ((-1)), .int 0, .int 0, .int 0, .null, .int 0, .int 0, .int 0, .int 0, .int 0, .long 0, .long 0, .long 0]))) q_1 = some (jLs 0 (D.2.2 0) 0) := (m_up_n (m_ne h_q_1 h_a (fun z => by cases z))).trans h_q_1
  have g_a : (m_up M a (.inr (6, [.int 0, .null, .ref q_1, .null, .int 0, .int 0, .int ((-1)), .int 0, .int 0, .int 0, .null, .int 0, .int 0, .int 0, .int 0, .int 0, .long 0, .long 0, .long 0]))) a = some (.inr (6, [.int 0, .null, .ref q_1, .null, .int 0, .int 0, .int ((-1)), .int 0, .int 0, .int 0, .null, .int 0, .int 0, .int 0, .int 0, .int 0, .long 0, .long 0, .long 0])) := m_up_s
  have gX := hX.put (a := a) (e := .inr (6, [.int 0, .null, .ref q_1, .null, .int 0, .int 0, .int ((-1)), .int 0, .int 0, .int 0, .null, .int 0, .int 0, .int 0, .int 0, .int 0, .long 0, .long 0, .long 0])) (by simp)
  revert g_q_1 g_a gX
  generalize m_up M a (.inr (6, [.int 0, .null, .ref q_1, .null, .int 0, .int 0, .int ((-1)), .int 0, .int 0, .int 0, .null, .int 0, .int 0, .int 0, .int 0, .int 0, .long 0, .long 0, .long 0])) = M
  intro h_q_1 h_a hX
  refine m_aload_n C dX3_init_30 rfl 0 rfl ?_
  refine m_bipush (v := 8) C dX3_init_31 (by decide) ?_
  refine m_put (ref := "PaintLayers$Node") C h_a rfl i_X3 tyX3 tyX3_ok nmX3 7 (by decide) (by decide +kernel) (fun x h => h) rfl rfl rfl (Nat.le_of_ble_eq_true rfl) (e' := .inr (6, [.int 0, .null, .ref q_1, .null, .int 0, .int 0, .int ((-1)), .int 8, .int 0, .int 0, .null, .int 0, .int 0, .int 0, .int 0, .int 0, .long 0, .long 0, .long 0])) rfl dX3_init_33 ?_
  have g_q_1 : (m_up M a (.inr (6, [.int 0, .null, .ref q_1, .null, .int 0, .int 0, .int ((-1)), .int 8, .int 0, .int 0, .null, .int 0, .int 0, .int 0, .int 0, .int 0, .long 0, .long 0, .long 0]))) q_1 = some (jLs 0 (D.2.2 0) 0) := (m_up_n (m_ne h_q_1 h_a (fun z => by cases z))).trans h_q_1
  have g_a : (m_up M a (.inr (6, [.int 0, .null, .ref q_1, .null, .int 0, .int 0, .int ((-1)), .int 8, .int 0, .int 0, .null, .int 0, .int 0, .int 0, .int 0, .int 0, .long 0, .long 0, .long 0]))) a = some (.inr (6, [.int 0, .null, .ref q_1, .null, .int 0, .int 0, .int ((-1)), .int 8, .int 0, .int 0, .null, .int 0, .int 0, .int 0, .int 0, .int 0, .long 0, .long 0, .long 0])) := m_up_s
  have gX := hX.put (a := a) (e := .inr (6, [.int 0, .null, .ref q_1, .null, .int 0, .int 0, .int ((-1)), .int 8, .int 0, .int 0, .null, .int 0, .int 0, .int 0, .int 0, .int 0, .long 0, .long 0, .long 0])) (by simp)
  revert g_q_1 g_a gX
  generalize m_up M a (.inr (6, [.int 0, .null, .ref q_1, .null, .int 0, .int 0, .int ((-1)), .int 8, .int 0, .int 0, .null, .int 0, .int 0, .int 0, .int 0, .int 0, .long 0, .long 0, .long 0])) = M
  intro h_q_1 h_a hX
  refine m_aload_n C dX3_init_36 rfl 0 rfl ?_
  refine m_iconst (v := 0) C dX3_init_37 (by decide) ?_
  refine m_put (ref := "PaintLayers$Node") C h_a rfl i_X3 tyX3 tyX3_ok nmX3 8 (by decide) (by decide +kernel) (fun x h => h) rfl rfl rfl (Nat.le_of_ble_eq_true rfl) (e' := .inr (6, [.int 0, .null, .ref q_1, .null, .int 0, .int 0, .int ((-1)), .int 8, .int 0, .int 0, .null, .int 0, .int 0, .int 0, .int 0, .int 0, .long 0, .long 0, .long 0])) rfl dX3_init_38 ?_
  have g_q_1 : (m_up M a (.inr (6, [.int 0, .null, .ref q_1, .null, .int 0, .int 0, .int ((-1)), .int 8, .int 0, .int 0, .null, .int 0, .int 0, .int 0, .int 0, .int 0, .long 0, .long 0, .long 0]))) q_1 = some (jLs 0 (D.2.2 0) 0) := (m_up_n (m_ne h_q_1 h_a (fun z => by cases z))).trans h_q_1
  have g_a : (m_up M a (.inr (6, [.int 0, .null, .ref q_1, .null, .int 0, .int 0, .int ((-1)), .int 8, .int 0, .int 0, .null, .int 0, .int 0, .int 0, .int 0, .int 0, .long 0, .long 0, .long 0]))) a = some (.inr (6, [.int 0, .null, .ref q_1, .null, .int 0, .int 0, .int ((-1)), .int 8, .int 0, .int 0, .null, .int 0, .int 0, .int 0, .int 0, .int 0, .long 0, .long 0, .long 0])) := m_up_s
  have gX := hX.put (a := a) (e := .inr (6, [.int 0, .null, .ref q_1, .null, .int 0, .int 0, .int ((-1)), .int 8, .int 0, .int 0, .null, .int 0, .int 0, .int 0, .int 0, .int 0, .long 0, .long 0, .long 0])) (by simp)
  revert g_q_1 g_a gX
  generalize m_up M a (.inr (6, [.int 0, .null, .ref q_1, .null, .int 0, .int 0, .int ((-1)), .int 8, .int 0, .int 0, .null, .int 0, .int 0, .int 0, .int 0, .int 0, .long 0, .long 0, .long 0])) = M
  intro h_q_1 h_a hX
  refine m_aload_n C dX3_init_41 rfl 0 rfl ?_
  refine m_iconst (v := 0) C dX3_init_42 (by decide) ?_
  refine m_put (ref := "PaintLayers$Node") C h_a rfl i_X3 tyX3 tyX3_ok nmX3 9 (by decide) (by decide +kernel) (fun x h => h) rfl rfl rfl (Nat.le_of_ble_eq_true rfl) (e' := .inr (6, [.int 0, .null, .ref q_1, .null, .int 0, .int 0, .int ((-1)), .int 8, .int 0, .int 0, .null, .int 0, .int 0, .int 0, .int 0, .int 0, .long 0, .long 0, .long 0])) rfl dX3_init_43 ?_
  have g_q_1 : (m_up M a (.inr (6, [.int 0, .null, .ref q_1, .null, .int 0, .int 0, .int ((-1)), .int 8, .int 0, .int 0, .null, .int 0, .int 0, .int 0, .int 0, .int 0, .long 0, .long 0, .long 0]))) q_1 = some (jLs 0 (D.2.2 0) 0) := (m_up_n (m_ne h_q_1 h_a (fun z => by cases z))).trans h_q_1
  have g_a : (m_up M a (.inr (6, [.int 0, .null, .ref q_1, .null, .int 0, .int 0, .int ((-1)), .int 8, .int 0, .int 0, .null, .int 0, .int 0, .int 0, .int 0, .int 0, .long 0, .long 0, .long 0]))) a = some (.inr (6, [.int 0, .null, .ref q_1, .null, .int 0, .int 0, .int ((-1)), .int 8, .int 0, .int 0, .null, .int 0, .int 0, .int 0, .int 0, .int 0, .long 0, .long 0, .long 0])) := m_up_s
  have gX := hX.put (a := a) (e := .inr (6, [.int 0, .null, .ref q_1, .null, .int 0, .int 0, .int ((-1)), .int 8, .int 0, .int 0, .null, .int 0, .int 0, .int 0, .int 0, .int 0, .long 0, .long 0, .long 0])) (by simp)
  revert g_q_1 g_a gX
  generalize m_up M a (.inr (6, [.int 0, .null, .ref q_1, .null, .int 0, .int 0, .int ((-1)), .int 8, .int 0, .int 0, .null, .int 0, .int 0, .int 0, .int 0, .int 0, .long 0, .long 0, .long 0])) = M
  intro h_q_1 h_a hX
  refine m_aload_n C dX3_init_46 rfl 0 rfl ?_
  refine m_null C dX3_init_47 ?_
  refine m_put (ref := "PaintLayers$Node") C h_a rfl i_X3 tyX3 tyX3_ok nmX3 10 (by decide) (by decide +kernel) (fun x h => h) rfl rfl rfl (Nat.le_of_ble_eq_true rfl) (e' := .inr (6, [.int 0, .null, .ref q_1, .null, .int 0, .int 0, .int ((-1)), .int 8, .int 0, .int 0, .null, .int 0, .int 0, .int 0, .int 0, .int 0, .long 0, .long 0, .long 0])) rfl dX3_init_48 ?_
  have g_q_1 : (m_up M a (.inr (6, [.int 0, .null, .ref q_1, .null, .int 0, .int 0, .int ((-1)), .int 8, .int 0, .int 0, .null, .int 0, .int 0, .int 0, .int 0, .int 0, .long 0, .long 0, .long 0]))) q_1 = some (jLs 0 (D.2.2 0) 0) := (m_up_n (m_ne h_q_1 h_a (fun z => by cases z))).trans h_q_1
  have g_a : (m_up M a (.inr (6, [.int 0, .null, .ref q_1, .null, .int 0, .int 0, .int ((-1)), .int 8, .int 0, .int 0, .null, .int 0, .int 0, .int 0, .int 0, .int 0, .long 0, .long 0, .long 0]))) a = some (.inr (6, [.int 0, .null, .ref q_1, .null, .int 0, .int 0, .int ((-1)), .int 8, .int 0, .int 0, .null, .int 0, .int 0, .int 0, .int 0, .int 0, .long 0, .long 0, .long 0])) := m_up_s
  have gX := hX.put (a := a) (e := .inr (6, [.int 0, .null, .ref q_1, .null, .int 0, .int 0, .int ((-1)), .int 8, .int 0, .int 0, .null, .int 0, .int 0, .int 0, .int 0, .int 0, .long 0, .long 0, .long 0])) (by simp)
  revert g_q_1 g_a gX
  generalize m_up M a (.inr (6, [.int 0, .null, .ref q_1, .null, .int 0, .int 0, .int ((-1)), .int 8, .int 0, .int 0, .null, .int 0, .int 0, .int 0, .int 0, .int 0, .long 0, .long 0, .long 0])) = M
  intro h_q_1 h_a hX
  refine m_aload_n C dX3_init_51 rfl 0 rfl ?_
  refine m_iload_n C dX3_init_52 rfl 1 rfl ?_
  refine m_putF (ref := "PaintLayers$Node") C h_a rfl i_X3 tyX3 tyX3_ok nmX3 0 (by decide) (by decide +kernel) (fun x h => h) rfl rfl rfl rfl rfl (Nat.le_of_ble_eq_true rfl) (e' := .inr (6, [.int nn, .null, .ref q_1, .null, .int 0, .int 0, .int ((-1)), .int 8, .int 0, .int 0, .null, .int 0, .int 0, .int 0, .int 0, .int 0, .long 0, .long 0, .long 0])) rfl dX3_init_53 ?_
  have g_q_1 : (m_up M a (.inr (6, [.int nn, .null, .ref q_1, .null, .int 0, .int 0, .int ((-1)), .int 8, .int 0, .int 0, .null, .int 0, .int 0, .int 0, .int 0, .int 0, .long 0, .long 0, .long 0]))) q_1 = some (jLs 0 (D.2.2 0) 0) := (m_up_n (m_ne h_q_1 h_a (fun z => by cases z))).trans h_q_1
  have g_a : (m_up M a (.inr (6, [.int nn, .null, .ref q_1, .null, .int 0, .int 0, .int ((-1)), .int 8, .int 0, .int 0, .null, .int 0, .int 0, .int 0, .int 0, .int 0, .long 0, .long 0, .long 0]))) a = some (.inr (6, [.int nn, .null, .ref q_1, .null, .int 0, .int 0, .int ((-1)), .int 8, .int 0, .int 0, .null, .int 0, .int 0, .int 0, .int 0, .int 0, .long 0, .long 0, .long 0])) := m_up_s
  have gX := hX.put (a := a) (e := .inr (6, [.int nn, .null, .ref q_1, .null, .int 0, .int 0, .int ((-1)), .int 8, .int 0, .int 0, .null, .int 0, .int 0, .int 0, .int 0, .int 0, .long 0, .long 0, .long 0])) (by simp)
  revert g_q_1 g_a gX
  generalize m_up M a (.inr (6, [.int nn, .null, .ref q_1, .null, .int 0, .int 0, .int ((-1)), .int 8, .int 0, .int 0, .null, .int 0, .int 0, .int 0, .int 0, .int 0, .long 0, .long 0, .long 0])) = M
  intro h_q_1 h_a hX
  refine m_aload_n C dX3_init_56 rfl 0 rfl ?_
  refine m_aload_nq (x := none) C dX3_init_57 rfl 2 rfl ?_
  refine m_putF (ref := "PaintLayers$Node") C h_a rfl i_X3 tyX3 tyX3_ok nmX3 1 (by decide) (by decide +kernel) (fun x h => h) rfl rfl rfl rfl rfl (Nat.le_of_ble_eq_true rfl) (e' := .inr (6, [.int nn, .null, .ref q_1, .null, .int 0, .int 0, .int ((-1)), .int 8, .int 0, .int 0, .null, .int 0, .int 0, .int 0, .int 0, .int 0, .long 0, .long 0, .long 0])) rfl dX3_init_58 ?_
  have g_q_1 : (m_up M a (.inr (6, [.int nn, .null, .ref q_1, .null, .int 0, .int 0, .int ((-1)), .int 8, .int 0, .int 0, .null, .int 0, .int 0, .int 0, .int 0, .int 0, .long 0, .long 0, .long 0]))) q_1 = some (jLs 0 (D.2.2 0) 0) := (m_up_n (m_ne h_q_1 h_a (fun z => by cases z))).trans h_q_1
  have g_a : (m_up M a (.inr (6, [.int nn, .null, .ref q_1, .null, .int 0, .int 0, .int ((-1)), .int 8, .int 0, .int 0, .null, .int 0, .int 0, .int 0, .int 0, .int 0, .long 0, .long 0, .long 0]))) a = some (.inr (6, [.int nn, .null, .ref q_1, .null, .int 0, .int 0, .int ((-1)), .int 8, .int 0, .int 0, .null, .int 0, .int 0, .int 0, .int 0, .int 0, .long 0, .long 0, .long 0])) := m_up_s
  have gX := hX.put (a := a) (e := .inr (6, [.int nn, .null, .ref q_1, .null, .int 0, .int 0, .int ((-1)), .int 8, .int 0, .int 0, .null, .int 0, .int 0, .int 0, .int 0, .int 0, .long 0, .long 0, .long 0])) (by simp)
  revert g_q_1 g_a gX
  generalize m_up M a (.inr (6, [.int nn, .null, .ref q_1, .null, .int 0, .int 0, .int ((-1)), .int 8, .int 0, .int 0, .null, .int 0, .int 0, .int 0, .int 0, .int 0, .long 0, .long 0, .long 0])) = M
  intro h_q_1 h_a hX
  refine m_aload_n C dX3_init_61 rfl 0 rfl ?_
  refine m_aload_nq (x := none) C dX3_init_62 rfl 3 rfl ?_
  refine m_put (ref := "PaintLayers$Node") C h_a rfl i_X3 tyX3 tyX3_ok nmX3 3 (by decide) (by decide +kernel) (fun x h => h) rfl rfl rfl (Nat.le_of_ble_eq_true rfl) (e' := .inr (6, [.int nn, .null, .ref q_1, .null, .int 0, .int 0, .int ((-1)), .int 8, .int 0, .int 0, .null, .int 0, .int 0, .int 0, .int 0, .int 0, .long 0, .long 0, .long 0])) rfl dX3_init_63 ?_
  have g_q_1 : (m_up M a (.inr (6, [.int nn, .null, .ref q_1, .null, .int 0, .int 0, .int ((-1)), .int 8, .int 0, .int 0, .null, .int 0, .int 0, .int 0, .int 0, .int 0, .long 0, .long 0, .long 0]))) q_1 = some (jLs 0 (D.2.2 0) 0) := (m_up_n (m_ne h_q_1 h_a (fun z => by cases z))).trans h_q_1
  have g_a : (m_up M a (.inr (6, [.int nn, .null, .ref q_1, .null, .int 0, .int 0, .int ((-1)), .int 8, .int 0, .int 0, .null, .int 0, .int 0, .int 0, .int 0, .int 0, .long 0, .long 0, .long 0]))) a = some (.inr (6, [.int nn, .null, .ref q_1, .null, .int 0, .int 0, .int ((-1)), .int 8, .int 0, .int 0, .null, .int 0, .int 0, .int 0, .int 0, .int 0, .long 0, .long 0, .long 0])) := m_up_s
  have gX := hX.put (a := a) (e := .inr (6, [.int nn, .null, .ref q_1, .null, .int 0, .int 0, .int ((-1)), .int 8, .int 0, .int 0, .null, .int 0, .int 0, .int 0, .int 0, .int 0, .long 0, .long 0, .long 0])) (by simp)
  revert g_q_1 g_a gX
  generalize m_up M a (.inr (6, [.int nn, .null, .ref q_1, .null, .int 0, .int 0, .int ((-1)), .int 8, .int 0, .int 0, .null, .int 0, .int 0, .int 0, .int 0, .int 0, .long 0, .long 0, .long 0])) = M
  intro h_q_1 h_a hX
  exact m_vret C (Nat.le_of_ble_eq_true rfl) (Nat.le_of_ble_eq_true rfl) dX3_init_66 (⟨q_1, hq0_q_1, hX, h_q_1, h_a⟩)
set_option maxHeartbeats 4000000 in
set_option maxRecDepth 100000 in
theorem c_X3_init_g (D : mD) (A : Nat → Prop) (l : Launch) {a : Nat} {nn : Int32} {pq : Nat} {M0 : Mm} (h_a : M0 a = some (.inr (6, [.int 0, .null, .null, .null, .int 0, .int 0, .int 0, .int 0, .int 0, .int 0, .null, .int 0, .int 0, .int 0, .int 0, .int 0, .long 0, .long 0, .long 0]))) : mMv D A l yX3_init wsX3_init ({ frames := 4, cells := 1, slots := 3, locals := 240 } : Room) [.ref a, .int nn, .null, .ref pq] M0 (fun M' => ∃ q : Nat, M0 q = none ∧ mX [q, a] M0 M' ∧ M' q = some (jLs 0 (D.2.2 0) 0) ∧ M' a = some (.inr (6, [.int nn, .null, .ref q, .ref pq, .int 0, .int 0, .int (-1), .int 8, .int 0, .int 0, .null, .int 0, .int 0, .int 0, .int 0, .int 0, .long 0, .long 0, .long 0]))) 1 3 := by
  refine m_start (cc := cX3_init) (maxL := 4) (ret := none) (by decide) rfl (Nat.le_of_ble_eq_true rfl) ?_
  intro p e s m args below meth c C
  have i_X3 : ∀ w ∈ wsX30, w ∈ wsX3_init := by decide +kernel
  have iL : ∀ w ∈ wsJx4a65c0, w ∈ wsX3_init := by decide +kernel
  refine m_sub (L' := [(0, .ref a), (1, .int nn), (2, .null), (3, .ref pq)]) [0, 1, 2, 3] rfl ?_
  obtain ⟨M, eM⟩ : ∃ z : Mm, z = M0 := ⟨_, rfl⟩
  refine m_mem (M' := M) (by rw [eM]; exact fun _ _ h => h) ?_
  have h_a : M a = some (.inr (6, [.int 0, .null, .null, .null, .int 0, .int 0, .int 0, .int 0, .int 0, .int 0, .null, .int 0, .int 0, .int 0, .int 0, .int 0, .long 0, .long 0, .long 0])) := by rw [eM]; exact h_a
  have hX : mX [a] M0 M := by rw [eM]; exact mX.rf
  clear eM
  refine m_aload_n C dX3_init_0 rfl 0 rfl ?_
  refine m_objInit C (by decide +kernel) (by decide +kernel) (by decide +kernel) (Nat.le_of_ble_eq_true rfl) (Nat.le_of_ble_eq_true rfl) dX3_init_1 ?_
  refine m_aload_n C dX3_init_4 rfl 0 rfl ?_
  refine m_new (ci := 2) (fs := [.int 0, .null, .int 0]) C rfl iL tyJx4a65c tyJx4a65c_ok (by decide +kernel) (by decide +kernel) (by decide +kernel) (fun j hj => by match j, hj with | 0, _ => rfl | 1, _ => rfl | 2, _ => rfl | k + 3, h => omega) (Nat.le_of_ble_eq_true rfl) (Nat.le_of_ble_eq_true rfl) dX3_init_5 (fun q_1 hq_q_1 => ?_)
  have hq0_q_1 : M0 q_1 = none := hX.none hq_q_1 (by simp; exact fun z => by rw [z, h_a] at hq_q_1; cases hq_q_1)
  have g_a : (m_up M q_1 (.inr (2, [.int 0, .null, .int 0]))) a = some (.inr (6, [.int 0, .null, .null, .null, .int 0, .int 0, .int 0, .int 0, .int 0, .int 0, .null, .int 0, .int 0, .int 0, .int 0, .int 0, .long 0, .long 0, .long 0])) := (m_up_n (m_neN h_a hq_q_1)).trans h_a
  have g_q_1 : (m_up M q_1 (.inr (2, [.int 0, .null, .int 0]))) q_1 = some (.inr (2, [.int 0, .null, .int 0])) := m_up_s
  have gX := hX.new (q := q_1) (e := .inr (2, [.int 0, .null, .int 0]))
  revert g_a g_q_1 gX
  generalize m_up M q_1 (.inr (2, [.int 0, .null, .int 0])) = M
  intro h_a h_q_1 hX
  refine m_dup C dX3_init_8 rfl ?_
  refine m_callIv (ret1 := none) (As := []) (st := [.ref q_1, .ref a]) C (c_Jx4a65c_init_da8c8 D A l h_q_1) ⟨callB_of 0 C.1.2.2.2.2 gX3_init_Jx4a65c_init_da8c8 rfl rfl rfl (C.1.2.2.2.2 _ (by decide +kernel)) (C.1.2.2.2.2 _ (by decide +kernel)) (by decide +kernel) ⟨Nat.le_of_ble_eq_true rfl, Nat.le_of_ble_eq_true rfl⟩, rfl, C.1.2.2.2.2 _ (by decide +kernel)⟩ rfl rfl (Nat.le_of_ble_eq_true rfl) dX3_init_9 ⟨Nat.le_of_ble_eq_true rfl, Nat.le_of_ble_eq_true rfl⟩ (fun M9 hq9 => ?_)
  rw [hq9]
  clear hq9
  have g_a : (m_up M q_1 (jLs 0 (D.2.2 0) 0)) a = some (.inr (6, [.int 0, .null, .null, .null, .int 0, .int 0, .int 0, .int 0, .int 0, .int 0, .null, .int 0, .int 0, .int 0, .int 0, .int 0, .long 0, .long 0, .long 0])) := (m_up_n (m_ne h_a h_q_1 (fun z => by cases z))).trans h_a
  have g_q_1 : (m_up M q_1 (jLs 0 (D.2.2 0) 0)) q_1 = some (jLs 0 (D.2.2 0) 0) := m_up_s
  have gX := hX.put (a := q_1) (e := jLs 0 (D.2.2 0) 0) (by simp)
  revert g_a g_q_1 gX
  generalize m_up M q_1 (jLs 0 (D.2.2 0) 0) = M
  intro h_a h_q_1 hX
  refine m_putF (ref := "PaintLayers$Node") C h_a rfl i_X3 tyX3 tyX3_ok nmX3 2 (by decide) (by decide +kernel) (fun x h => h) rfl rfl rfl rfl rfl (Nat.le_of_ble_eq_true rfl) (e' := .inr (6, [.int 0, .null, .ref q_1, .null, .int 0, .int 0, .int 0, .int 0, .int 0, .int 0, .null, .int 0, .int 0, .int 0, .int 0, .int 0, .long 0, .long 0, .long 0])) rfl dX3_init_12 ?_
  have g_q_1 : (m_up M a (.inr (6, [.int 0, .null, .ref q_1, .null, .int 0, .int 0, .int 0, .int 0, .int 0, .int 0, .null, .int 0, .int 0, .int 0, .int 0, .int 0, .long 0, .long 0, .long 0]))) q_1 = some (jLs 0 (D.2.2 0) 0) := (m_up_n (m_ne h_q_1 h_a (fun z => by cases z))).trans h_q_1
  have g_a : (m_up M a (.inr (6, [.int 0, .null, .ref q_1, .null, .int 0, .int 0, .int 0, .int 0, .int 0, .int 0, .null, .int 0, .int 0, .int 0, .int 0, .int 0, .long 0, .long 0, .long 0]))) a = some (.inr (6, [.int 0, .null, .ref q_1, .null, .int 0, .int 0, .int 0, .int 0, .int 0, .int 0, .null, .int 0, .int 0, .int 0, .int 0, .int 0, .long 0, .long 0, .long 0])) := m_up_s
  have gX := hX.put (a := a) (e := .inr (6, [.int 0, .null, .ref q_1, .null, .int 0, .int 0, .int 0, .int 0, .int 0, .int 0, .null, .int 0, .int 0, .int 0, .int 0, .int 0, .long 0, .long 0, .long 0])) (by simp)
  revert g_q_1 g_a gX
  generalize m_up M a (.inr (6, [.int 0, .null, .ref q_1, .null, .int 0, .int 0, .int 0, .int 0, .int 0, .int 0, .null, .int 0, .int 0, .int 0, .int 0, .int 0, .long 0, .long 0, .long 0])) = M
  intro h_q_1 h_a hX
  refine m_aload_n C dX3_init_15 rfl 0 rfl ?_
  refine m_iconst (v := 0) C dX3_init_16 (by decide) ?_
  refine m_put (ref := "PaintLayers$Node") C h_a rfl i_X3 tyX3 tyX3_ok nmX3 4 (by decide) (by decide +kernel) (fun x h => h) rfl rfl rfl (Nat.le_of_ble_eq_true rfl) (e' := .inr (6, [.int 0, .null, .ref q_1, .null, .int 0, .int 0, .int 0, .int 0, .int 0, .int 0, .null, .int 0, .int 0, .int 0, .int 0, .int 0, .long 0, .long 0, .long 0])) rfl dX3_init_17 ?_
  have g_q_1 : (m_up M a (.inr (6, [.int 0, .null, .ref q_1, .null, .int 0, .int 0, .int 0, .int 0, .int 0, .int 0, .null, .int 0, .int 0, .int 0, .int 0, .int 0, .long 0, .long 0, .long 0]))) q_1 = some (jLs 0 (D.2.2 0) 0) := (m_up_n (m_ne h_q_1 h_a (fun z => by cases z))).trans h_q_1
  have g_a : (m_up M a (.inr (6, [.int 0, .null, .ref q_1, .null, .int 0, .int 0, .int 0, .int 0, .int 0, .int 0, .null, .int 0, .int 0, .int 0, .int 0, .int 0, .long 0, .long 0, .long 0]))) a = some (.inr (6, [.int 0, .null, .ref q_1, .null, .int 0, .int 0, .int 0, .int 0, .int 0, .int 0, .null, .int 0, .int 0, .int 0, .int 0, .int 0, .long 0, .long 0, .long 0])) := m_up_s
  have gX := hX.put (a := a) (e := .inr (6, [.int 0, .null, .ref q_1, .null, .int 0, .int 0, .int 0, .int 0, .int 0, .int 0, .null, .int 0, .int 0, .int 0, .int 0, .int 0, .long 0, .long 0, .long 0])) (by simp)
  revert g_q_1 g_a gX
  generalize m_up M a (.inr (6, [.int 0, .null, .ref q_1, .null, .int 0, .int 0, .int 0, .int 0, .int 0, .int 0, .null, .int 0, .int 0, .int 0, .int 0, .int 0, .long 0, .long 0, .long 0])) = M
  intro h_q_1 h_a hX
  refine m_aload_n C dX3_init_20 rfl 0 rfl ?_
  refine m_iconst (v := 0) C dX3_init_21 (by decide) ?_
  refine m_put (ref := "PaintLayers$Node") C h_a rfl i_X3 tyX3 tyX3_ok nmX3 5 (by decide) (by decide +kernel) (fun x h => h) rfl rfl rfl (Nat.le_of_ble_eq_true rfl) (e' := .inr (6, [.int 0, .null, .ref q_1, .null, .int 0, .int 0, .int 0, .int 0, .int 0, .int 0, .null, .int 0, .int 0, .int 0, .int 0, .int 0, .long 0, .long 0, .long 0])) rfl dX3_init_22 ?_
  have g_q_1 : (m_up M a (.inr (6, [.int 0, .null, .ref q_1, .null, .int 0, .int 0, .int 0, .int 0, .int 0, .int 0, .null, .int 0, .int 0, .int 0, .int 0, .int 0, .long 0, .long 0, .long 0]))) q_1 = some (jLs 0 (D.2.2 0) 0) := (m_up_n (m_ne h_q_1 h_a (fun z => by cases z))).trans h_q_1
  have g_a : (m_up M a (.inr (6, [.int 0, .null, .ref q_1, .null, .int 0, .int 0, .int 0, .int 0, .int 0, .int 0, .null, .int 0, .int 0, .int 0, .int 0, .int 0, .long 0, .long 0, .long 0]))) a = some (.inr (6, [.int 0, .null, .ref q_1, .null, .int 0, .int 0, .int 0, .int 0, .int 0, .int 0, .null, .int 0, .int 0, .int 0, .int 0, .int 0, .long 0, .long 0, .long 0])) := m_up_s
  have gX := hX.put (a := a) (e := .inr (6, [.int 0, .null, .ref q_1, .null, .int 0, .int 0, .int 0, .int 0, .int 0, .int 0, .null, .int 0, .int 0, .int 0, .int 0, .int 0, .long 0, .long 0, .long 0])) (by simp)
  revert g_q_1 g_a gX
  generalize m_up M a (.inr (6, [.int 0, .null, .ref q_1, .null, .int 0, .int 0, .int 0, .int 0, .int 0, .int 0, .null, .int 0, .int 0, .int 0, .int 0, .int 0, .long 0, .long 0, .long 0])) = M
  intro h_q_1 h_a hX
  refine m_aload_n C dX3_init_25 rfl 0 rfl ?_
  refine m_iconst (v := (-1)) C dX3_init_26 (by decide) ?_
  refine m_put (ref := "PaintLayers$Node") C h_a rfl i_X3 tyX3 tyX3_ok nmX3 6 (by decide) (by decide +kernel) (fun x h => h) rfl rfl rfl (Nat.le_of_ble_eq_true rfl) (e' := .inr (6, [.int 0, .null, .ref q_1, .null, .int 0, .int 0, .int ((-1)), .int 0, .int 0, .int 0, .null, .int 0, .int 0, .int 0, .int 0, .int 0, .long 0, .long 0, .long 0])) rfl dX3_init_27 ?_
  have g_q_1 : (m_up M a (.inr (6, [.int 0, .null, .ref q_1, .null, .int 0, .int 0, .int ((-1)), .int 0, .int 0, .int 0, .null, .int 0, .int 0, .int 0, .int 0, .int 0, .long 0, .long 0, .long 0]))) q_1 = some (jLs 0 (D.2.2 0) 0) := (m_up_n (m_ne h_q_1 h_a (fun z => by cases z))).trans h_q_1
  have g_a : (m_up M a (.inr (6, [.int 0, .null, .ref q_1, .null, .int 0, .int 0, .int ((-1)), .int 0, .int 0, .int 0, .null, .int 0, .int 0, .int 0, .int 0, .int 0, .long 0, .long 0, .long 0]))) a = some (.inr (6, [.int 0, .null, .ref q_1, .null, .int 0, .int 0, .int ((-1)), .int 0, .int 0, .int 0, .null, .int 0, .int 0, .int 0, .int 0, .int 0, .long 0, .long 0, .long 0])) := m_up_s
  have gX := hX.put (a := a) (e := .inr (6, [.int 0, .null, .ref q_1, .null, .int 0, .int 0, .int ((-1)), .int 0, .int 0, .int 0, .null, .int 0, .int 0, .int 0, .int 0, .int 0, .long 0, .long 0, .long 0])) (by simp)
  revert g_q_1 g_a gX
  generalize m_up M a (.inr (6, [.int 0, .null, .ref q_1, .null, .int 0, .int 0, .int ((-1)), .int 0, .int 0, .int 0, .null, .int 0, .int 0, .int 0, .int 0, .int 0, .long 0, .long 0, .long 0])) = M
  intro h_q_1 h_a hX
  refine m_aload_n C dX3_init_30 rfl 0 rfl ?_
  refine m_bipush (v := 8) C dX3_init_31 (by decide) ?_
  refine m_put (ref := "PaintLayers$Node") C h_a rfl i_X3 tyX3 tyX3_ok nmX3 7 (by decide) (by decide +kernel) (fun x h => h) rfl rfl rfl (Nat.le_of_ble_eq_true rfl) (e' := .inr (6, [.int 0, .null, .ref q_1, .null, .int 0, .int 0, .int ((-1)), .int 8, .int 0, .int 0, .null, .int 0, .int 0, .int 0, .int 0, .int 0, .long 0, .long 0, .long 0])) rfl dX3_init_33 ?_
  have g_q_1 : (m_up M a (.inr (6, [.int 0, .null, .ref q_1, .null, .int 0, .int 0, .int ((-1)), .int 8, .int 0, .int 0, .null, .int 0, .int 0, .int 0, .int 0, .int 0, .long 0, .long 0, .long 0]))) q_1 = some (jLs 0 (D.2.2 0) 0) := (m_up_n (m_ne h_q_1 h_a (fun z => by cases z))).trans h_q_1
  have g_a : (m_up M a (.inr (6, [.int 0, .null, .ref q_1, .null, .int 0, .int 0, .int ((-1)), .int 8, .int 0, .int 0, .null, .int 0, .int 0, .int 0, .int 0, .int 0, .long 0, .long 0, .long 0]))) a = some (.inr (6, [.int 0, .null, .ref q_1, .null, .int 0, .int 0, .int ((-1)), .int 8, .int 0, .int 0, .null, .int 0, .int 0, .int 0, .int 0, .int 0, .long 0, .long 0, .long 0])) := m_up_s
  have gX := hX.put (a := a) (e := .inr (6, [.int 0, .null, .ref q_1, .null, .int 0, .int 0, .int ((-1)), .int 8, .int 0, .int 0, .null, .int 0, .int 0, .int 0, .int 0, .int 0, .long 0, .long 0, .long 0])) (by simp)
  revert g_q_1 g_a gX
  generalize m_up M a (.inr (6, [.int 0, .null, .ref q_1, .null, .int 0, .int 0, .int ((-1)), .int 8, .int 0, .int 0, .null, .int 0, .int 0, .int 0, .int 0, .int 0, .long 0, .long 0, .long 0])) = M
  intro h_q_1 h_a hX
  refine m_aload_n C dX3_init_36 rfl 0 rfl ?_
  refine m_iconst (v := 0) C dX3_init_37 (by decide) ?_
  refine m_put (ref := "PaintLayers$Node") C h_a rfl i_X3 tyX3 tyX3_ok nmX3 8 (by decide) (by decide +kernel) (fun x h => h) rfl rfl rfl (Nat.le_of_ble_eq_true rfl) (e' := .inr (6, [.int 0, .null, .ref q_1, .null, .int 0, .int 0, .int ((-1)), .int 8, .int 0, .int 0, .null, .int 0, .int 0, .int 0, .int 0, .int 0, .long 0, .long 0, .long 0])) rfl dX3_init_38 ?_
  have g_q_1 : (m_up M a (.inr (6, [.int 0, .null, .ref q_1, .null, .int 0, .int 0, .int ((-1)), .int 8, .int 0, .int 0, .null, .int 0, .int 0, .int 0, .int 0, .int 0, .long 0, .long 0, .long 0]))) q_1 = some (jLs 0 (D.2.2 0) 0) := (m_up_n (m_ne h_q_1 h_a (fun z => by cases z))).trans h_q_1
  have g_a : (m_up M a (.inr (6, [.int 0, .null, .ref q_1, .null, .int 0, .int 0, .int ((-1)), .int 8, .int 0, .int 0, .null, .int 0, .int 0, .int 0, .int 0, .int 0, .long 0, .long 0, .long 0]))) a = some (.inr (6, [.int 0, .null, .ref q_1, .null, .int 0, .int 0, .int ((-1)), .int 8, .int 0, .int 0, .null, .int 0, .int 0, .int 0, .int 0, .int 0, .long 0, .long 0, .long 0])) := m_up_s
  have gX := hX.put (a := a) (e := .inr (6, [.int 0, .null, .ref q_1, .null, .int 0, .int 0, .int ((-1)), .int 8, .int 0, .int 0, .null, .int 0, .int 0, .int 0, .int 0, .int 0, .long 0, .long 0, .long 0])) (by simp)
  revert g_q_1 g_a gX
  generalize m_up M a (.inr (6, [.int 0, .null, .ref q_1, .null, .int 0, .int 0, .int ((-1)), .int 8, .int 0, .int 0, .null, .int 0, .int 0, .int 0, .int 0, .int 0, .long 0, .long 0, .long 0])) = M
  intro h_q_1 h_a hX
  refine m_aload_n C dX3_init_41 rfl 0 rfl ?_
  refine m_iconst (v := 0) C dX3_init_42 (by decide) ?_
  refine m_put (ref := "PaintLayers$Node") C h_a rfl i_X3 tyX3 tyX3_ok nmX3 9 (by decide) (by decide +kernel) (fun x h => h) rfl rfl rfl (Nat.le_of_ble_eq_true rfl) (e' := .inr (6, [.int 0, .null, .ref q_1, .null, .int 0, .int 0, .int ((-1)), .int 8, .int 0, .int 0, .null, .int 0, .int 0, .int 0, .int 0, .int 0, .long 0, .long 0, .long 0])) rfl dX3_init_43 ?_
  have g_q_1 : (m_up M a (.inr (6, [.int 0, .null, .ref q_1, .null, .int 0, .int 0, .int ((-1)), .int 8, .int 0, .int 0, .null, .int 0, .int 0, .int 0, .int 0, .int 0, .long 0, .long 0, .long 0]))) q_1 = some (jLs 0 (D.2.2 0) 0) := (m_up_n (m_ne h_q_1 h_a (fun z => by cases z))).trans h_q_1
  have g_a : (m_up M a (.inr (6, [.int 0, .null, .ref q_1, .null, .int 0, .int 0, .int ((-1)), .int 8, .int 0, .int 0, .null, .int 0, .int 0, .int 0, .int 0, .int 0, .long 0, .long 0, .long 0]))) a = some (.inr (6, [.int 0, .null, .ref q_1, .null, .int 0, .int 0, .int ((-1)), .int 8, .int 0, .int 0, .null, .int 0, .int 0, .int 0, .int 0, .int 0, .long 0, .long 0, .long 0])) := m_up_s
  have gX := hX.put (a := a) (e := .inr (6, [.int 0, .null, .ref q_1, .null, .int 0, .int 0, .int ((-1)), .int 8, .int 0, .int 0, .null, .int 0, .int 0, .int 0, .int 0, .int 0, .long 0, .long 0, .long 0])) (by simp)
  revert g_q_1 g_a gX
  generalize m_up M a (.inr (6, [.int 0, .null, .ref q_1, .null, .int 0, .int 0, .int ((-1)), .int 8, .int 0, .int 0, .null, .int 0, .int 0, .int 0, .int 0, .int 0, .long 0, .long 0, .long 0])) = M
  intro h_q_1 h_a hX
  refine m_aload_n C dX3_init_46 rfl 0 rfl ?_
  refine m_null C dX3_init_47 ?_
  refine m_put (ref := "PaintLayers$Node") C h_a rfl i_X3 tyX3 tyX3_ok nmX3 10 (by decide) (by decide +kernel) (fun x h => h) rfl rfl rfl (Nat.le_of_ble_eq_true rfl) (e' := .inr (6, [.int 0, .null, .ref q_1, .null, .int 0, .int 0, .int ((-1)), .int 8, .int 0, .int 0, .null, .int 0, .int 0, .int 0, .int 0, .int 0, .long 0, .long 0, .long 0])) rfl dX3_init_48 ?_
  have g_q_1 : (m_up M a (.inr (6, [.int 0, .null, .ref q_1, .null, .int 0, .int 0, .int ((-1)), .int 8, .int 0, .int 0, .null, .int 0, .int 0, .int 0, .int 0, .int 0, .long 0, .long 0, .long 0]))) q_1 = some (jLs 0 (D.2.2 0) 0) := (m_up_n (m_ne h_q_1 h_a (fun z => by cases z))).trans h_q_1
  have g_a : (m_up M a (.inr (6, [.int 0, .null, .ref q_1, .null, .int 0, .int 0, .int ((-1)), .int 8, .int 0, .int 0, .null, .int 0, .int 0, .int 0, .int 0, .int 0, .long 0, .long 0, .long 0]))) a = some (.inr (6, [.int 0, .null, .ref q_1, .null, .int 0, .int 0, .int ((-1)), .int 8, .int 0, .int 0, .null, .int 0, .int 0, .int 0, .int 0, .int 0, .long 0, .long 0, .long 0])) := m_up_s
  have gX := hX.put (a := a) (e := .inr (6, [.int 0, .null, .ref q_1, .null, .int 0, .int 0, .int ((-1)), .int 8, .int 0, .int 0, .null, .int 0, .int 0, .int 0, .int 0, .int 0, .long 0, .long 0, .long 0])) (by simp)
  revert g_q_1 g_a gX
  generalize m_up M a (.inr (6, [.int 0, .null, .ref q_1, .null, .int 0, .int 0, .int ((-1)), .int 8, .int 0, .int 0, .null, .int 0, .int 0, .int 0, .int 0, .int 0, .long 0, .long 0, .long 0])) = M
  intro h_q_1 h_a hX
  refine m_aload_n C dX3_init_51 rfl 0 rfl ?_
  refine m_iload_n C dX3_init_52 rfl 1 rfl ?_
  refine m_putF (ref := "PaintLayers$Node") C h_a rfl i_X3 tyX3 tyX3_ok nmX3 0 (by decide) (by decide +kernel) (fun x h => h) rfl rfl rfl rfl rfl (Nat.le_of_ble_eq_true rfl) (e' := .inr (6, [.int nn, .null, .ref q_1, .null, .int 0, .int 0, .int ((-1)), .int 8, .int 0, .int 0, .null, .int 0, .int 0, .int 0, .int 0, .int 0, .long 0, .long 0, .long 0])) rfl dX3_init_53 ?_
  have g_q_1 : (m_up M a (.inr (6, [.int nn, .null, .ref q_1, .null, .int 0, .int 0, .int ((-1)), .int 8, .int 0, .int 0, .null, .int 0, .int 0, .int 0, .int 0, .int 0, .long 0, .long 0, .long 0]))) q_1 = some (jLs 0 (D.2.2 0) 0) := (m_up_n (m_ne h_q_1 h_a (fun z => by cases z))).trans h_q_1
  have g_a : (m_up M a (.inr (6, [.int nn, .null, .ref q_1, .null, .int 0, .int 0, .int ((-1)), .int 8, .int 0, .int 0, .null, .int 0, .int 0, .int 0, .int 0, .int 0, .long 0, .long 0, .long 0]))) a = some (.inr (6, [.int nn, .null, .ref q_1, .null, .int 0, .int 0, .int ((-1)), .int 8, .int 0, .int 0, .null, .int 0, .int 0, .int 0, .int 0, .int 0, .long 0, .long 0, .long 0])) := m_up_s
  have gX := hX.put (a := a) (e := .inr (6, [.int nn, .null, .ref q_1, .null, .int 0, .int 0, .int ((-1)), .int 8, .int 0, .int 0, .null, .int 0, .int 0, .int 0, .int 0, .int 0, .long 0, .long 0, .long 0])) (by simp)
  revert g_q_1 g_a gX
  generalize m_up M a (.inr (6, [.int nn, .null, .ref q_1, .null, .int 0, .int 0, .int ((-1)), .int 8, .int 0, .int 0, .null, .int 0, .int 0, .int 0, .int 0, .int 0, .long 0, .long 0, .long 0])) = M
  intro h_q_1 h_a hX
  refine m_aload_n C dX3_init_56 rfl 0 rfl ?_
  refine m_aload_nq (x := none) C dX3_init_57 rfl 2 rfl ?_
  refine m_putF (ref := "PaintLayers$Node") C h_a rfl i_X3 tyX3 tyX3_ok nmX3 1 (by decide) (by decide +kernel) (fun x h => h) rfl rfl rfl rfl rfl (Nat.le_of_ble_eq_true rfl) (e' := .inr (6, [.int nn, .null, .ref q_1, .null, .int 0, .int 0, .int ((-1)), .int 8, .int 0, .int 0, .null, .int 0, .int 0, .int 0, .int 0, .int 0, .long 0, .long 0, .long 0])) rfl dX3_init_58 ?_
  have g_q_1 : (m_up M a (.inr (6, [.int nn, .null, .ref q_1, .null, .int 0, .int 0, .int ((-1)), .int 8, .int 0, .int 0, .null, .int 0, .int 0, .int 0, .int 0, .int 0, .long 0, .long 0, .long 0]))) q_1 = some (jLs 0 (D.2.2 0) 0) := (m_up_n (m_ne h_q_1 h_a (fun z => by cases z))).trans h_q_1
  have g_a : (m_up M a (.inr (6, [.int nn, .null, .ref q_1, .null, .int 0, .int 0, .int ((-1)), .int 8, .int 0, .int 0, .null, .int 0, .int 0, .int 0, .int 0, .int 0, .long 0, .long 0, .long 0]))) a = some (.inr (6, [.int nn, .null, .ref q_1, .null, .int 0, .int 0, .int ((-1)), .int 8, .int 0, .int 0, .null, .int 0, .int 0, .int 0, .int 0, .int 0, .long 0, .long 0, .long 0])) := m_up_s
  have gX := hX.put (a := a) (e := .inr (6, [.int nn, .null, .ref q_1, .null, .int 0, .int 0, .int ((-1)), .int 8, .int 0, .int 0, .null, .int 0, .int 0, .int 0, .int 0, .int 0, .long 0, .long 0, .long 0])) (by simp)
  revert g_q_1 g_a gX
  generalize m_up M a (.inr (6, [.int nn, .null, .ref q_1, .null, .int 0, .int 0, .int ((-1)), .int 8, .int 0, .int 0, .null, .int 0, .int 0, .int 0, .int 0, .int 0, .long 0, .long 0, .long 0])) = M
  intro h_q_1 h_a hX
  refine m_aload_n C dX3_init_61 rfl 0 rfl ?_
  refine m_aload_n C dX3_init_62 rfl 3 rfl ?_
  refine m_put (ref := "PaintLayers$Node") C h_a rfl i_X3 tyX3 tyX3_ok nmX3 3 (by decide) (by decide +kernel) (fun x h => h) rfl rfl rfl (Nat.le_of_ble_eq_true rfl) (e' := .inr (6, [.int nn, .null, .ref q_1, .ref pq, .int 0, .int 0, .int ((-1)), .int 8, .int 0, .int 0, .null, .int 0, .int 0, .int 0, .int 0, .int 0, .long 0, .long 0, .long 0])) rfl dX3_init_63 ?_
  have g_q_1 : (m_up M a (.inr (6, [.int nn, .null, .ref q_1, .ref pq, .int 0, .int 0, .int ((-1)), .int 8, .int 0, .int 0, .null, .int 0, .int 0, .int 0, .int 0, .int 0, .long 0, .long 0, .long 0]))) q_1 = some (jLs 0 (D.2.2 0) 0) := (m_up_n (m_ne h_q_1 h_a (fun z => by cases z))).trans h_q_1
  have g_a : (m_up M a (.inr (6, [.int nn, .null, .ref q_1, .ref pq, .int 0, .int 0, .int ((-1)), .int 8, .int 0, .int 0, .null, .int 0, .int 0, .int 0, .int 0, .int 0, .long 0, .long 0, .long 0]))) a = some (.inr (6, [.int nn, .null, .ref q_1, .ref pq, .int 0, .int 0, .int ((-1)), .int 8, .int 0, .int 0, .null, .int 0, .int 0, .int 0, .int 0, .int 0, .long 0, .long 0, .long 0])) := m_up_s
  have gX := hX.put (a := a) (e := .inr (6, [.int nn, .null, .ref q_1, .ref pq, .int 0, .int 0, .int ((-1)), .int 8, .int 0, .int 0, .null, .int 0, .int 0, .int 0, .int 0, .int 0, .long 0, .long 0, .long 0])) (by simp)
  revert g_q_1 g_a gX
  generalize m_up M a (.inr (6, [.int nn, .null, .ref q_1, .ref pq, .int 0, .int 0, .int ((-1)), .int 8, .int 0, .int 0, .null, .int 0, .int 0, .int 0, .int 0, .int 0, .long 0, .long 0, .long 0])) = M
  intro h_q_1 h_a hX
  exact m_vret C (Nat.le_of_ble_eq_true rfl) (Nat.le_of_ble_eq_true rfl) dX3_init_66 (⟨q_1, hq0_q_1, hX, h_q_1, h_a⟩)
set_option maxHeartbeats 4000000 in
set_option maxRecDepth 100000 in
theorem c_X3_init_s (D : mD) (A : Nat → Prop) (l : Launch) {a : Nat} {nn : Int32} {sh pq : Nat} {M0 : Mm} (h_a : M0 a = some (.inr (6, [.int 0, .null, .null, .null, .int 0, .int 0, .int 0, .int 0, .int 0, .int 0, .null, .int 0, .int 0, .int 0, .int 0, .int 0, .long 0, .long 0, .long 0]))) : mMv D A l yX3_init wsX3_init ({ frames := 4, cells := 1, slots := 3, locals := 240 } : Room) [.ref a, .int nn, .ref sh, .ref pq] M0 (fun M' => ∃ q : Nat, M0 q = none ∧ mX [q, a] M0 M' ∧ M' q = some (jLs 0 (D.2.2 0) 0) ∧ M' a = some (.inr (6, [.int nn, .ref sh, .ref q, .ref pq, .int 0, .int 0, .int (-1), .int 8, .int 0, .int 0, .null, .int 0, .int 0, .int 0, .int 0, .int 0, .long 0, .long 0, .long 0]))) 1 3 := by
  refine m_start (cc := cX3_init) (maxL := 4) (ret := none) (by decide) rfl (Nat.le_of_ble_eq_true rfl) ?_
  intro p e s m args below meth c C
  have i_X3 : ∀ w ∈ wsX30, w ∈ wsX3_init := by decide +kernel
  have iL : ∀ w ∈ wsJx4a65c0, w ∈ wsX3_init := by decide +kernel
  refine m_sub (L' := [(0, .ref a), (1, .int nn), (2, .ref sh), (3, .ref pq)]) [0, 1, 2, 3] rfl ?_
  obtain ⟨M, eM⟩ : ∃ z : Mm, z = M0 := ⟨_, rfl⟩
  refine m_mem (M' := M) (by rw [eM]; exact fun _ _ h => h) ?_
  have h_a : M a = some (.inr (6, [.int 0, .null, .null, .null, .int 0, .int 0, .int 0, .int 0, .int 0, .int 0, .null, .int 0, .int 0, .int 0, .int 0, .int 0, .long 0, .long 0, .long 0])) := by rw [eM]; exact h_a
  have hX : mX [a] M0 M := by rw [eM]; exact mX.rf
  clear eM
  refine m_aload_n C dX3_init_0 rfl 0 rfl ?_
  refine m_objInit C (by decide +kernel) (by decide +kernel) (by decide +kernel) (Nat.le_of_ble_eq_true rfl) (Nat.le_of_ble_eq_true rfl) dX3_init_1 ?_
  refine m_aload_n C dX3_init_4 rfl 0 rfl ?_
  refine m_new (ci := 2) (fs := [.int 0, .null, .int 0]) C rfl iL tyJx4a65c tyJx4a65c_ok (by decide +kernel) (by decide +kernel) (by decide +kernel) (fun j hj => by match j, hj with | 0, _ => rfl | 1, _ => rfl | 2, _ => rfl | k + 3, h => omega) (Nat.le_of_ble_eq_true rfl) (Nat.le_of_ble_eq_true rfl) dX3_init_5 (fun q_1 hq_q_1 => ?_)
  have hq0_q_1 : M0 q_1 = none := hX.none hq_q_1 (by simp; exact fun z => by rw [z, h_a] at hq_q_1; cases hq_q_1)
  have g_a : (m_up M q_1 (.inr (2, [.int 0, .null, .int 0]))) a = some (.inr (6, [.int 0, .null, .null, .null, .int 0, .int 0, .int 0, .int 0, .int 0, .int 0, .null, .int 0, .int 0, .int 0, .int 0, .int 0, .long 0, .long 0, .long 0])) := (m_up_n (m_neN h_a hq_q_1)).trans h_a
  have g_q_1 : (m_up M q_1 (.inr (2, [.int 0, .null, .int 0]))) q_1 = some (.inr (2, [.int 0, .null, .int 0])) := m_up_s
  have gX := hX.new (q := q_1) (e := .inr (2, [.int 0, .null, .int 0]))
  revert g_a g_q_1 gX
  generalize m_up M q_1 (.inr (2, [.int 0, .null, .int 0])) = M
  intro h_a h_q_1 hX
  refine m_dup C dX3_init_8 rfl ?_
  refine m_callIv (ret1 := none) (As := []) (st := [.ref q_1, .ref a]) C (c_Jx4a65c_init_da8c8 D A l h_q_1) ⟨callB_of 0 C.1.2.2.2.2 gX3_init_Jx4a65c_init_da8c8 rfl rfl rfl (C.1.2.2.2.2 _ (by decide +kernel)) (C.1.2.2.2.2 _ (by decide +kernel)) (by decide +kernel) ⟨Nat.le_of_ble_eq_true rfl, Nat.le_of_ble_eq_true rfl⟩, rfl, C.1.2.2.2.2 _ (by decide +kernel)⟩ rfl rfl (Nat.le_of_ble_eq_true rfl) dX3_init_9 ⟨Nat.le_of_ble_eq_true rfl, Nat.le_of_ble_eq_true rfl⟩ (fun M9 hq9 => ?_)
  rw [hq9]
  clear hq9
  have g_a : (m_up M q_1 (jLs 0 (D.2.2 0) 0)) a = some (.inr (6, [.int 0, .null, .null, .null, .int 0, .int 0, .int 0, .int 0, .int 0, .int 0, .null, .int 0, .int 0, .int 0, .int 0, .int 0, .long 0, .long 0, .long 0])) := (m_up_n (m_ne h_a h_q_1 (fun z => by cases z))).trans h_a
  have g_q_1 : (m_up M q_1 (jLs 0 (D.2.2 0) 0)) q_1 = some (jLs 0 (D.2.2 0) 0) := m_up_s
  have gX := hX.put (a := q_1) (e := jLs 0 (D.2.2 0) 0) (by simp)
  revert g_a g_q_1 gX
  generalize m_up M q_1 (jLs 0 (D.2.2 0) 0) = M
  intro h_a h_q_1 hX
  refine m_putF (ref := "PaintLayers$Node") C h_a rfl i_X3 tyX3 tyX3_ok nmX3 2 (by decide) (by decide +kernel) (fun x h => h) rfl rfl rfl rfl rfl (Nat.le_of_ble_eq_true rfl) (e' := .inr (6, [.int 0, .null, .ref q_1, .null, .int 0, .int 0, .int 0, .int 0, .int 0, .int 0, .null, .int 0, .int 0, .int 0, .int 0, .int 0, .long 0, .long 0, .long 0])) rfl dX3_init_12 ?_
  have g_q_1 : (m_up M a (.inr (6, [.int 0, .null, .ref q_1, .null, .int 0, .int 0, .int 0, .int 0, .int 0, .int 0, .null, .int 0, .int 0, .int 0, .int 0, .int 0, .long 0, .long 0, .long 0]))) q_1 = some (jLs 0 (D.2.2 0) 0) := (m_up_n (m_ne h_q_1 h_a (fun z => by cases z))).trans h_q_1
  have g_a : (m_up M a (.inr (6, [.int 0, .null, .ref q_1, .null, .int 0, .int 0, .int 0, .int 0, .int 0, .int 0, .null, .int 0, .int 0, .int 0, .int 0, .int 0, .long 0, .long 0, .long 0]))) a = some (.inr (6, [.int 0, .null, .ref q_1, .null, .int 0, .int 0, .int 0, .int 0, .int 0, .int 0, .null, .int 0, .int 0, .int 0, .int 0, .int 0, .long 0, .long 0, .long 0])) := m_up_s
  have gX := hX.put (a := a) (e := .inr (6, [.int 0, .null, .ref q_1, .null, .int 0, .int 0, .int 0, .int 0, .int 0, .int 0, .null, .int 0, .int 0, .int 0, .int 0, .int 0, .long 0, .long 0, .long 0])) (by simp)
  revert g_q_1 g_a gX
  generalize m_up M a (.inr (6, [.int 0, .null, .ref q_1, .null, .int 0, .int 0, .int 0, .int 0, .int 0, .int 0, .null, .int 0, .int 0, .int 0, .int 0, .int 0, .long 0, .long 0, .long 0])) = M
  intro h_q_1 h_a hX
  refine m_aload_n C dX3_init_15 rfl 0 rfl ?_
  refine m_iconst (v := 0) C dX3_init_16 (by decide) ?_
  refine m_put (ref := "PaintLayers$Node") C h_a rfl i_X3 tyX3 tyX3_ok nmX3 4 (by decide) (by decide +kernel) (fun x h => h) rfl rfl rfl (Nat.le_of_ble_eq_true rfl) (e' := .inr (6, [.int 0, .null, .ref q_1, .null, .int 0, .int 0, .int 0, .int 0, .int 0, .int 0, .null, .int 0, .int 0, .int 0, .int 0, .int 0, .long 0, .long 0, .long 0])) rfl dX3_init_17 ?_
  have g_q_1 : (m_up M a (.inr (6, [.int 0, .null, .ref q_1, .null, .int 0, .int 0, .int 0, .int 0, .int 0, .int 0, .null, .int 0, .int 0, .int 0, .int 0, .int 0, .long 0, .long 0, .long 0]))) q_1 = some (jLs 0 (D.2.2 0) 0) := (m_up_n (m_ne h_q_1 h_a (fun z => by cases z))).trans h_q_1
  have g_a : (m_up M a (.inr (6, [.int 0, .null, .ref q_1, .null, .int 0, .int 0, .int 0, .int 0, .int 0, .int 0, .null, .int 0, .int 0, .int 0, .int 0, .int 0, .long 0, .long 0, .long 0]))) a = some (.inr (6, [.int 0, .null, .ref q_1, .null, .int 0, .int 0, .int 0, .int 0, .int 0, .int 0, .null, .int 0, .int 0, .int 0, .int 0, .int 0, .long 0, .long 0, .long 0])) := m_up_s
  have gX := hX.put (a := a) (e := .inr (6, [.int 0, .null, .ref q_1, .null, .int 0, .int 0, .int 0, .int 0, .int 0, .int 0, .null, .int 0, .int 0, .int 0, .int 0, .int 0, .long 0, .long 0, .long 0])) (by simp)
  revert g_q_1 g_a gX
  generalize m_up M a (.inr (6, [.int 0, .null, .ref q_1, .null, .int 0, .int 0, .int 0, .int 0, .int 0, .int 0, .null, .int 0, .int 0, .int 0, .int 0, .int 0, .long 0, .long 0, .long 0])) = M
  intro h_q_1 h_a hX
  refine m_aload_n C dX3_init_20 rfl 0 rfl ?_
  refine m_iconst (v := 0) C dX3_init_21 (by decide) ?_
  refine m_put (ref := "PaintLayers$Node") C h_a rfl i_X3 tyX3 tyX3_ok nmX3 5 (by decide) (by decide +kernel) (fun x h => h) rfl rfl rfl (Nat.le_of_ble_eq_true rfl) (e' := .inr (6, [.int 0, .null, .ref q_1, .null, .int 0, .int 0, .int 0, .int 0, .int 0, .int 0, .null, .int 0, .int 0, .int 0, .int 0, .int 0, .long 0, .long 0, .long 0])) rfl dX3_init_22 ?_
  have g_q_1 : (m_up M a (.inr (6, [.int 0, .null, .ref q_1, .null, .int 0, .int 0, .int 0, .int 0, .int 0, .int 0, .null, .int 0, .int 0, .int 0, .int 0, .int 0, .long 0, .long 0, .long 0]))) q_1 = some (jLs 0 (D.2.2 0) 0) := (m_up_n (m_ne h_q_1 h_a (fun z => by cases z))).trans h_q_1
  have g_a : (m_up M a (.inr (6, [.int 0, .null, .ref q_1, .null, .int 0, .int 0, .int 0, .int 0, .int 0, .int 0, .null, .int 0, .int 0, .int 0, .int 0, .int 0, .long 0, .long 0, .long 0]))) a = some (.inr (6, [.int 0, .null, .ref q_1, .null, .int 0, .int 0, .int 0, .int 0, .int 0, .int 0, .null, .int 0, .int 0, .int 0, .int 0, .int 0, .long 0, .long 0, .long 0])) := m_up_s
  have gX := hX.put (a := a) (e := .inr (6, [.int 0, .null, .ref q_1, .null, .int 0, .int 0, .int 0, .int 0, .int 0, .int 0, .null, .int 0, .int 0, .int 0, .int 0, .int 0, .long 0, .long 0, .long 0])) (by simp)
  revert g_q_1 g_a gX
  generalize m_up M a (.inr (6, [.int 0, .null, .ref q_1, .null, .int 0, .int 0, .int 0, .int 0, .int 0, .int 0, .null, .int 0, .int 0, .int 0, .int 0, .int 0, .long 0, .long 0, .long 0])) = M
  intro h_q_1 h_a hX
  refine m_aload_n C dX3_init_25 rfl 0 rfl ?_
  refine m_iconst (v := (-1)) C dX3_init_26 (by decide) ?_
  refine m_put (ref := "PaintLayers$Node") C h_a rfl i_X3 tyX3 tyX3_ok nmX3 6 (by decide) (by decide +kernel) (fun x h => h) rfl rfl rfl (Nat.le_of_ble_eq_true rfl) (e' := .inr (6, [.int 0, .null, .ref q_1, .null, .int 0, .int 0, .int ((-1)), .int 0, .int 0, .int 0, .null, .int 0, .int 0, .int 0, .int 0, .int 0, .long 0, .long 0, .long 0])) rfl dX3_init_27 ?_
  have g_q_1 : (m_up M a (.inr (6, [.int 0, .null, .ref q_1, .null, .int 0, .int 0, .int ((-1)), .int 0, .int 0, .int 0, .null, .int 0, .int 0, .int 0, .int 0, .int 0, .long 0, .long 0, .long 0]))) q_1 = some (jLs 0 (D.2.2 0) 0) := (m_up_n (m_ne h_q_1 h_a (fun z => by cases z))).trans h_q_1
  have g_a : (m_up M a (.inr (6, [.int 0, .null, .ref q_1, .null, .int 0, .int 0, .int ((-1)), .int 0, .int 0, .int 0, .null, .int 0, .int 0, .int 0, .int 0, .int 0, .long 0, .long 0, .long 0]))) a = some (.inr (6, [.int 0, .null, .ref q_1, .null, .int 0, .int 0, .int ((-1)), .int 0, .int 0, .int 0, .null, .int 0, .int 0, .int 0, .int 0, .int 0, .long 0, .long 0, .long 0])) := m_up_s
  have gX := hX.put (a := a) (e := .inr (6, [.int 0, .null, .ref q_1, .null, .int 0, .int 0, .int ((-1)), .int 0, .int 0, .int 0, .null, .int 0, .int 0, .int 0, .int 0, .int 0, .long 0, .long 0, .long 0])) (by simp)
  revert g_q_1 g_a gX
  generalize m_up M a (.inr (6, [.int 0, .null, .ref q_1, .null, .int 0, .int 0, .int ((-1)), .int 0, .int 0, .int 0, .null, .int 0, .int 0, .int 0, .int 0, .int 0, .long 0, .long 0, .long 0])) = M
  intro h_q_1 h_a hX
  refine m_aload_n C dX3_init_30 rfl 0 rfl ?_
  refine m_bipush (v := 8) C dX3_init_31 (by decide) ?_
  refine m_put (ref := "PaintLayers$Node") C h_a rfl i_X3 tyX3 tyX3_ok nmX3 7 (by decide) (by decide +kernel) (fun x h => h) rfl rfl rfl (Nat.le_of_ble_eq_true rfl) (e' := .inr (6, [.int 0, .null, .ref q_1, .null, .int 0, .int 0, .int ((-1)), .int 8, .int 0, .int 0, .null, .int 0, .int 0, .int 0, .int 0, .int 0, .long 0, .long 0, .long 0])) rfl dX3_init_33 ?_
  have g_q_1 : (m_up M a (.inr (6, [.int 0, .null, .ref q_1, .null, .int 0, .int 0, .int ((-1)), .int 8, .int 0, .int 0, .null, .int 0, .int 0, .int 0, .int 0, .int 0, .long 0, .long 0, .long 0]))) q_1 = some (jLs 0 (D.2.2 0) 0) := (m_up_n (m_ne h_q_1 h_a (fun z => by cases z))).trans h_q_1
  have g_a : (m_up M a (.inr (6, [.int 0, .null, .ref q_1, .null, .int 0, .int 0, .int ((-1)), .int 8, .int 0, .int 0, .null, .int 0, .int 0, .int 0, .int 0, .int 0, .long 0, .long 0, .long 0]))) a = some (.inr (6, [.int 0, .null, .ref q_1, .null, .int 0, .int 0, .int ((-1)), .int 8, .int 0, .int 0, .null, .int 0, .int 0, .int 0, .int 0, .int 0, .long 0, .long 0, .long 0])) := m_up_s
  have gX := hX.put (a := a) (e := .inr (6, [.int 0, .null, .ref q_1, .null, .int 0, .int 0, .int ((-1)), .int 8, .int 0, .int 0, .null, .int 0, .int 0, .int 0, .int 0, .int 0, .long 0, .long 0, .long 0])) (by simp)
  revert g_q_1 g_a gX
  generalize m_up M a (.inr (6, [.int 0, .null, .ref q_1, .null, .int 0, .int 0, .int ((-1)), .int 8, .int 0, .int 0, .null, .int 0, .int 0, .int 0, .int 0, .int 0, .long 0, .long 0, .long 0])) = M
  intro h_q_1 h_a hX
  refine m_aload_n C dX3_init_36 rfl 0 rfl ?_
  refine m_iconst (v := 0) C dX3_init_37 (by decide) ?_
  refine m_put (ref := "PaintLayers$Node") C h_a rfl i_X3 tyX3 tyX3_ok nmX3 8 (by decide) (by decide +kernel) (fun x h => h) rfl rfl rfl (Nat.le_of_ble_eq_true rfl) (e' := .inr (6, [.int 0, .null, .ref q_1, .null, .int 0, .int 0, .int ((-1)), .int 8, .int 0, .int 0, .null, .int 0, .int 0, .int 0, .int 0, .int 0, .long 0, .long 0, .long 0])) rfl dX3_init_38 ?_
  have g_q_1 : (m_up M a (.inr (6, [.int 0, .null, .ref q_1, .null, .int 0, .int 0, .int ((-1)), .int 8, .int 0, .int 0, .null, .int 0, .int 0, .int 0, .int 0, .int 0, .long 0, .long 0, .long 0]))) q_1 = some (jLs 0 (D.2.2 0) 0) := (m_up_n (m_ne h_q_1 h_a (fun z => by cases z))).trans h_q_1
  have g_a : (m_up M a (.inr (6, [.int 0, .null, .ref q_1, .null, .int 0, .int 0, .int ((-1)), .int 8, .int 0, .int 0, .null, .int 0, .int 0, .int 0, .int 0, .int 0, .long 0, .long 0, .long 0]))) a = some (.inr (6, [.int 0, .null, .ref q_1, .null, .int 0, .int 0, .int ((-1)), .int 8, .int 0, .int 0, .null, .int 0, .int 0, .int 0, .int 0, .int 0, .long 0, .long 0, .long 0])) := m_up_s
  have gX := hX.put (a := a) (e := .inr (6, [.int 0, .null, .ref q_1, .null, .int 0, .int 0, .int ((-1)), .int 8, .int 0, .int 0, .null, .int 0, .int 0, .int 0, .int 0, .int 0, .long 0, .long 0, .long 0])) (by simp)
  revert g_q_1 g_a gX
  generalize m_up M a (.inr (6, [.int 0, .null, .ref q_1, .null, .int 0, .int 0, .int ((-1)), .int 8, .int 0, .int 0, .null, .int 0, .int 0, .int 0, .int 0, .int 0, .long 0, .long 0, .long 0])) = M
  intro h_q_1 h_a hX
  refine m_aload_n C dX3_init_41 rfl 0 rfl ?_
  refine m_iconst (v := 0) C dX3_init_42 (by decide) ?_
  refine m_put (ref := "PaintLayers$Node") C h_a rfl i_X3 tyX3 tyX3_ok nmX3 9 (by decide) (by decide +kernel) (fun x h => h) rfl rfl rfl (Nat.le_of_ble_eq_true rfl) (e' := .inr (6, [.int 0, .null, .ref q_1, .null, .int 0, .int 0, .int ((-1)), .int 8, .int 0, .int 0, .null, .int 0, .int 0, .int 0, .int 0, .int 0, .long 0, .long 0, .long 0])) rfl dX3_init_43 ?_
  have g_q_1 : (m_up M a (.inr (6, [.int 0, .null, .ref q_1, .null, .int 0, .int 0, .int ((-1)), .int 8, .int 0, .int 0, .null, .int 0, .int 0, .int 0, .int 0, .int 0, .long 0, .long 0, .long 0]))) q_1 = some (jLs 0 (D.2.2 0) 0) := (m_up_n (m_ne h_q_1 h_a (fun z => by cases z))).trans h_q_1
  have g_a : (m_up M a (.inr (6, [.int 0, .null, .ref q_1, .null, .int 0, .int 0, .int ((-1)), .int 8, .int 0, .int 0, .null, .int 0, .int 0, .int 0, .int 0, .int 0, .long 0, .long 0, .long 0]))) a = some (.inr (6, [.int 0, .null, .ref q_1, .null, .int 0, .int 0, .int ((-1)), .int 8, .int 0, .int 0, .null, .int 0, .int 0, .int 0, .int 0, .int 0, .long 0, .long 0, .long 0])) := m_up_s
  have gX := hX.put (a := a) (e := .inr (6, [.int 0, .null, .ref q_1, .null, .int 0, .int 0, .int ((-1)), .int 8, .int 0, .int 0, .null, .int 0, .int 0, .int 0, .int 0, .int 0, .long 0, .long 0, .long 0])) (by simp)
  revert g_q_1 g_a gX
  generalize m_up M a (.inr (6, [.int 0, .null, .ref q_1, .null, .int 0, .int 0, .int ((-1)), .int 8, .int 0, .int 0, .null, .int 0, .int 0, .int 0, .int 0, .int 0, .long 0, .long 0, .long 0])) = M
  intro h_q_1 h_a hX
  refine m_aload_n C dX3_init_46 rfl 0 rfl ?_
  refine m_null C dX3_init_47 ?_
  refine m_put (ref := "PaintLayers$Node") C h_a rfl i_X3 tyX3 tyX3_ok nmX3 10 (by decide) (by decide +kernel) (fun x h => h) rfl rfl rfl (Nat.le_of_ble_eq_true rfl) (e' := .inr (6, [.int 0, .null, .ref q_1, .null, .int 0, .int 0, .int ((-1)), .int 8, .int 0, .int 0, .null, .int 0, .int 0, .int 0, .int 0, .int 0, .long 0, .long 0, .long 0])) rfl dX3_init_48 ?_
  have g_q_1 : (m_up M a (.inr (6, [.int 0, .null, .ref q_1, .null, .int 0, .int 0, .int ((-1)), .int 8, .int 0, .int 0, .null, .int 0, .int 0, .int 0, .int 0, .int 0, .long 0, .long 0, .long 0]))) q_1 = some (jLs 0 (D.2.2 0) 0) := (m_up_n (m_ne h_q_1 h_a (fun z => by cases z))).trans h_q_1
  have g_a : (m_up M a (.inr (6, [.int 0, .null, .ref q_1, .null, .int 0, .int 0, .int ((-1)), .int 8, .int 0, .int 0, .null, .int 0, .int 0, .int 0, .int 0, .int 0, .long 0, .long 0, .long 0]))) a = some (.inr (6, [.int 0, .null, .ref q_1, .null, .int 0, .int 0, .int ((-1)), .int 8, .int 0, .int 0, .null, .int 0, .int 0, .int 0, .int 0, .int 0, .long 0, .long 0, .long 0])) := m_up_s
  have gX := hX.put (a := a) (e := .inr (6, [.int 0, .null, .ref q_1, .null, .int 0, .int 0, .int ((-1)), .int 8, .int 0, .int 0, .null, .int 0, .int 0, .int 0, .int 0, .int 0, .long 0, .long 0, .long 0])) (by simp)
  revert g_q_1 g_a gX
  generalize m_up M a (.inr (6, [.int 0, .null, .ref q_1, .null, .int 0, .int 0, .int ((-1)), .int 8, .int 0, .int 0, .null, .int 0, .int 0, .int 0, .int 0, .int 0, .long 0, .long 0, .long 0])) = M
  intro h_q_1 h_a hX
  refine m_aload_n C dX3_init_51 rfl 0 rfl ?_
  refine m_iload_n C dX3_init_52 rfl 1 rfl ?_
  refine m_putF (ref := "PaintLayers$Node") C h_a rfl i_X3 tyX3 tyX3_ok nmX3 0 (by decide) (by decide +kernel) (fun x h => h) rfl rfl rfl rfl rfl (Nat.le_of_ble_eq_true rfl) (e' := .inr (6, [.int nn, .null, .ref q_1, .null, .int 0, .int 0, .int ((-1)), .int 8, .int 0, .int 0, .null, .int 0, .int 0, .int 0, .int 0, .int 0, .long 0, .long 0, .long 0])) rfl dX3_init_53 ?_
  have g_q_1 : (m_up M a (.inr (6, [.int nn, .null, .ref q_1, .null, .int 0, .int 0, .int ((-1)), .int 8, .int 0, .int 0, .null, .int 0, .int 0, .int 0, .int 0, .int 0, .long 0, .long 0, .long 0]))) q_1 = some (jLs 0 (D.2.2 0) 0) := (m_up_n (m_ne h_q_1 h_a (fun z => by cases z))).trans h_q_1
  have g_a : (m_up M a (.inr (6, [.int nn, .null, .ref q_1, .null, .int 0, .int 0, .int ((-1)), .int 8, .int 0, .int 0, .null, .int 0, .int 0, .int 0, .int 0, .int 0, .long 0, .long 0, .long 0]))) a = some (.inr (6, [.int nn, .null, .ref q_1, .null, .int 0, .int 0, .int ((-1)), .int 8, .int 0, .int 0, .null, .int 0, .int 0, .int 0, .int 0, .int 0, .long 0, .long 0, .long 0])) := m_up_s
  have gX := hX.put (a := a) (e := .inr (6, [.int nn, .null, .ref q_1, .null, .int 0, .int 0, .int ((-1)), .int 8, .int 0, .int 0, .null, .int 0, .int 0, .int 0, .int 0, .int 0, .long 0, .long 0, .long 0])) (by simp)
  revert g_q_1 g_a gX
  generalize m_up M a (.inr (6, [.int nn, .null, .ref q_1, .null, .int 0, .int 0, .int ((-1)), .int 8, .int 0, .int 0, .null, .int 0, .int 0, .int 0, .int 0, .int 0, .long 0, .long 0, .long 0])) = M
  intro h_q_1 h_a hX
  refine m_aload_n C dX3_init_56 rfl 0 rfl ?_
  refine m_aload_n C dX3_init_57 rfl 2 rfl ?_
  refine m_putF (ref := "PaintLayers$Node") C h_a rfl i_X3 tyX3 tyX3_ok nmX3 1 (by decide) (by decide +kernel) (fun x h => h) rfl rfl rfl rfl rfl (Nat.le_of_ble_eq_true rfl) (e' := .inr (6, [.int nn, .ref sh, .ref q_1, .null, .int 0, .int 0, .int ((-1)), .int 8, .int 0, .int 0, .null, .int 0, .int 0, .int 0, .int 0, .int 0, .long 0, .long 0, .long 0])) rfl dX3_init_58 ?_
  have g_q_1 : (m_up M a (.inr (6, [.int nn, .ref sh, .ref q_1, .null, .int 0, .int 0, .int ((-1)), .int 8, .int 0, .int 0, .null, .int 0, .int 0, .int 0, .int 0, .int 0, .long 0, .long 0, .long 0]))) q_1 = some (jLs 0 (D.2.2 0) 0) := (m_up_n (m_ne h_q_1 h_a (fun z => by cases z))).trans h_q_1
  have g_a : (m_up M a (.inr (6, [.int nn, .ref sh, .ref q_1, .null, .int 0, .int 0, .int ((-1)), .int 8, .int 0, .int 0, .null, .int 0, .int 0, .int 0, .int 0, .int 0, .long 0, .long 0, .long 0]))) a = some (.inr (6, [.int nn, .ref sh, .ref q_1, .null, .int 0, .int 0, .int ((-1)), .int 8, .int 0, .int 0, .null, .int 0, .int 0, .int 0, .int 0, .int 0, .long 0, .long 0, .long 0])) := m_up_s
  have gX := hX.put (a := a) (e := .inr (6, [.int nn, .ref sh, .ref q_1, .null, .int 0, .int 0, .int ((-1)), .int 8, .int 0, .int 0, .null, .int 0, .int 0, .int 0, .int 0, .int 0, .long 0, .long 0, .long 0])) (by simp)
  revert g_q_1 g_a gX
  generalize m_up M a (.inr (6, [.int nn, .ref sh, .ref q_1, .null, .int 0, .int 0, .int ((-1)), .int 8, .int 0, .int 0, .null, .int 0, .int 0, .int 0, .int 0, .int 0, .long 0, .long 0, .long 0])) = M
  intro h_q_1 h_a hX
  refine m_aload_n C dX3_init_61 rfl 0 rfl ?_
  refine m_aload_n C dX3_init_62 rfl 3 rfl ?_
  refine m_put (ref := "PaintLayers$Node") C h_a rfl i_X3 tyX3 tyX3_ok nmX3 3 (by decide) (by decide +kernel) (fun x h => h) rfl rfl rfl (Nat.le_of_ble_eq_true rfl) (e' := .inr (6, [.int nn, .ref sh, .ref q_1, .ref pq, .int 0, .int 0, .int ((-1)), .int 8, .int 0, .int 0, .null, .int 0, .int 0, .int 0, .int 0, .int 0, .long 0, .long 0, .long 0])) rfl dX3_init_63 ?_
  have g_q_1 : (m_up M a (.inr (6, [.int nn, .ref sh, .ref q_1, .ref pq, .int 0, .int 0, .int ((-1)), .int 8, .int 0, .int 0, .null, .int 0, .int 0, .int 0, .int 0, .int 0, .long 0, .long 0, .long 0]))) q_1 = some (jLs 0 (D.2.2 0) 0) := (m_up_n (m_ne h_q_1 h_a (fun z => by cases z))).trans h_q_1
  have g_a : (m_up M a (.inr (6, [.int nn, .ref sh, .ref q_1, .ref pq, .int 0, .int 0, .int ((-1)), .int 8, .int 0, .int 0, .null, .int 0, .int 0, .int 0, .int 0, .int 0, .long 0, .long 0, .long 0]))) a = some (.inr (6, [.int nn, .ref sh, .ref q_1, .ref pq, .int 0, .int 0, .int ((-1)), .int 8, .int 0, .int 0, .null, .int 0, .int 0, .int 0, .int 0, .int 0, .long 0, .long 0, .long 0])) := m_up_s
  have gX := hX.put (a := a) (e := .inr (6, [.int nn, .ref sh, .ref q_1, .ref pq, .int 0, .int 0, .int ((-1)), .int 8, .int 0, .int 0, .null, .int 0, .int 0, .int 0, .int 0, .int 0, .long 0, .long 0, .long 0])) (by simp)
  revert g_q_1 g_a gX
  generalize m_up M a (.inr (6, [.int nn, .ref sh, .ref q_1, .ref pq, .int 0, .int 0, .int ((-1)), .int 8, .int 0, .int 0, .null, .int 0, .int 0, .int 0, .int 0, .int 0, .long 0, .long 0, .long 0])) = M
  intro h_q_1 h_a hX
  exact m_vret C (Nat.le_of_ble_eq_true rfl) (Nat.le_of_ble_eq_true rfl) dX3_init_66 (⟨q_1, hq0_q_1, hX, h_q_1, h_a⟩)

