/-! ===== the class: its plain helpers ===== -/
def okI (i n : Int32) : Bool := decide (¬ i < 0) && decide (i < n)
def okR (x a b : Int32) : Bool := decide (¬ x < a) && decide (¬ b < x)
def okP (x y : Int32) : Bool := okR x (-100) 100 && okR y (-100) 100
def okX (x y : Int32) : Bool := okI x 64 && okI y 48
def bL (b : Int64) (x : Nat) : Bool := b.toBitVec.getLsbD x
abbrev xIO : String := "java/lang/IndexOutOfBoundsException"
abbrev xIA : String := "java/lang/IllegalArgumentException"
abbrev xIS : String := "java/lang/IllegalStateException"
set_option maxHeartbeats 4000000 in
set_option maxRecDepth 100000 in
theorem c_X7_checkIndex (D : mD) (A : Nat → Prop) (l : Launch) (hst : l.stackTraces = false) {i n : Int32} {M : Mm} : mXv D A l yX7_checkIndex wsX7_checkIndex ({ frames := 6, cells := 1, slots := 6, locals := 200 } : Room) [.int i, .int n] M (fun M' => M' = M ∧ okI i n = true) (fun E M' => E = xIO ∧ M' = M ∧ okI i n = false) 1 6 := by
  refine m_startX (cc := cX7_checkIndex) (maxL := 2) (ret := none) (by decide) rfl (Nat.le_of_ble_eq_true rfl) ?_
  intro p e s m args below meth c C hE
  refine m_sub (L' := [(0, .int i), (1, .int n)]) [0, 1] rfl ?_
  refine m_iload_n C dX7_checkIndex_0 rfl 0 rfl ?_
  refine m_if_lt (tgt := 9) C dX7_checkIndex_1 (by decide) (fun h_1 => ?_) (fun h_1 => ?_)
  · exact m_throwS (E := xIO) (text := "no such number") C hst hE (by decide) (by decide +kernel) (by decide +kernel) (by decide +kernel) (by decide) (by decide +kernel) (by decide +kernel) (by decide +kernel) dX7_checkIndex_9 dX7_checkIndex_12 dX7_checkIndex_13 dX7_checkIndex_15 dX7_checkIndex_18 (Nat.le_of_ble_eq_true rfl) (Nat.le_of_ble_eq_true rfl) (Nat.le_of_ble_eq_true rfl) (Nat.le_of_ble_eq_true rfl) (Nat.le_of_ble_eq_true rfl) (Nat.le_of_ble_eq_true rfl) (⟨rfl, rfl, by simp [okI, h_1, Int32.not_le.mpr h_1]⟩)
  · refine m_iload_n C dX7_checkIndex_4 rfl 0 rfl ?_
    refine m_iload_n C dX7_checkIndex_5 rfl 1 rfl ?_
    refine m_icmp_lt (tgt := 19) C dX7_checkIndex_6 (by decide) (fun h_2 => ?_) (fun h_2 => ?_)
    · exact m_vretX C (Nat.le_of_ble_eq_true rfl) (Nat.le_of_ble_eq_true rfl) dX7_checkIndex_19 (⟨rfl, by simp [okI, h_1, Int32.not_lt.mp h_1, h_2, Int32.not_le.mpr h_2]⟩)
    · exact m_throwS (E := xIO) (text := "no such number") C hst hE (by decide) (by decide +kernel) (by decide +kernel) (by decide +kernel) (by decide) (by decide +kernel) (by decide +kernel) (by decide +kernel) dX7_checkIndex_9 dX7_checkIndex_12 dX7_checkIndex_13 dX7_checkIndex_15 dX7_checkIndex_18 (Nat.le_of_ble_eq_true rfl) (Nat.le_of_ble_eq_true rfl) (Nat.le_of_ble_eq_true rfl) (Nat.le_of_ble_eq_true rfl) (Nat.le_of_ble_eq_true rfl) (Nat.le_of_ble_eq_true rfl) (⟨rfl, rfl, by simp [okI, h_1, Int32.not_lt.mp h_1, h_2, Int32.not_lt.mp h_2]⟩)
set_option maxHeartbeats 4000000 in
set_option maxRecDepth 100000 in
theorem c_X7_checkPixel (D : mD) (A : Nat → Prop) (l : Launch) (hst : l.stackTraces = false) {x y : Int32} {M : Mm} : mXv D A l yX7_checkPixel wsX7_checkPixel ({ frames := 6, cells := 1, slots := 6, locals := 200 } : Room) [.int x, .int y] M (fun M' => M' = M ∧ okX x y = true) (fun E M' => E = xIO ∧ M' = M ∧ okX x y = false) 1 6 := by
  refine m_startX (cc := cX7_checkPixel) (maxL := 2) (ret := none) (by decide) rfl (Nat.le_of_ble_eq_true rfl) ?_
  intro p e s m args below meth c C hE
  refine m_sub (L' := [(0, .int x), (1, .int y)]) [0, 1] rfl ?_
  refine m_iload_n C dX7_checkPixel_0 rfl 0 rfl ?_
  refine m_if_lt (tgt := 20) C dX7_checkPixel_1 (by decide) (fun h_1 => ?_) (fun h_1 => ?_)
  · exact m_throwS (E := xIO) (text := "no such pixel") C hst hE (by decide) (by decide +kernel) (by decide +kernel) (by decide +kernel) (by decide) (by decide +kernel) (by decide +kernel) (by decide +kernel) dX7_checkPixel_20 dX7_checkPixel_23 dX7_checkPixel_24 dX7_checkPixel_26 dX7_checkPixel_29 (Nat.le_of_ble_eq_true rfl) (Nat.le_of_ble_eq_true rfl) (Nat.le_of_ble_eq_true rfl) (Nat.le_of_ble_eq_true rfl) (Nat.le_of_ble_eq_true rfl) (Nat.le_of_ble_eq_true rfl) (⟨rfl, rfl, by simp [okX, okI, h_1, Int32.not_le.mpr h_1]⟩)
  · refine m_iload_n C dX7_checkPixel_4 rfl 0 rfl ?_
    refine m_bipush (v := 64) C dX7_checkPixel_5 (by decide) ?_
    refine m_icmp_ge (tgt := 20) C dX7_checkPixel_7 (by decide) (fun h_2 => ?_) (fun h_2 => ?_)
    · exact m_throwS (E := xIO) (text := "no such pixel") C hst hE (by decide) (by decide +kernel) (by decide +kernel) (by decide +kernel) (by decide) (by decide +kernel) (by decide +kernel) (by decide +kernel) dX7_checkPixel_20 dX7_checkPixel_23 dX7_checkPixel_24 dX7_checkPixel_26 dX7_checkPixel_29 (Nat.le_of_ble_eq_true rfl) (Nat.le_of_ble_eq_true rfl) (Nat.le_of_ble_eq_true rfl) (Nat.le_of_ble_eq_true rfl) (Nat.le_of_ble_eq_true rfl) (Nat.le_of_ble_eq_true rfl) (⟨rfl, rfl, by simp [okX, okI, h_1, Int32.not_lt.mp h_1, h_2, Int32.not_lt.mpr h_2]⟩)
    · refine m_iload_n C dX7_checkPixel_10 rfl 1 rfl ?_
      refine m_if_lt (tgt := 20) C dX7_checkPixel_11 (by decide) (fun h_3 => ?_) (fun h_3 => ?_)
      · exact m_throwS (E := xIO) (text := "no such pixel") C hst hE (by decide) (by decide +kernel) (by decide +kernel) (by decide +kernel) (by decide) (by decide +kernel) (by decide +kernel) (by decide +kernel) dX7_checkPixel_20 dX7_checkPixel_23 dX7_checkPixel_24 dX7_checkPixel_26 dX7_checkPixel_29 (Nat.le_of_ble_eq_true rfl) (Nat.le_of_ble_eq_true rfl) (Nat.le_of_ble_eq_true rfl) (Nat.le_of_ble_eq_true rfl) (Nat.le_of_ble_eq_true rfl) (Nat.le_of_ble_eq_true rfl) (⟨rfl, rfl, by simp [okX, okI, h_1, Int32.not_lt.mp h_1, h_2, Int32.not_le.mp h_2, h_3, Int32.not_le.mpr h_3]⟩)
      · refine m_iload_n C dX7_checkPixel_14 rfl 1 rfl ?_
        refine m_bipush (v := 48) C dX7_checkPixel_15 (by decide) ?_
        refine m_icmp_lt (tgt := 30) C dX7_checkPixel_17 (by decide) (fun h_4 => ?_) (fun h_4 => ?_)
        · exact m_vretX C (Nat.le_of_ble_eq_true rfl) (Nat.le_of_ble_eq_true rfl) dX7_checkPixel_30 (⟨rfl, by simp [okX, okI, h_1, Int32.not_lt.mp h_1, h_2, Int32.not_le.mp h_2, h_3, Int32.not_lt.mp h_3, h_4, Int32.not_le.mpr h_4]⟩)
        · exact m_throwS (E := xIO) (text := "no such pixel") C hst hE (by decide) (by decide +kernel) (by decide +kernel) (by decide +kernel) (by decide) (by decide +kernel) (by decide +kernel) (by decide +kernel) dX7_checkPixel_20 dX7_checkPixel_23 dX7_checkPixel_24 dX7_checkPixel_26 dX7_checkPixel_29 (Nat.le_of_ble_eq_true rfl) (Nat.le_of_ble_eq_true rfl) (Nat.le_of_ble_eq_true rfl) (Nat.le_of_ble_eq_true rfl) (Nat.le_of_ble_eq_true rfl) (Nat.le_of_ble_eq_true rfl) (⟨rfl, rfl, by simp [okX, okI, h_1, Int32.not_lt.mp h_1, h_2, Int32.not_le.mp h_2, h_3, Int32.not_lt.mp h_3, h_4, Int32.not_lt.mp h_4]⟩)
set_option maxHeartbeats 4000000 in
set_option maxRecDepth 100000 in
theorem c_X7_checkRange (D : mD) (A : Nat → Prop) (l : Launch) (hst : l.stackTraces = false) {x a b : Int32} {M : Mm} : mXv D A l yX7_checkRange wsX7_checkRange ({ frames := 6, cells := 1, slots := 6, locals := 200 } : Room) [.int x, .int a, .int b] M (fun M' => M' = M ∧ okR x a b = true) (fun E M' => E = xIA ∧ M' = M ∧ okR x a b = false) 1 6 := by
  refine m_startX (cc := cX7_checkRange) (maxL := 3) (ret := none) (by decide) rfl (Nat.le_of_ble_eq_true rfl) ?_
  intro p e s m args below meth c C hE
  refine m_sub (L' := [(0, .int x), (1, .int a), (2, .int b)]) [0, 1, 2] rfl ?_
  refine m_iload_n C dX7_checkRange_0 rfl 0 rfl ?_
  refine m_iload_n C dX7_checkRange_1 rfl 1 rfl ?_
  refine m_icmp_lt (tgt := 10) C dX7_checkRange_2 (by decide) (fun h_1 => ?_) (fun h_1 => ?_)
  · exact m_throwS (E := xIA) (text := "out of its range") C hst hE (by decide) (by decide +kernel) (by decide +kernel) (by decide +kernel) (by decide) (by decide +kernel) (by decide +kernel) (by decide +kernel) dX7_checkRange_10 dX7_checkRange_13 dX7_checkRange_14 dX7_checkRange_16 dX7_checkRange_19 (Nat.le_of_ble_eq_true rfl) (Nat.le_of_ble_eq_true rfl) (Nat.le_of_ble_eq_true rfl) (Nat.le_of_ble_eq_true rfl) (Nat.le_of_ble_eq_true rfl) (Nat.le_of_ble_eq_true rfl) (⟨rfl, rfl, by simp [okR, h_1, Int32.not_le.mpr h_1]⟩)
  · refine m_iload_n C dX7_checkRange_5 rfl 0 rfl ?_
    refine m_iload_n C dX7_checkRange_6 rfl 2 rfl ?_
    refine m_icmp_le (tgt := 20) C dX7_checkRange_7 (by decide) (fun h_2 => ?_) (fun h_2 => ?_)
    · exact m_vretX C (Nat.le_of_ble_eq_true rfl) (Nat.le_of_ble_eq_true rfl) dX7_checkRange_20 (⟨rfl, by simp [okR, h_1, Int32.not_lt.mp h_1, h_2, Int32.not_lt.mpr h_2]⟩)
    · exact m_throwS (E := xIA) (text := "out of its range") C hst hE (by decide) (by decide +kernel) (by decide +kernel) (by decide +kernel) (by decide) (by decide +kernel) (by decide +kernel) (by decide +kernel) dX7_checkRange_10 dX7_checkRange_13 dX7_checkRange_14 dX7_checkRange_16 dX7_checkRange_19 (Nat.le_of_ble_eq_true rfl) (Nat.le_of_ble_eq_true rfl) (Nat.le_of_ble_eq_true rfl) (Nat.le_of_ble_eq_true rfl) (Nat.le_of_ble_eq_true rfl) (Nat.le_of_ble_eq_true rfl) (⟨rfl, rfl, by simp [okR, h_1, Int32.not_lt.mp h_1, h_2, Int32.not_le.mp h_2]⟩)

