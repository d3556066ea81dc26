/-! ===== the record: its start ===== -/
theorem m_ups_q {M : Mm} {q : Nat} {x z : va_E} {N : Nat} {r : Nat → Nat} : m_ups M q x N r z q = some x := if_pos rfl
theorem m_ups_r {M : Mm} {q : Nat} {x z : va_E} {N : Nat} {r : Nat → Nat} {i : Nat} (hi : i < N) (hn : r i ≠ q) : m_ups M q x N r z (r i) = some z := by
  unfold m_ups
  rw [if_neg hn, if_pos ⟨i, hi, rfl⟩]
theorem m_ups_o {M : Mm} {q : Nat} {x z : va_E} {N : Nat} {r : Nat → Nat} (hq : M q = none) (hr : ∀ i, i < N → M (r i) = none ∧ r i ≠ q) : mS M (m_ups M q x N r z) := fun a y ha => by
  unfold m_ups
  rw [if_neg (fun e => by rw [e, hq] at ha; cases ha), if_neg (fun ⟨i, hi, e⟩ => by rw [e, (hr i hi).1] at ha; cases ha)]
  exact ha
set_option maxHeartbeats 4000000 in
set_option maxRecDepth 100000 in
theorem c_X8_init (D : mD) (A : Nat → Prop) (l : Launch) {o : Nat} {M : Mm} (ho : M o = some (.inr (10, [.null, .null, .int 0, .int 0, .null]))) : mMv D A l yX8_init wsX8_init ({ frames := 2, cells := 110, slots := 3300, locals := 120 } : Room) [.ref o] M (fun M' => ∃ (qn qc qp qq : Nat) (cr : Nat → Option Nat) (row : Nat → Int32), hW D o qn qc qp (va_up (fun _ => none) 0 (some qq)) cr 1 0 (upA (fun _ _ => 0) 0 row) (fun _ => []) M' ∧ (∀ i, i < 12 → row i = nR 0 (-1) i) ∧ (∀ a x, a ≠ o → M a = some x → M' a = some x) ∧ ∀ a, (a = qn ∨ a = qc ∨ ∃ n, n < 40 ∧ (va_up (fun _ => none) 0 (some qq) n = some a ∨ cr n = some a)) → M a = none) 110 3300 := by
  refine m_start (cc := cX8_init) (maxL := 1) (ret := none) (by decide) rfl (Nat.le_of_ble_eq_true rfl) ?_
  intro p e s m args below meth c C
  have i8 : ∀ w ∈ wsX80, w ∈ wsX8_init := by decide +kernel
  refine m_sub (L' := [(0, .ref o)]) [0] rfl ?_
  refine m_aload_n C dX8_init_0 rfl 0 rfl ?_
  refine m_objInit C (by decide +kernel) (by decide +kernel) (by decide +kernel) (Nat.le_of_ble_eq_true rfl) (Nat.le_of_ble_eq_true rfl) dX8_init_1 ?_
  refine m_aload_n C dX8_init_4 rfl 0 rfl ?_
  refine m_bipush (v := 40) C dX8_init_5 (by decide) ?_
  refine m_i (y := nI 40) (rfl) ?_
  refine m_newA (index := 7) C (by decide +kernel) (N := 40) rfl (by decide) (Nat.le_of_ble_eq_true rfl) (Nat.le_of_ble_eq_true rfl) dX8_init_7 (fun qn hqn => ?_)
  have h1 : mS M (m_up M qn (jAA D 40 (fun _ => none))) := mS.rf.new hqn
  have ho1 := h1 _ _ ho
  have hn1 : m_up M qn (jAA D 40 (fun _ => none)) qn = some (jAA D 40 (fun _ => none)) := m_up_s
  have hon : qn ≠ o := fun z => by rw [z, ho] at hqn; cases hqn
  revert h1 ho1 hn1
  generalize m_up M qn (jAA D 40 (fun _ => none)) = M1
  intro h1 ho1 hn1
  refine m_putF C ho1 rfl i8 tyX8 tyX8_ok nmX8 0 (by decide) (by decide +kernel) (fun x h => h) rfl rfl rfl rfl rfl (Nat.le_of_ble_eq_true rfl) (e' := .inr (10, [.ref qn, .null, .int 0, .int 0, .null])) rfl dX8_init_10 ?_
  have ho2 : m_up M1 o (.inr (10, [.ref qn, .null, .int 0, .int 0, .null])) o = some (.inr (10, [.ref qn, .null, .int 0, .int 0, .null])) := m_up_s
  have hn2 : m_up M1 o (.inr (10, [.ref qn, .null, .int 0, .int 0, .null])) qn = some (jAA D 40 (fun _ => none)) := (m_up_n hon).trans hn1
  have h2 : ∀ a x, a ≠ o → M a = some x → m_up M1 o (.inr (10, [.ref qn, .null, .int 0, .int 0, .null])) a = some x := fun a x ha hx => (m_up_n ha).trans (h1 a x hx)
  revert ho2 hn2 h2
  generalize m_up M1 o (.inr (10, [.ref qn, .null, .int 0, .int 0, .null])) = M2
  intro ho2 hn2 h2
  refine m_aload_n C dX8_init_13 rfl 0 rfl ?_
  refine m_bipush (v := 40) C dX8_init_14 (by decide) ?_
  refine m_iconst (v := 0) C dX8_init_16 (by decide) ?_
  refine m_i (y := nI 0) rfl ?_
  refine m_newM (index := 15) C (by decide +kernel) (by decide +kernel) (x := 40) (y := nI 0) (N := 40) (K := 0) rfl rfl (by decide) (by decide) (Nat.le_of_ble_eq_true rfl) (Nat.le_of_ble_eq_true rfl) dX8_init_17 (fun qc rc hqc hrc hri => ?_)
  have h3 := m_ups_o (x := jAA D 40 (fun i => if i < 40 then some (rc i) else none)) (z := .inl (D.2.1 0, 0, .inl (fun _ => 0))) hqc hrc
  have hc3 : m_ups M2 qc (jAA D 40 (fun i => if i < 40 then some (rc i) else none)) 40 rc (.inl (D.2.1 0, 0, .inl (fun _ => 0))) qc = _ := m_ups_q
  have hr3 : ∀ i, i < 40 → m_ups M2 qc (jAA D 40 (fun i => if i < 40 then some (rc i) else none)) 40 rc (.inl (D.2.1 0, 0, .inl (fun _ => 0))) (rc i) = _ := fun i hi => m_ups_r hi (hrc i hi).2
  have hco : qc ≠ o := fun z => by rw [z, ho2] at hqc; cases hqc
  have hcn : qc ≠ qn := fun z => by rw [z, hn2] at hqc; cases hqc
  have hro : ∀ i, i < 40 → rc i ≠ o := fun i hi z => by have := (hrc i hi).1; rw [z, ho2] at this; cases this
  revert h3 hc3 hr3
  generalize m_ups M2 qc _ 40 rc _ = M3
  intro h3 hc3 hr3
  have ho3 := h3 _ _ ho2
  have hn3 := h3 _ _ hn2
  refine m_putF C ho3 rfl i8 tyX8 tyX8_ok nmX8 1 (by decide) (by decide +kernel) (fun x h => h) rfl rfl rfl rfl rfl (Nat.le_of_ble_eq_true rfl) (e' := .inr (10, [.ref qn, .ref qc, .int 0, .int 0, .null])) rfl dX8_init_21 ?_
  have ho4 : m_up M3 o (.inr (10, [.ref qn, .ref qc, .int 0, .int 0, .null])) o = some (.inr (10, [.ref qn, .ref qc, .int 0, .int 0, .null])) := m_up_s
  have hn4 : m_up M3 o (.inr (10, [.ref qn, .ref qc, .int 0, .int 0, .null])) qn = _ := (m_up_n hon).trans hn3
  have hc4 : m_up M3 o (.inr (10, [.ref qn, .ref qc, .int 0, .int 0, .null])) qc = _ := (m_up_n hco).trans hc3
  have hr4 : ∀ i, i < 40 → m_up M3 o (.inr (10, [.ref qn, .ref qc, .int 0, .int 0, .null])) (rc i) = _ := fun i hi => (m_up_n (hro i hi)).trans (hr3 i hi)
  have h4 : ∀ a x, a ≠ o → M a = some x → m_up M3 o (.inr (10, [.ref qn, .ref qc, .int 0, .int 0, .null])) a = some x := fun a x ha hx => (m_up_n ha).trans (h3 a x (h2 a x ha hx))
  revert ho4 hn4 hc4 hr4 h4
  generalize m_up M3 o (.inr (10, [.ref qn, .ref qc, .int 0, .int 0, .null])) = M4
  intro ho4 hn4 hc4 hr4 h4
  refine m_aload_n C dX8_init_24 rfl 0 rfl ?_
  refine m_bipush (v := 64) C dX8_init_25 (by decide) ?_
  refine m_bipush (v := 48) C dX8_init_27 (by decide) ?_
  refine m_newM (index := 15) C (by decide +kernel) (by decide +kernel) (x := 64) (y := 48) (N := 64) (K := 48) rfl rfl (by decide) (by decide) (Nat.le_of_ble_eq_true rfl) (Nat.le_of_ble_eq_true rfl) dX8_init_29 (fun qp rp hqp hrp hpi => ?_)
  have h5 := m_ups_o (x := jAA D 64 (fun i => if i < 64 then some (rp i) else none)) (z := .inl (D.2.1 0, 48, .inl (fun _ => 0))) hqp hrp
  revert h5
  generalize m_ups M4 qp _ 64 rp _ = M5
  intro h5
  refine m_put (ref := "PaintLayersLaw$Hand") C (h5 _ _ ho4) rfl i8 tyX8 tyX8_ok nmX8 4 (by decide) (by decide +kernel) (fun x h => h) rfl rfl rfl (Nat.le_of_ble_eq_true rfl) (e' := .inr (10, [.ref qn, .ref qc, .int 0, .int 0, .ref qp])) rfl dX8_init_33 ?_
  have ho6 : m_up M5 o (.inr (10, [.ref qn, .ref qc, .int 0, .int 0, .ref qp])) o = some (.inr (10, [.ref qn, .ref qc, .int 0, .int 0, .ref qp])) := m_up_s
  have h6 : ∀ a x, a ≠ o → M4 a = some x → m_up M5 o (.inr (10, [.ref qn, .ref qc, .int 0, .int 0, .ref qp])) a = some x := fun a x ha hx => (m_up_n ha).trans (h5 a x hx)
  revert ho6 h6
  generalize m_up M5 o (.inr (10, [.ref qn, .ref qc, .int 0, .int 0, .ref qp])) = M7
  intro ho6 h6
  have hR4 : hW D o qn qc qp (fun _ => none) (fun i => if i < 40 then some (rc i) else none) 0 0 (fun _ _ => 0) (fun _ => []) M7 := ⟨ho6, h6 _ _ hon hn4, h6 _ _ hco hc4, fun n a hn ha => (by cases ha), fun n hn => ⟨rc n, _, if_pos hn, h6 _ _ (hro n hn) (hr4 n hn), fun k hk => absurd hk (Nat.not_lt_zero k)⟩, Ne.symm hcn, fun n m a hn hm ha => (by cases ha), fun n m a hn hm ha => (by cases ha)⟩
  refine m_aload_n C dX8_init_36 rfl 0 rfl ?_
  refine m_iconst (v := 0) C dX8_init_37 (by decide) ?_
  refine m_iconst (v := (-1)) C dX8_init_38 (by decide) ?_
  refine m_iconst (v := 0) C dX8_init_39 (by decide) ?_
  refine m_newI C (by decide +kernel) (N := 0) rfl (by decide) (Nat.le_of_ble_eq_true rfl) (Nat.le_of_ble_eq_true rfl) dX8_init_40 (fun sq hsq => ?_)
  have hX5 : mS M7 (m_up M7 sq (.inl (D.2.1 0, 0, .inl (fun _ => 0)))) := mS.rf.new hsq
  have hs5 : m_up M7 sq (.inl (D.2.1 0, 0, .inl (fun _ => 0))) sq = some (jI D 0 (fun _ => 0)) := m_up_s
  have hR5 := hR4.mono hX5
  revert hX5 hs5 hR5
  generalize m_up M7 sq _ = M8
  intro hX5 hs5 hR5
  refine m_callVi (As := [.int 0, .int ((-1)), .ref sq]) (st := []) C hR5.1 rfl (c_X8_add0 D A l hR5 (Nat.zero_le _) hs5 (by decide)) (cwV 3 C.1.2.2.2.2 gX8_init_X8_add rfl rfl rfl (by decide +kernel) ⟨Nat.le_of_ble_eq_true rfl, Nat.le_of_ble_eq_true rfl⟩) rfl rfl (Nat.le_of_ble_eq_true rfl) dX8_init_42 ⟨Nat.le_of_ble_eq_true rfl, Nat.le_of_ble_eq_true rfl⟩ (fun r5 M6 hq6 => ?_)
  obtain ⟨-, qq, row, hR6, hrow, hK6⟩ := hq6
  refine m_pop C dX8_init_45 rfl ?_
  refine m_vret C (Nat.le_of_ble_eq_true rfl) (Nat.le_of_ble_eq_true rfl) dX8_init_46 ⟨qn, qc, qp, qq, _, row, hR6, hrow, fun a x ha hx => ?_, fun a ha => ?_⟩
  · have h8 := hX5 a x (h6 a x ha (h4 a x ha hx))
    rcases (hK6.1 a x h8).2 with z | z | z | z | ⟨n, hn, z⟩
    · exact z
    · exact absurd z ha
    · rw [z, hqn] at hx; cases hx
    · exact absurd (h2 a x ha hx) (by rw [z, hqc]; intro y; cases y)
    · cases z
  · cases hz : M a with
    | none => rfl
    | some x =>
      exfalso
      rcases ha with z | z | ⟨n, hn, z | z⟩
      · rw [z, hqn] at hz; cases hz
      · rw [z] at hz; have h9 := h2 qc x hco hz; rw [hqc] at h9; cases h9
      · rcases hK6.2.1 n a z with y | y
        · cases y
        · have hao : a ≠ o := fun q => by rw [q, hX5 _ _ ho6] at y; cases y
          rw [hX5 a x (h6 a x hao (h4 a x hao hz))] at y; cases y
      · have hrn : a = rc n := by rw [if_pos hn] at z; cases z; rfl
        rw [hrn] at hz; have h9 := h2 (rc n) x (hro n hn) hz; rw [(hrc n hn).1] at h9; cases h9
