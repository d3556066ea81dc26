/-! ===== what every call keeps: the tree, its bounds, masked or not ===== -/
def lP (cm : Nat) (ar : rA) : Prop := wf ar cm ∧ BD ar cm ∧ ∀ n, ar 13 n = 0 ∨ ar 13 n = 1
theorem lP_0 : lP 1 q_ar0 := ⟨wf_0, BD_0, fun n => Or.inl rfl⟩
theorem nf_t {b : Bool} (h : ¬ b = false) : b = true := by
  cases b
  · exact absurd rfl h
  · rfl
section LP
variable {cm : Nat} {ar : rA}
theorem n_J (hw : wf ar cm) {v : Int32} (h : ¬ q_node cm ar v = false) : ∃ j : Nat, cP ar cm j ∧ v = nI j ∧ jN v = j := by
  obtain ⟨j, h1, h2, h3⟩ := q_node_J hw.1 (nf_t h)
  have := hw.1.2
  exact ⟨j, ⟨h1, h3⟩, h2, by rw [h2]; exact nI_clamp (by omega)⟩
theorem k3 {p q : Prop} [Decidable p] [Decidable q] {a b : Int32} (ha : ¬ a = 0) (hb : ¬ b = 0) (h : (if p then a else if q then b else (0 : Int32)) = 0) : ¬ p ∧ ¬ q := by
  by_cases hp : p
  · rw [if_pos hp] at h; exact absurd h ha
  · rw [if_neg hp] at h
    by_cases hq : q
    · rw [if_pos hq] at h; exact absurd h hb
    · exact ⟨hp, hq⟩
theorem in_b {w : Int32} {n : Int32} (h : q_in w 0 n = true) (hn : n.toInt ≤ 100) : w.toInt.natAbs ≤ 100 := by
  obtain ⟨h1, h2⟩ := q_in_t.mp h
  rw [Int32.le_iff_toInt_le] at h1 h2
  have h0 : (0 : Int32).toInt = 0 := by decide
  omega
theorem lP_place (hP : lP cm ar) {v dx dy : Int32} (h : k_place cm ar v dx dy = 0) : lP cm (s_place ar v dx dy) := by
  obtain ⟨hw, hb, hz⟩ := hP
  obtain ⟨h1, h2⟩ := k3 (by decide) (by decide) h
  obtain ⟨j, hj, -, ej⟩ := n_J hw h1
  rw [Bool.not_eq_true, Bool.or_eq_false_iff] at h2
  unfold s_place
  rw [ej]
  exact ⟨wf_s9 (wf_s8 hw hj.1 dx) hj.1 dy, BD_s9 (BD_s8 hb (far_b h2.1)) (far_b h2.2), hz⟩
theorem lP_setFill (hP : lP cm ar) {v f : Int32} (h : k_setFill cm ar v f = 0) : lP cm (s_setFill ar v f) := by
  obtain ⟨hw, hb, hz⟩ := hP
  exact ⟨wf_s10 hw f, BD_s10 hb, hz⟩
theorem lP_setOpacity (hP : lP cm ar) {v f : Int32} {o : Bool} (h : k_setOpacity cm ar v f = 0) : lP cm (s_setOpacity ar v f o) := by
  obtain ⟨hw, hb, hz⟩ := hP
  obtain ⟨h1, h2⟩ := k3 (by decide) (by decide) h
  obtain ⟨j, hj, -, ej⟩ := n_J hw h1
  unfold s_setOpacity
  rw [ej]
  exact ⟨wf_s12 (wf_s11 hw f) hj.1 (bI o), BD_s12 (BD_s11 hb), hz⟩
theorem lP_setMask (hP : lP cm ar) {v : Int32} {o : Bool} (h : k_setMask cm ar v = 0) : lP cm (s_setMask ar v o) := by
  obtain ⟨hw, hb, hz⟩ := hP
  obtain ⟨h1, h2⟩ := k3 (by decide) (by decide) h
  obtain ⟨j, hj, -, ej⟩ := n_J hw h1
  unfold s_setMask
  rw [ej]
  refine ⟨wf_s13 hw hj.1 (bI o), BD_s13 hb, fun n => ?_⟩
  show upd (ar 13) j (bI o) n = 0 ∨ upd (ar 13) j (bI o) n = 1
  by_cases z : n = j
  · rw [z, upd_s]
    cases o <;> decide
  · rw [upd_o z]
    exact hz n
theorem lP_setClip (hP : lP cm ar) {v a b w h : Int32} (h0 : k_setClip cm ar v a b w h = 0) : lP cm (s_setClip ar v a b w h) := by
  obtain ⟨hw, hb, hz⟩ := hP
  obtain ⟨h1, h2⟩ := k3 (by decide) (by decide) h0
  obtain ⟨j, hj, -, ej⟩ := n_J hw h1
  rw [Bool.not_eq_true, Bool.or_eq_false_iff, Bool.or_eq_false_iff, Bool.or_eq_false_iff, Bool.not_eq_false', Bool.not_eq_false'] at h2
  obtain ⟨⟨⟨ha, hb1⟩, hw1⟩, hh⟩ := h2
  have e : s_setClip ar v a b w h = clpA ar j a b w h := by
    unfold s_setClip clpA
    rw [ej]
  rw [e]
  exact ⟨wf_clp hw hj.1 a b w h, BD_clp hb (far_b ha) (far_b hb1) (in_b hw1 (by decide)) (in_b hh (by decide)), hz⟩
theorem lP_remove (hP : lP cm ar) {v : Int32} (h : k_remove cm ar v = 0) : lP cm (s_remove ar v) := by
  obtain ⟨hw, hb, hz⟩ := hP
  obtain ⟨h1, h2⟩ := k3 (by decide) (by decide) h
  obtain ⟨j, hj, rfl, ej⟩ := n_J hw h1
  have h0 : j ≠ 0 := fun z => h2 (by rw [z]; rfl)
  exact ⟨(wf_remove hw hj h0).2.1, BD_remove hw hb hj h0, hz⟩
theorem lP_move (hP : lP cm ar) {v b pl : Int32} (h : k_move cm ar v b pl = 0) : lP cm (s_move ar v b pl) := by
  obtain ⟨hw, hb, hz⟩ := hP
  obtain ⟨h1, h2⟩ := k3 (by decide) (by decide) h
  rw [Bool.and_eq_false_iff, not_or] at h1
  obtain ⟨j, hj, rfl, ej⟩ := n_J hw h1.1
  obtain ⟨i, hi, rfl, ei⟩ := n_J hw h1.2
  rw [not_or, not_or, not_or] at h2
  obtain ⟨h3, h4, h5, h6⟩ := h2
  have h0 : j ≠ 0 := fun z => h3 (by rw [z]; rfl)
  rw [ei, Decidable.not_not] at h4
  rw [ei, ej] at h5 h6
  have hki := KO_len hw hj h0 hi
  have hk2 := kids_le hw hi
  rw [kids_len] at hk2
  have hlen : (KO ar j i).length ≤ 40 := by
    rw [hki]
    split <;> omega
  rw [mv_k hw hj h0 hi rfl] at h6
  obtain ⟨p9, hp9, rfl⟩ := mv_in (by omega) (nf_t h6)
  exact ⟨(wf_move hw hj h0 hi h4 h5 hp9).2.1, BD_move hw hb hj h0 hi (by omega), hz⟩
theorem q_new7 {so : Int32} {sh : Nat → Int32} {w j : Nat} (hj : j < w) : q_new ar cm so sh w 7 (6 * cm + j) = sh j := by
  show va_cpy sh (ar 7) 0 (6 * cm) w (6 * cm + j) = _
  unfold va_cpy
  rw [if_pos ⟨by omega, by omega⟩]
  congr 1
  omega
theorem BS_new (hw : wf ar cm) {so : Int32} {sh : Nat → Int32} {w : Nat} (hso : so = 0 ∨ so = 1 ∨ so = 2 ∨ so = 3)
    (hR : so = 1 → 4 ≤ w ∧ ((sh 0).toInt.natAbs ≤ 100 ∧ (sh 1).toInt.natAbs ≤ 100) ∧ (sh 2).toInt.natAbs ≤ 100 ∧ (sh 3).toInt.natAbs ≤ 100)
    (hD : so = 2 → 3 ≤ w ∧ ((sh 0).toInt.natAbs ≤ 100 ∧ (sh 1).toInt.natAbs ≤ 100) ∧ 1 ≤ (sh 2).toInt ∧ (sh 2).toInt ≤ 60)
    (hT : so = 3 → 6 ≤ w ∧ ∀ j, j < 6 → (sh j).toInt.natAbs ≤ 100) : BS (q_new ar cm so sh w) cm := by
  obtain ⟨-, -, h8, h9, -, -, h14⟩ := hw.2.2.2.2.2 cm (Nat.le_refl _)
  have e8 : q_new ar cm so sh w 8 cm = 0 := h8
  have e9 : q_new ar cm so sh w 9 cm = 0 := h9
  have e3 : q_new ar cm so sh w 3 cm = so := if_pos rfl
  have e14 : q_new ar cm so sh w 14 (4 * cm + 2) = 0 := h14 2 (by decide)
  have e70 : 0 < w → q_new ar cm so sh w 7 (6 * cm) = sh 0 := fun h => q_new7 (j := 0) h
  unfold BS
  rw [e8, e9, e3, e14]
  refine ⟨⟨by decide, by decide⟩, hso, fun z => ?_, fun z => ?_, fun z j hj => ?_, fun z => absurd z (by decide)⟩
  · obtain ⟨h1, h2⟩ := hR z
    rw [e70 (by omega), q_new7 (by omega), q_new7 (by omega), q_new7 (by omega)]
    exact h2
  · obtain ⟨h1, h2⟩ := hD z
    rw [e70 (by omega), q_new7 (by omega), q_new7 (by omega)]
    exact h2
  · obtain ⟨h1, h2⟩ := hT z
    rw [q_new7 (by omega)]
    exact h2 j hj
theorem lP_add (hP : lP cm ar) {v so : Int32} {ok : Bool} {sh : Nat → Int32} {w : Nat} (h : q_addk cm ar v so ok = 0) (hx : ok = true → BS (q_new ar cm so sh w) cm) : lP (cm + 1) (q_addS cm ar v so sh w) := by
  obtain ⟨hw, hb, hz⟩ := hP
  unfold q_addk at h
  by_cases h1 : q_node cm ar v = false
  · rw [if_pos h1] at h; exact absurd h (by decide)
  rw [if_neg h1] at h
  by_cases h2 : ok = false
  · rw [if_pos h2] at h; exact absurd h (by decide)
  rw [if_neg h2] at h
  by_cases h3 : ¬ ar 3 v.toNatClampNeg = 0 ∨ nI cm = 40
  · rw [if_pos h3] at h
    by_cases h4 : so = 0
    · rw [if_pos h4] at h; exact absurd h (by decide)
    · rw [if_neg h4] at h; exact absurd h (by decide)
  rw [not_or, Decidable.not_not] at h3
  obtain ⟨j, hj, rfl, ej⟩ := n_J hw h1
  have h40 := hw.1.2
  have hc : cm < 40 := by
    rcases Nat.lt_or_ge cm 40 with z | z
    · exact z
    · have : cm = 40 := by omega
      rw [this] at h3
      exact absurd rfl h3.2
  have e3 : ar 3 j = 0 := by
    have := h3.1
    rw [show (nI j).toNatClampNeg = j from ej] at this
    exact this
  exact ⟨(wf_add hw hc hj e3 so sh w).2.1, BD_add hw hc hb hj e3 (hx (nf_t h2)), hz⟩
theorem far_n {x : Int32} (h : (!q_far x) = true) : x.toInt.natAbs ≤ 100 := far_b (by rw [Bool.not_eq_true'] at h; exact h)
theorem lP_addGroup (hP : lP cm ar) {v : Int32} (h : q_addk cm ar v 0 true = 0) : lP (cm + 1) (q_addS cm ar v 0 (q_sh []) 0) :=
  lP_add hP h fun _ => BS_new hP.1 (Or.inl rfl) (fun z => absurd z (by decide)) (fun z => absurd z (by decide)) (fun z => absurd z (by decide))
theorem lP_addRectangle (hP : lP cm ar) {v a b w h : Int32} (h0 : q_addk cm ar v 1 (q_okR a b w h) = 0) : lP (cm + 1) (q_addS cm ar v 1 (q_sh [a, b, w, h]) 4) :=
  lP_add hP h0 fun hk => BS_new hP.1 (Or.inr (Or.inl rfl)) (fun _ => by
    unfold q_okR at hk
    rw [Bool.and_eq_true, Bool.and_eq_true, Bool.and_eq_true] at hk
    obtain ⟨⟨⟨h1, h2⟩, h3⟩, h4⟩ := hk
    have in1 : ∀ u : Int32, q_in u 1 100 = true → u.toInt.natAbs ≤ 100 := fun u hu => by
      obtain ⟨y1, y2⟩ := q_in_t.mp hu
      rw [Int32.le_iff_toInt_le] at y1 y2
      have h0 : (1 : Int32).toInt = 1 := by decide
      have h9 : (100 : Int32).toInt = 100 := by decide
      omega
    exact ⟨by decide, ⟨far_n h1, far_n h2⟩, in1 _ h3, in1 _ h4⟩) (fun z => absurd z (by decide)) (fun z => absurd z (by decide))
theorem lP_addDisc (hP : lP cm ar) {v a b w : Int32} (h0 : q_addk cm ar v 2 (q_okD a b w) = 0) : lP (cm + 1) (q_addS cm ar v 2 (q_sh [a, b, w]) 3) :=
  lP_add hP h0 fun hk => BS_new hP.1 (Or.inr (Or.inr (Or.inl rfl))) (fun z => absurd z (by decide)) (fun _ => by
    unfold q_okD at hk
    rw [Bool.and_eq_true, Bool.and_eq_true] at hk
    obtain ⟨⟨h1, h2⟩, h3⟩ := hk
    obtain ⟨y1, y2⟩ := q_in_t.mp h3
    rw [Int32.le_iff_toInt_le] at y1 y2
    have h0 : (1 : Int32).toInt = 1 := by decide
    have h9 : (60 : Int32).toInt = 60 := by decide
    exact ⟨by decide, ⟨far_n h1, far_n h2⟩, by rw [h0] at y1; exact y1, by rw [h9] at y2; exact y2⟩) (fun z => absurd z (by decide))
theorem lP_addTriangle (hP : lP cm ar) {v a b a2 b2 a3 b3 : Int32} (h0 : q_addk cm ar v 3 (q_okT a b a2 b2 a3 b3) = 0) : lP (cm + 1) (q_addS cm ar v 3 (q_sh [a, b, a2, b2, a3, b3]) 6) :=
  lP_add hP h0 fun hk => BS_new hP.1 (Or.inr (Or.inr (Or.inr rfl))) (fun z => absurd z (by decide)) (fun z => absurd z (by decide)) (fun _ => by
    unfold q_okT at hk
    rw [Bool.and_eq_true, Bool.and_eq_true, Bool.and_eq_true, Bool.and_eq_true, Bool.and_eq_true] at hk
    obtain ⟨⟨⟨⟨⟨h1, h2⟩, h3⟩, h4⟩, h5⟩, h6⟩ := hk
    refine ⟨by decide, fun j hj => ?_⟩
    match j, hj with
    | 0, _ => exact far_n h1
    | 1, _ => exact far_n h2
    | 2, _ => exact far_n h3
    | 3, _ => exact far_n h4
    | 4, _ => exact far_n h5
    | 5, _ => exact far_n h6)
end LP
