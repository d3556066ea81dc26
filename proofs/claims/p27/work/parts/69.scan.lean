/-! ===== rows of pixels: who shows where, as bits, up and down the tree ===== -/
section SCAN
variable {ar : rA} {cm : Nat}
theorem kid_iff (hw : wf ar cm) {n c : Nat} (hn : cP ar cm n) : c ∈ kids ar n ↔ cP ar cm c ∧ c ≠ 0 ∧ par9 ar c = n := by
  rw [mem_kids]
  constructor
  · rintro ⟨k, hk, rfl⟩
    obtain ⟨k1, k2, k3, k4, k5, k6, k7, k8⟩ := wf_kid hw hn.1 hn.2 hk
    exact ⟨⟨k1, k2⟩, by omega, k7⟩
  · rintro ⟨hc, h0, hp⟩
    obtain ⟨q, k9, m9, a1, a2, a3, a4, a5, a6, a7, a8, a9, a10, a11, a12⟩ := wf_par hw hc.1 hc.2 h0
    have hqn : q = n := by rw [← a2, hp]
    have h40 := hw.1.2
    have hc1 := hc.1
    rw [hqn] at a7 a9
    exact ⟨k9, by rw [mny, a9, nI_clamp (by omega)]; omega, by rw [kid, a7, nI_clamp (by omega)]⟩
theorem up_rec (hw : wf ar cm) {n : Nat} (hn : cP ar cm n) (f : Nat → Bool) : (pre9 ar n).any f = (f n || (kids ar n).any (fun c => (pre9 ar c).any f)) := by
  rw [wf_pre hw hn.1 hn.2, List.any_cons, ← od_kids, List.any_flatMap]
/-- parents come first -/
theorem od_pf (hw : wf ar cm) : ∀ n, n < cm → ¬ ar 2 n = 0 → ∀ (l1 : List Nat) (c : Nat) (l2 : List Nat), pre9 ar n = l1 ++ c :: l2 → c ≠ n → par9 ar c ∈ l1 := by
  refine wf_dn hw (fun n hn hp ih l1 c l2 e hc => ?_)
  rw [wf_pre hw hn hp] at e
  cases l1 with
  | nil => exact absurd (List.cons.inj e).1.symm hc
  | cons b t =>
    obtain ⟨e1, e2⟩ := List.cons.inj e
    rw [← e1]
    have key : ∀ k, k ≤ mny ar n → ∀ (t l2 : List Nat), pks ar n k = t ++ c :: l2 → par9 ar c ∈ n :: t := by
      intro k
      induction k with
      | zero =>
        intro _ t l2 e
        rw [pks_0] at e
        exact absurd e.symm (by simp)
      | succ k ihk =>
        intro hk t l2 e
        by_cases hck : c = kid ar n k
        · rw [hck, (wf_kid hw hn hp (show k < mny ar n by omega)).2.2.2.2.2.2.1]
          exact List.mem_cons_self
        · rw [pks_s] at e
          rcases List.append_eq_append_iff.mp e with ⟨a', h1, h2⟩ | ⟨c', h1, h2⟩
          · have := ih k (by omega) a' c l2 h2 hck
            rw [h1]
            exact List.mem_cons_of_mem _ (List.mem_append_right _ this)
          · obtain ⟨k1, k2, -⟩ := wf_kid hw hn hp (show k < mny ar n by omega)
            rw [wf_pre hw k1 k2] at h2
            cases c' with
            | nil => exact absurd (List.cons.inj h2).1 hck
            | cons d c'' =>
              obtain ⟨d1, d2⟩ := List.cons.inj h2
              rw [← d1] at h1
              exact ihk (by omega) t c'' h1
    exact key _ (Nat.le_refl _) t l2 e2
theorem od_getD {L : List Nat} {i : Nat} (hi : i < L.length) : L = L.take i ++ L.getD i 0 :: L.drop (i + 1) := by
  rw [List.getD_eq_getElem?_getD, List.getElem?_eq_getElem hi]
  show L = L.take i ++ L[i] :: L.drop (i + 1)
  rw [List.getElem_cons_drop, List.take_append_drop]
theorem od_par (hw : wf ar cm) {i : Nat} (hi : i < (pre9 ar 0).length) (h0 : (pre9 ar 0).getD i 0 ≠ 0) : par9 ar ((pre9 ar 0).getD i 0) ∈ (pre9 ar 0).take i := by
  have hr := wf_root hw
  exact od_pf hw 0 hr.1 hr.2 _ _ _ (od_getD hi) h0
theorem od_nd (hw : wf ar cm) {i : Nat} (hi : i < (pre9 ar 0).length) : (pre9 ar 0).getD i 0 ∉ (pre9 ar 0).take i := by
  have hr := wf_root hw
  have h := wf_pre_nd hw 0 hr.1 hr.2
  rw [od_getD hi, List.nodup_append] at h
  intro z
  exact h.2.2 _ z _ List.mem_cons_self rfl
theorem od_kin (hw : wf ar cm) {i c : Nat} (hi : i < (pre9 ar 0).length) (hc : cP ar cm c) (h0 : c ≠ 0) (hp : par9 ar c = (pre9 ar 0).getD i 0) : c ∈ (pre9 ar 0).drop (i + 1) := by
  have hr := wf_root hw
  have h := wf_pre_nd hw 0 hr.1 hr.2
  obtain ⟨l1, l2, e⟩ := List.append_of_mem (od_all hw hc)
  have hm := od_pf hw 0 hr.1 hr.2 l1 c l2 e h0
  have hlt : i < l1.length := by
    rcases Nat.lt_or_ge i l1.length with z | z
    · exact z
    · exfalso
      rw [e, List.nodup_append] at h
      refine h.2.2 _ hm ((pre9 ar 0).getD i 0) ?_ hp
      rw [e] at hi ⊢
      rw [List.getD_eq_getElem?_getD, List.getElem?_append_right z]
      rw [List.length_append] at hi
      rw [List.getElem?_eq_getElem (show i - l1.length < (c :: l2).length by omega)]
      exact List.getElem_mem _
  rw [e, List.drop_append_of_le_length (by omega)]
  exact List.mem_append_right _ List.mem_cons_self
/-- what has been taken in from below, from place i on -/
def q_bk (ar : rA) (f : Nat → Bool) (i n : Nat) : Bool := f n || ((pre9 ar 0).drop i).any (fun c => decide (c ≠ 0) && decide (par9 ar c = n) && (pre9 ar c).any f)
theorem bk_end {f : Nat → Bool} {n : Nat} : q_bk ar f (pre9 ar 0).length n = f n := by
  unfold q_bk
  rw [List.drop_length, List.any_nil, Bool.or_false]
theorem bk_s {f : Nat → Bool} {i n : Nat} (hi : i < (pre9 ar 0).length) : q_bk ar f i n = (q_bk ar f (i + 1) n || (decide ((pre9 ar 0).getD i 0 ≠ 0) && decide (par9 ar ((pre9 ar 0).getD i 0) = n) && (pre9 ar ((pre9 ar 0).getD i 0)).any f)) := by
  unfold q_bk
  have e : (pre9 ar 0).drop i = (pre9 ar 0).getD i 0 :: (pre9 ar 0).drop (i + 1) := by
    rw [List.drop_eq_getElem_cons hi, List.getD_eq_getElem?_getD, List.getElem?_eq_getElem hi]
    rfl
  rw [e, List.any_cons, Bool.or_assoc]
  congr 1
  exact Bool.or_comm _ _
/-- a node's own place: all below it has been taken in -/
theorem bk_own (hw : wf ar cm) {f : Nat → Bool} {i j : Nat} (hi : i < (pre9 ar 0).length) (hj : j ≤ i + 1) : q_bk ar f j ((pre9 ar 0).getD i 0) = (pre9 ar ((pre9 ar 0).getD i 0)).any f := by
  have hr := wf_root hw
  have hn := wf_preL hw hr.1 hr.2 i hi
  rw [up_rec hw hn f]
  unfold q_bk
  congr 1
  rw [Bool.eq_iff_iff, List.any_eq_true, List.any_eq_true]
  constructor
  · rintro ⟨c, h1, h2⟩
    rw [Bool.and_eq_true, Bool.and_eq_true, decide_eq_true_eq, decide_eq_true_eq] at h2
    have hc := wf_pre_ch hw 0 hr.1 hr.2 c (List.mem_of_mem_drop h1)
    exact ⟨c, (kid_iff hw hn).mpr ⟨⟨hc.1, hc.2.1⟩, h2.1.1, h2.1.2⟩, h2.2⟩
  · rintro ⟨c, h1, h2⟩
    obtain ⟨hc, h0, hp⟩ := (kid_iff hw hn).mp h1
    refine ⟨c, ?_, ?_⟩
    · have h9 := od_kin hw hi hc h0 hp
      have e : (pre9 ar 0).drop (i + 1) = ((pre9 ar 0).drop j).drop (i + 1 - j) := by
        rw [List.drop_drop]
        congr 1
        omega
      rw [e] at h9
      exact List.mem_of_mem_drop h9
    · rw [Bool.and_eq_true, Bool.and_eq_true, decide_eq_true_eq, decide_eq_true_eq]
      exact ⟨⟨h0, hp⟩, h2⟩
theorem od_ix (hw : wf ar cm) {n : Nat} (hn : cP ar cm n) : ∃ i, i < (pre9 ar 0).length ∧ (pre9 ar 0).getD i 0 = n := by
  obtain ⟨i, hi, e⟩ := List.getElem_of_mem (od_all hw hn)
  exact ⟨i, hi, by rw [List.getD_eq_getElem?_getD, List.getElem?_eq_getElem hi]; exact e⟩
theorem bk_0 (hw : wf ar cm) {f : Nat → Bool} {n : Nat} (hn : cP ar cm n) : q_bk ar f 0 n = (pre9 ar n).any f := by
  obtain ⟨i, hi, rfl⟩ := od_ix hw hn
  exact bk_own hw hi (Nat.zero_le _)
/-- which of a node's row is let through to it, and to what is below it -/
def q_opn (ar : rA) (n : Nat) (px py : Int32) : Bool := (chn ar n).all (q_okA ar n px py)
def q_opf (ar : rA) (n : Nat) (px py : Int32) : Bool := q_opn ar n px py && (match q_mk ar n with | none => true | some c => q_inT ar c px py)
theorem opn_s (hw : wf ar cm) {n : Nat} (hn : cP ar cm n) (h0 : n ≠ 0) (px py : Int32) : q_opn ar n px py = ((decide (ar 12 n = 0) && !(q_isM ar n) && q_clpA ar px py n) && q_opf ar (par9 ar n) px py) := by
  obtain ⟨c1, c2, c3⟩ := wf_chp hw hn.1 hn.2 h0
  obtain ⟨q, k9, m9, a1, a2, a3, a4, a5, a6, a7, a8, a9, a10, a11, a12⟩ := wf_par hw hn.1 hn.2 h0
  have hm : mny ar (par9 ar n) ≠ 0 := by
    have h40 := hw.1.2
    rw [a2, mny, a9, nI_clamp (by omega)]
    omega
  have hnd := wf_nd hw hn.1 hn.2
  rw [c1] at hnd
  have hnn := (List.nodup_cons.mp hnd).1
  obtain ⟨t, t1, -, -, -, t5⟩ := wf_at hw c2 c3
  unfold q_opf q_opn
  rw [c1, List.all_cons]
  have e1 : q_okA ar n px py n = (decide (ar 12 n = 0) && !(q_isM ar n) && q_clpA ar px py n) := by
    unfold q_okA q_mskA
    simp
  rw [e1]
  refine congrArg (and _) ?_
  rw [t1] at hnn ⊢
  have hpn : par9 ar n ≠ n := fun z => hnn (by rw [z]; exact List.mem_cons_self)
  rw [List.all_cons, List.all_cons]
  have e2 : q_okA ar n px py (par9 ar n) = (q_okA ar (par9 ar n) px py (par9 ar n) && (match q_mk ar (par9 ar n) with | none => true | some c => q_inT ar c px py)) := by
    unfold q_okA q_mskA q_mk
    by_cases h13 : ar 13 (par9 ar n) = 0
    · simp [h13, hpn]
    · simp [h13, hpn, hm]
  have e3 : t.all (q_okA ar n px py) = t.all (q_okA ar (par9 ar n) px py) := by
    rw [Bool.eq_iff_iff, List.all_eq_true, List.all_eq_true]
    have hh : ∀ a ∈ t, q_okA ar n px py a = q_okA ar (par9 ar n) px py a := by
      intro a ha
      have z1 : a ≠ n := fun z => hnn (by rw [← z]; exact List.mem_cons_of_mem _ ha)
      have z2 : a ≠ par9 ar n := fun z => (List.nodup_cons.mp t5).1 (by rw [← z]; exact ha)
      unfold q_okA q_mskA
      simp [z1, z2]
    exact ⟨fun z a ha => by rw [← hh a ha]; exact z a ha, fun z a ha => by rw [hh a ha]; exact z a ha⟩
  rw [e2, e3]
  cases q_okA ar (par9 ar n) px py (par9 ar n) <;> cases t.all (q_okA ar (par9 ar n) px py) <;> simp
theorem opn_0 (hw : wf ar cm) (px py : Int32) : q_opn ar 0 px py = (decide (ar 12 0 = 0) && !(q_isM ar 0) && q_clpA ar px py 0) := by
  unfold q_opn
  rw [wf_ch0 hw]
  unfold q_okA q_mskA
  simp
theorem shown_opn (hw : wf ar cm) {n : Nat} (hn : cP ar cm n) (px py : Int32) : q_shown ar n px py = if ar 3 n = 0 then false else (q_opn ar n px py && q_inT ar n px py) := by
  unfold q_shown
  by_cases h3 : ar 3 n = 0
  · rw [if_pos h3]
    simp [q_sS, h3]
  · rw [if_neg h3, q_pre_sh hw hn.1 hn.2 h3]
    unfold q_opn q_sS
    simp [h3, Bool.and_comm]
theorem isM_mk (hw : wf ar cm) {n : Nat} (hn : cP ar cm n) : q_isM ar n = decide ((if n = 0 then none else some (par9 ar n)).bind (q_mk ar) = some n) := by
  by_cases h0 : n = 0
  · rw [if_pos h0]
    simp [q_isM, h0]
  · rw [if_neg h0]
    obtain ⟨q, k9, m9, a1, a2, a3, a4, a5, a6, a7, a8, a9, a10, a11, a12⟩ := wf_par hw hn.1 hn.2 h0
    have h40 := hw.1.2
    have hn1 := hn.1
    have hm : mny ar (par9 ar n) = m9 + 1 := by rw [a2, mny, a9, nI_clamp (by omega)]
    have hk := wf_kid hw (n := par9 ar n) (k := 0) (by rw [a2]; exact a3) (by rw [a2]; exact a4) (by omega)
    show q_isM ar n = decide (q_mk ar (par9 ar n) = some n)
    unfold q_isM q_mk
    have e : (ar 6 (40 * par9 ar n) = nI n) ↔ kid ar (par9 ar n) 0 = n := by
      have z := hk.2.2.2.1
      rw [Nat.add_zero] at z
      rw [z]
      exact nI_eq (by have := hk.1; omega) (by omega)
    by_cases h13 : ar 13 (par9 ar n) = 0
    · simp [h13]
    · simp [h0, h13, hm, e]
/-- the bits of a scanned row -/
def SC (ar : rA) (cm : Nat) (nl : Nat → Nat → Int64) (j y : Nat) (f : Nat → Int32 → Int32 → Bool) : Prop := ∀ n, cP ar cm n → ∀ x, x < 64 → bL (nl j n) x = f n (nI x) (nI y)
end SCAN
