/-! ===== the tree: what holds of the arrays always, and what follows ===== -/
def q_ch (ar : rA) : Nat → Nat → List Nat
  | 0, n => [n]
  | d + 1, n => if n = 0 then [0] else n :: q_ch ar d (ar 4 n).toNatClampNeg
def chn (ar : rA) (n : Nat) : List Nat := q_ch ar 40 n
def par9 (ar : rA) (n : Nat) : Nat := (ar 4 n).toNatClampNeg
def mny (ar : rA) (n : Nat) : Nat := (ar 5 n).toNatClampNeg
def kid (ar : rA) (n k : Nat) : Nat := (ar 6 (40 * n + k)).toNatClampNeg
def plc (ar : rA) (n : Nat) : Nat := q_pl ar (par9 ar n) n 40
def pre9 (ar : rA) (n : Nat) : List Nat := q_pre ar 40 n
def wf (ar : rA) (cm : Nat) : Prop :=
  (1 ≤ cm ∧ cm ≤ 40) ∧ (¬ ar 2 0 = 0 ∧ ar 3 0 = 0 ∧ ar 4 0 = -1) ∧
  (∀ n, n < cm → ¬ ar 2 n = 0 → n ≠ 0 → ∃ p : Nat, ar 4 n = nI p ∧ p < cm ∧ ¬ ar 2 p = 0 ∧ ar 3 p = 0 ∧ ∃ k, k < mny ar p ∧ ar 6 (40 * p + k) = nI n) ∧
  (∀ n, n < cm → ¬ ar 2 n = 0 → ∃ m : Nat, m ≤ 39 ∧ ar 5 n = nI m ∧ (¬ ar 3 n = 0 → m = 0) ∧ (∀ k, k < m → ∃ c : Nat, ar 6 (40 * n + k) = nI c ∧ 0 < c ∧ c < cm ∧ ¬ ar 2 c = 0 ∧ ar 4 c = nI n) ∧ ∀ i k, i < m → k < m → ar 6 (40 * n + i) = ar 6 (40 * n + k) → i = k) ∧
  (∃ dp : Nat → Nat, ∀ n, n < cm → ¬ ar 2 n = 0 → n ≠ 0 → dp (par9 ar n) < dp n) ∧
  ∀ n, cm ≤ n → ar 2 n = 0 ∧ ar 5 n = 0 ∧ ar 8 n = 0 ∧ ar 9 n = 0 ∧ ar 12 n = 0 ∧ ar 13 n = 0 ∧ ∀ j, j < 4 → ar 14 (4 * n + j) = 0
theorem q_pl_spec {ar : rA} {p n : Nat} : ∀ (m : Nat), q_pl ar p n m ≤ m ∧ (∀ i, i < q_pl ar p n m → ¬ ar 6 (40 * p + i) = nI n) ∧ (q_pl ar p n m < m → ar 6 (40 * p + q_pl ar p n m) = nI n)
  | 0 => ⟨Nat.le_refl _, fun i h => absurd h (Nat.not_lt_zero i), fun h => absurd h (Nat.lt_irrefl _)⟩
  | m + 1 => by
    obtain ⟨h1, h2, h3⟩ := q_pl_spec (ar := ar) (p := p) (n := n) m
    unfold q_pl
    by_cases c1 : q_pl ar p n m < m
    · rw [if_pos c1]
      exact ⟨by omega, h2, fun _ => h3 c1⟩
    · rw [if_neg c1]
      have e : q_pl ar p n m = m := by omega
      rw [e] at h2
      by_cases c2 : ar 6 (40 * p + m) = nI n
      · rw [if_pos c2]
        exact ⟨by omega, h2, fun _ => c2⟩
      · rw [if_neg c2]
        refine ⟨Nat.le_refl _, fun i hi => ?_, fun h => absurd h (Nat.lt_irrefl _)⟩
        rcases Nat.lt_or_ge i m with z | z
        · exact h2 i z
        · have : i = m := by omega
          subst this
          exact c2
theorem q_pl_of {ar : rA} {p n m k : Nat} (hk : k < m) (h1 : ar 6 (40 * p + k) = nI n) (h2 : ∀ i, i < k → ¬ ar 6 (40 * p + i) = nI n) : q_pl ar p n m = k := by
  obtain ⟨s1, s2, s3⟩ := q_pl_spec (ar := ar) (p := p) (n := n) m
  rcases Nat.lt_trichotomy (q_pl ar p n m) k with z | z | z
  · exact absurd (s3 (by omega)) (h2 _ z)
  · exact z
  · exact absurd h1 (s2 _ z)
theorem nd_len : ∀ (m : Nat) (l : List Nat), l.Nodup → (∀ a ∈ l, a < m) → l.length ≤ m
  | 0, l, _, h => by
    cases l with
    | nil => exact Nat.le_refl _
    | cons a t => exact absurd (h a List.mem_cons_self) (Nat.not_lt_zero a)
  | m + 1, l, hn, h => by
    by_cases hm : m ∈ l
    · have h1 := nd_len m (l.erase m) (hn.erase m) (fun a ha => by
        have h2 := (List.Nodup.mem_erase_iff hn).mp ha
        have h3 := h a h2.2
        have : a ≠ m := h2.1
        omega)
      rw [List.length_erase_of_mem hm] at h1
      omega
    · have h1 := nd_len m l hn (fun a ha => by
        have h3 := h a ha
        have : a ≠ m := fun z => hm (z ▸ ha)
        omega)
      omega
theorem q_ch_of {ar : rA} : ∀ (d n : Nat) (t : List Nat), CH ar (n :: t) → t.length ≤ d → q_ch ar d n = n :: t
  | 0, n, t, _, hd => by
    have : t = [] := List.length_eq_zero_iff.mp (by omega)
    subst this
    rfl
  | d + 1, n, t, h, hd => by
    obtain ⟨h1, h2, h3, h4⟩ := h
    unfold q_ch
    by_cases z : n = 0
    · rw [if_pos z, h2.mpr z, z]
    · rw [if_neg z]
      cases t with
      | nil => exact absurd (h2.mp rfl) z
      | cons b t' =>
        have hb := h4.1
        rw [h3]
        show n :: q_ch ar d (nI b).toNatClampNeg = _
        rw [nI_clamp (by omega), q_ch_of d b t' h4 (by simp at hd; omega)]
section TREE
variable {ar : rA} {cm : Nat}
theorem wf_up (hw : wf ar cm) : ∃ dp : Nat → Nat, ∀ n, n < cm → ¬ ar 2 n = 0 → ∃ t : List Nat, CH ar (n :: t) ∧ (∀ a ∈ n :: t, a < cm ∧ ¬ ar 2 a = 0) ∧ (∀ a ∈ t, dp a < dp n) ∧ (n :: t).Nodup := by
  obtain ⟨hcm, ⟨r1, r2, r3⟩, hup, hdn, ⟨dp, hdp⟩, hfr⟩ := hw
  refine ⟨dp, ?_⟩
  suffices K : ∀ N n, dp n = N → n < cm → ¬ ar 2 n = 0 → ∃ t : List Nat, CH ar (n :: t) ∧ (∀ a ∈ n :: t, a < cm ∧ ¬ ar 2 a = 0) ∧ (∀ a ∈ t, dp a < dp n) ∧ (n :: t).Nodup from fun n => K _ n rfl
  intro N
  induction N using Nat.strongRecOn with
  | _ N ih =>
    intro n hN hn hp
    by_cases z : n = 0
    · subst z
      refine ⟨[], ⟨by omega, ⟨fun _ => rfl, fun _ => rfl⟩, r3, trivial⟩, fun a ha => ?_, fun a ha => absurd ha List.not_mem_nil, by simp⟩
      rw [List.mem_singleton.mp ha]
      exact ⟨hn, hp⟩
    · obtain ⟨p, h4, hpc, hpp, hp3, k, hk, h6⟩ := hup n hn hp z
      have hd := hdp n hn hp z
      have hpe : par9 ar n = p := by rw [par9, h4, nI_clamp (by omega)]
      rw [hpe] at hd
      obtain ⟨t, t1, t2, t3, t4⟩ := ih (dp p) (by omega) p rfl hpc hpp
      refine ⟨p :: t, ⟨by omega, ⟨fun y => (by cases y), fun y => absurd y z⟩, h4, t1⟩, fun a ha => ?_, fun a ha => ?_, ?_⟩
      · rcases List.mem_cons.mp ha with y | y
        · rw [y]; exact ⟨hn, hp⟩
        · exact t2 a y
      · rcases List.mem_cons.mp ha with y | y
        · rw [y]; exact hd
        · exact Nat.lt_trans (t3 a y) hd
      · refine List.nodup_cons.mpr ⟨fun y => ?_, t4⟩
        rcases List.mem_cons.mp y with y | y
        · rw [← y] at hd; exact Nat.lt_irrefl _ hd
        · have := t3 n y; omega
theorem wf_at (hw : wf ar cm) {n : Nat} (hn : n < cm) (hp : ¬ ar 2 n = 0) : ∃ t : List Nat, chn ar n = n :: t ∧ CH ar (n :: t) ∧ t.length ≤ 39 ∧ (∀ a ∈ n :: t, a < cm ∧ ¬ ar 2 a = 0) ∧ (n :: t).Nodup := by
  obtain ⟨dp, h⟩ := wf_up hw
  obtain ⟨t, t1, t2, t3, t4⟩ := h n hn hp
  have hl := nd_len cm _ t4 (fun a ha => (t2 a ha).1)
  have := hw.1
  rw [List.length_cons] at hl
  exact ⟨t, q_ch_of 40 n t t1 (by omega), t1, by omega, t2, t4⟩
theorem wf_par (hw : wf ar cm) {n : Nat} (hn : n < cm) (hp : ¬ ar 2 n = 0) (h0 : n ≠ 0) : ∃ q k9 m9 : Nat, ar 4 n = nI q ∧ par9 ar n = q ∧ q < cm ∧ ¬ ar 2 q = 0 ∧ ar 3 q = 0 ∧ plc ar n = k9 ∧ ar 6 (40 * q + k9) = nI n ∧ (∀ i, i < k9 → ¬ ar 6 (40 * q + i) = nI n) ∧ ar 5 q = nI (m9 + 1) ∧ m9 ≤ 38 ∧ k9 ≤ m9 ∧ chn ar n = n :: chn ar q := by
  have hw0 := hw
  obtain ⟨hcm, ⟨r1, r2, r3⟩, hup, hdn, ⟨dp, hdp⟩, hfr⟩ := hw
  obtain ⟨q, h4, hqc, hqp, hq3, k, hk, h6⟩ := hup n hn hp h0
  have hpe : par9 ar n = q := by rw [par9, h4, nI_clamp (by omega)]
  obtain ⟨m, hm, h5, -, -, -⟩ := hdn q hqc hqp
  have hmn : mny ar q = m := by rw [mny, h5, nI_clamp (by omega)]
  rw [hmn] at hk
  obtain ⟨s1, s2, s3⟩ := q_pl_spec (ar := ar) (p := q) (n := n) 40
  have hle : q_pl ar q n 40 ≤ k := by
    rcases Nat.lt_or_ge k (q_pl ar q n 40) with z | z
    · exact absurd h6 (s2 k z)
    · exact z
  refine ⟨q, q_pl ar q n 40, m - 1, h4, hpe, hqc, hqp, hq3, by rw [plc, hpe], s3 (by omega), s2, by rw [h5]; congr 1; omega, by omega, by omega, ?_⟩
  obtain ⟨t, t1, t2, t3, t4, t5⟩ := wf_at hw0 hn hp
  obtain ⟨u1, u2, u3, u4⟩ := t2
  cases t with
  | nil => exact absurd (u2.mp rfl) h0
  | cons b t' =>
    have hb : b = q := by
      rw [h4] at u3
      exact ((nI_eq (by omega) (by have := u4.1; omega)).mp u3).symm
    subst hb
    rw [t1, chn, q_ch_of 40 b t' u4 (by simp at t3; omega)]
theorem wf_mny (hw : wf ar cm) {n : Nat} (hn : n < cm) (hp : ¬ ar 2 n = 0) : ∃ m : Nat, mny ar n = m ∧ m ≤ 39 ∧ ar 5 n = nI m ∧ (¬ ar 3 n = 0 → m = 0) ∧ ∀ k, k < m → ∃ c : Nat, kid ar n k = c ∧ ar 6 (40 * n + k) = nI c ∧ 0 < c ∧ c < cm ∧ ¬ ar 2 c = 0 ∧ ar 4 c = nI n ∧ plc ar c = k := by
  obtain ⟨hcm, ⟨r1, r2, r3⟩, hup, hdn, ⟨dp, hdp⟩, hfr⟩ := hw
  obtain ⟨m, hm, h5, h3, hk, hi⟩ := hdn n hn hp
  refine ⟨m, by rw [mny, h5, nI_clamp (by omega)], hm, h5, h3, fun k hkm => ?_⟩
  obtain ⟨c, c1, c2, c3, c4, c5⟩ := hk k hkm
  refine ⟨c, by rw [kid, c1, nI_clamp (by omega)], c1, c2, c3, c4, c5, ?_⟩
  rw [plc, par9, c5, nI_clamp (by omega)]
  refine q_pl_of (by omega) c1 (fun i hik z => ?_)
  have := hi i k (by omega) hkm (z.trans c1.symm)
  omega
theorem wf_root (hw : wf ar cm) : 0 < cm ∧ ¬ ar 2 0 = 0 := ⟨hw.1.1, hw.2.1.1⟩
theorem wf_chl (hw : wf ar cm) {n : Nat} (hn : n < cm) (hp : ¬ ar 2 n = 0) : (chn ar n).length ≤ 40 := by
  obtain ⟨t, t1, t2, t3, t4, t5⟩ := wf_at hw hn hp
  rw [t1, List.length_cons]
  omega
theorem wf_tr (hw : wf ar cm) : ∀ (d n : Nat), n < cm → ¬ ar 2 n = 0 → 41 ≤ d + (chn ar n).length → TR ar d n
  | 0, n, hn, hp, hd => by
    have := wf_chl hw hn hp
    omega
  | d + 1, n, hn, hp, hd => by
    obtain ⟨m, m1, m2, m3, m4, m5⟩ := wf_mny hw hn hp
    have := hw.1
    refine ⟨by omega, m, m2, m3, fun k hk => ?_⟩
    obtain ⟨c, c1, c2, c3, c4, c5, c6, c7⟩ := m5 k hk
    obtain ⟨q, k9, m9, a1, a2, a3, a4, a5, a6, a7, a8, a9, a10, a11, a12⟩ := wf_par hw c4 c5 (by omega)
    have hqn : q = n := by
      rw [c6] at a1
      exact ((nI_eq (by omega) (by omega)).mp a1).symm
    rw [hqn] at a12
    exact ⟨c, c2, by omega, wf_tr hw d c c4 c5 (by rw [a12, List.length_cons]; omega)⟩
theorem wf_tr40 (hw : wf ar cm) {n : Nat} (hn : n < cm) (hp : ¬ ar 2 n = 0) : TR ar 40 n := by
  obtain ⟨t, t1, -⟩ := wf_at hw hn hp
  exact wf_tr hw 40 n hn hp (by rw [t1, List.length_cons]; omega)
theorem wf_kid (hw : wf ar cm) {n k : Nat} (hn : n < cm) (hp : ¬ ar 2 n = 0) (hk : k < mny ar n) : kid ar n k < cm ∧ ¬ ar 2 (kid ar n k) = 0 ∧ 0 < kid ar n k ∧ ar 6 (40 * n + k) = nI (kid ar n k) ∧ ar 4 (kid ar n k) = nI n ∧ plc ar (kid ar n k) = k ∧ par9 ar (kid ar n k) = n ∧ chn ar (kid ar n k) = kid ar n k :: chn ar n := by
  obtain ⟨m, m1, m2, m3, m4, m5⟩ := wf_mny hw hn hp
  rw [m1] at hk
  obtain ⟨c, c1, c2, c3, c4, c5, c6, c7⟩ := m5 k hk
  have := hw.1
  subst c1
  have hpn : par9 ar (kid ar n k) = n := by rw [par9, c6, nI_clamp (by omega)]
  obtain ⟨q, k9, m9, a1, a2, a3, a4, a5, a6, a7, a8, a9, a10, a11, a12⟩ := wf_par hw c4 c5 (by omega)
  rw [← a2, hpn] at a12
  exact ⟨c4, c5, c3, c2, c6, c7, hpn, a12⟩
theorem q_pre_st : ∀ (d n : Nat), TR ar d n → q_pre ar (d + 1) n = q_pre ar d n
  | 0, _, h => h.elim
  | d + 1, n, h => by
    obtain ⟨h1, m, h2, h3, h4⟩ := h
    have key : ∀ k, k ≤ m → q_kp ar (d + 1) n k = q_kp ar d n k := by
      intro k
      induction k with
      | zero => intro _; rfl
      | succ k ih =>
        intro hk
        obtain ⟨c, c1, c2, c3⟩ := h4 k (by omega)
        rw [q_kp_s, q_kp_s, ih (by omega), c1, nI_clamp (by omega), q_pre_st d c c3]
    rw [q_pre_s ar (d + 1) n h3 h2, q_pre_s ar d n h3 h2, key m (Nat.le_refl _)]
theorem q_pre_up {d n : Nat} (h : TR ar d n) : ∀ j, TR ar (d + j) n ∧ q_pre ar (d + j) n = q_pre ar d n := by
  have trs : ∀ (d n : Nat), TR ar d n → TR ar (d + 1) n := by
    intro d
    induction d with
    | zero => intro n h; exact h.elim
    | succ d ih =>
      intro n h
      obtain ⟨h1, m, h2, h3, h4⟩ := h
      refine ⟨h1, m, h2, h3, fun k hk => ?_⟩
      obtain ⟨c, c1, c2, c3⟩ := h4 k hk
      exact ⟨c, c1, c2, ih c c3⟩
  intro j
  induction j with
  | zero => exact ⟨h, rfl⟩
  | succ j ih =>
    obtain ⟨i1, i2⟩ := ih
    exact ⟨trs _ _ i1, by rw [← Nat.add_assoc, q_pre_st _ _ i1, i2]⟩
theorem q_pre_eq {d d2 n : Nat} (h : TR ar d n) (hd : d ≤ d2) : q_pre ar d2 n = q_pre ar d n := by
  obtain ⟨j, rfl⟩ : ∃ j, d2 = d + j := ⟨d2 - d, by omega⟩
  exact (q_pre_up h j).2
theorem wf_pre39 (hw : wf ar cm) {n k : Nat} (hn : n < cm) (hp : ¬ ar 2 n = 0) (hk : k < mny ar n) : q_pre ar 39 (kid ar n k) = pre9 ar (kid ar n k) := by
  obtain ⟨h1, h2, h3, h4, h5, h6, h7, h8⟩ := wf_kid hw hn hp hk
  obtain ⟨t, t1, -⟩ := wf_at hw hn hp
  have ht := wf_tr hw 39 (kid ar n k) h1 h2 (by rw [h8, t1]; simp only [List.length_cons]; omega)
  exact (q_pre_eq ht (show 39 ≤ 40 by decide)).symm
/-- the first k children with all below them -/
def pks (ar : rA) (n k : Nat) : List Nat := ((List.range k).map (kid ar n)).flatMap (pre9 ar)
theorem pks_0 (ar : rA) (n : Nat) : pks ar n 0 = [] := rfl
theorem pks_s (ar : rA) (n k : Nat) : pks ar n (k + 1) = pks ar n k ++ pre9 ar (kid ar n k) := by
  unfold pks
  rw [List.range_succ, List.map_append, List.flatMap_append]
  simp
theorem q_pre_s2 {d d2 n m9 : Nat} (hd : d2 = d + 1) (hm : ar 5 n = nI m9) (h39 : m9 ≤ 39) : q_pre ar d2 n = n :: q_kp ar d n m9 := by
  subst hd
  exact q_pre_s ar d n hm h39
theorem wf_pre (hw : wf ar cm) {n : Nat} (hn : n < cm) (hp : ¬ ar 2 n = 0) : pre9 ar n = n :: pks ar n (mny ar n) := by
  obtain ⟨m, m1, m2, m3, -, -⟩ := wf_mny hw hn hp
  rw [pre9, q_pre_s2 (show 40 = 39 + 1 by decide) m3 m2, m1]
  have key : ∀ k, k ≤ mny ar n → q_kp ar 39 n k = pks ar n k := by
    intro k
    induction k with
    | zero => intro _; rw [q_kp_0, pks_0]
    | succ k ih =>
      intro hk
      have h9 : q_pre ar 39 (ar 6 (40 * n + k)).toNatClampNeg = pre9 ar (kid ar n k) := wf_pre39 hw hn hp (by omega)
      rw [q_kp_s, pks_s, ih (by omega), h9]
  rw [key m (by omega)]
end TREE
theorem wf_place {ar : rA} {cm : Nat} (hw : wf ar cm) {n : Nat} (hn : n < cm) (hp : ¬ ar 2 n = 0) (h0 : ¬ n = 0) : par9 ar n < 40 ∧ ar 4 n = nI (par9 ar n) ∧ plc ar n < 40 ∧ ar 6 (40 * par9 ar n + plc ar n) = nI n ∧ ∀ i, i < plc ar n → ¬ ar 6 (40 * par9 ar n + i) = nI n := by
  obtain ⟨q, k9, m9, a1, a2, a3, a4, a5, a6, a7, a8, a9, a10, a11, a12⟩ := wf_par hw hn hp h0
  have := hw.1
  subst a2; subst a6
  exact ⟨by omega, a1, by omega, a7, a8⟩
theorem wf_hmn {ar : rA} {cm : Nat} (hw : wf ar cm) : ∀ j, j < cm → ¬ ar 2 j = 0 → ∃ m9 : Nat, ar 5 j = nI m9 ∧ m9 ≤ 39 := by
  intro j hj hp
  obtain ⟨m, m1, m2, m3, -, -⟩ := wf_mny hw hj hp
  exact ⟨m, m3, m2⟩

