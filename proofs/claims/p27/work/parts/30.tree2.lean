/-! ===== who is below whom ===== -/
theorem mem_pks {ar : rA} {n k x : Nat} : x ∈ pks ar n k ↔ ∃ i, i < k ∧ x ∈ pre9 ar (kid ar n i) := by
  unfold pks
  simp only [List.mem_flatMap, List.mem_map, List.mem_range]
  constructor
  · rintro ⟨c, ⟨i, hi, rfl⟩, hx⟩
    exact ⟨i, hi, hx⟩
  · rintro ⟨i, hi, hx⟩
    exact ⟨_, ⟨i, hi, rfl⟩, hx⟩
section TREE2
variable {ar : rA} {cm : Nat}
theorem wf_self (hw : wf ar cm) {x : Nat} (hx : x < cm) (hp : ¬ ar 2 x = 0) : x ∈ chn ar x := by
  obtain ⟨t, t1, -⟩ := wf_at hw hx hp
  rw [t1]
  exact List.mem_cons_self
theorem wf_all (hw : wf ar cm) {x a : Nat} (hx : x < cm) (hp : ¬ ar 2 x = 0) (ha : a ∈ chn ar x) : a < cm ∧ ¬ ar 2 a = 0 := by
  obtain ⟨t, t1, t2, t3, t4, t5⟩ := wf_at hw hx hp
  rw [t1] at ha
  exact t4 a ha
theorem wf_chp (hw : wf ar cm) {x : Nat} (hx : x < cm) (hp : ¬ ar 2 x = 0) (h0 : x ≠ 0) : chn ar x = x :: chn ar (par9 ar x) ∧ par9 ar x < cm ∧ ¬ ar 2 (par9 ar x) = 0 := by
  obtain ⟨q, k9, m9, a1, a2, a3, a4, a5, a6, a7, a8, a9, a10, a11, a12⟩ := wf_par hw hx hp h0
  subst a2
  exact ⟨a12, a3, a4⟩
theorem wf_ch0 (hw : wf ar cm) : chn ar 0 = [0] := by
  obtain ⟨t, t1, t2, -⟩ := wf_at hw hw.1.1 hw.2.1.1
  rw [t1, t2.2.1.mpr rfl]
theorem wf_nd (hw : wf ar cm) {x : Nat} (hx : x < cm) (hp : ¬ ar 2 x = 0) : (chn ar x).Nodup := by
  obtain ⟨t, t1, t2, t3, t4, t5⟩ := wf_at hw hx hp
  rw [t1]
  exact t5
/-- ways up: by the length of the way -/
theorem wf_ind (hw : wf ar cm) {P : Nat → Prop} (h0 : P 0) (hs : ∀ x, x < cm → ¬ ar 2 x = 0 → x ≠ 0 → P (par9 ar x) → P x) : ∀ x, x < cm → ¬ ar 2 x = 0 → P x := by
  suffices K : ∀ N x, (chn ar x).length = N → x < cm → ¬ ar 2 x = 0 → P x from fun x => K _ x rfl
  intro N
  induction N with
  | zero =>
    intro x hN hx hp
    obtain ⟨t, t1, -⟩ := wf_at hw hx hp
    rw [t1] at hN
    cases hN
  | succ N ih =>
    intro x hN hx hp
    by_cases z : x = 0
    · rw [z]; exact h0
    · obtain ⟨c1, c2, c3⟩ := wf_chp hw hx hp z
      rw [c1, List.length_cons] at hN
      exact hs x hx hp z (ih _ (by omega) c2 c3)
theorem wf_ch_sub (hw : wf ar cm) {c : Nat} : ∀ x, x < cm → ¬ ar 2 x = 0 → c ∈ chn ar x → ∀ b ∈ chn ar c, b ∈ chn ar x := by
  refine wf_ind hw ?_ ?_
  · intro hc
    rw [wf_ch0 hw, List.mem_singleton] at hc
    rw [hc]
    exact fun b hb => hb
  · intro x hx hp h0 ih hc b hb
    obtain ⟨c1, c2, c3⟩ := wf_chp hw hx hp h0
    rw [c1] at hc
    rcases List.mem_cons.mp hc with y | y
    · rw [← y]; exact hb
    · rw [c1]
      exact List.mem_cons_of_mem _ (ih y b hb)
theorem wf_ch_cmp (hw : wf ar cm) {a b : Nat} : ∀ x, x < cm → ¬ ar 2 x = 0 → a ∈ chn ar x → b ∈ chn ar x → a ∈ chn ar b ∨ b ∈ chn ar a := by
  refine wf_ind hw ?_ ?_
  · intro ha hb
    have hr := wf_root hw
    rw [wf_ch0 hw, List.mem_singleton] at ha hb
    rw [ha, hb]
    exact Or.inl (wf_self hw hr.1 hr.2)
  · intro x hx hp h0 ih ha hb
    obtain ⟨c1, c2, c3⟩ := wf_chp hw hx hp h0
    have ha' := ha
    have hb' := hb
    rw [c1] at ha hb
    rcases List.mem_cons.mp ha with y | y
    · rw [y]; exact Or.inr hb'
    · rcases List.mem_cons.mp hb with y2 | y2
      · rw [y2]; exact Or.inl ha'
      · exact ih y y2
theorem wf_kids_not (hw : wf ar cm) {n k : Nat} (hn : n < cm) (hp : ¬ ar 2 n = 0) (hk : k < mny ar n) : kid ar n k ∉ chn ar n := by
  obtain ⟨k1, k2, k3, k4, k5, k6, k7, k8⟩ := wf_kid hw hn hp hk
  have h := wf_nd hw k1 k2
  rw [k8] at h
  exact (List.nodup_cons.mp h).1
/-- down the tree: by what is left of the height -/
theorem wf_dn (hw : wf ar cm) {P : Nat → Prop} (hs : ∀ n, n < cm → ¬ ar 2 n = 0 → (∀ k, k < mny ar n → P (kid ar n k)) → P n) : ∀ n, n < cm → ¬ ar 2 n = 0 → P n := by
  suffices K : ∀ N n, 40 - (chn ar n).length = N → n < cm → ¬ ar 2 n = 0 → P n from fun n => K _ n rfl
  intro N
  induction N using Nat.strongRecOn with
  | _ N ih =>
    intro n hN hn hp
    refine hs n hn hp (fun k hk => ?_)
    obtain ⟨k1, k2, k3, k4, k5, k6, k7, k8⟩ := wf_kid hw hn hp hk
    have h1 := wf_chl hw k1 k2
    rw [k8, List.length_cons] at h1
    exact ih (40 - (chn ar (kid ar n k)).length) (by rw [k8, List.length_cons]; omega) _ rfl k1 k2
theorem wf_pre_ch (hw : wf ar cm) : ∀ n, n < cm → ¬ ar 2 n = 0 → ∀ x ∈ pre9 ar n, x < cm ∧ ¬ ar 2 x = 0 ∧ n ∈ chn ar x := by
  refine wf_dn hw (fun n hn hp ih x hx => ?_)
  rw [wf_pre hw hn hp] at hx
  rcases List.mem_cons.mp hx with y | y
  · rw [y]; exact ⟨hn, hp, wf_self hw hn hp⟩
  · obtain ⟨i, hi, hx⟩ := mem_pks.mp y
    obtain ⟨h1, h2, h3⟩ := ih i hi x hx
    obtain ⟨k1, k2, k3, k4, k5, k6, k7, k8⟩ := wf_kid hw hn hp hi
    refine ⟨h1, h2, wf_ch_sub hw x h1 h2 h3 n ?_⟩
    rw [k8]
    exact List.mem_cons_of_mem _ (wf_self hw hn hp)
theorem wf_pre_hd (hw : wf ar cm) {n : Nat} (hn : n < cm) (hp : ¬ ar 2 n = 0) : n ∈ pre9 ar n := by
  rw [wf_pre hw hn hp]
  exact List.mem_cons_self
theorem wf_pre_kid (hw : wf ar cm) {q k : Nat} (hk : k < mny ar q) : ∀ n, n < cm → ¬ ar 2 n = 0 → q ∈ pre9 ar n → kid ar q k ∈ pre9 ar n := by
  refine wf_dn hw (fun n hn hp ih hq => ?_)
  rw [wf_pre hw hn hp] at hq ⊢
  rcases List.mem_cons.mp hq with y | y
  · subst y
    obtain ⟨k1, k2, -⟩ := wf_kid hw hn hp hk
    exact List.mem_cons_of_mem _ (mem_pks.mpr ⟨k, hk, wf_pre_hd hw k1 k2⟩)
  · obtain ⟨i, hi, hx⟩ := mem_pks.mp y
    exact List.mem_cons_of_mem _ (mem_pks.mpr ⟨i, hi, ih i hi hx⟩)
theorem wf_ch_pre (hw : wf ar cm) {n : Nat} (hn : n < cm) (hp : ¬ ar 2 n = 0) : ∀ x, x < cm → ¬ ar 2 x = 0 → n ∈ chn ar x → x ∈ pre9 ar n := by
  refine wf_ind hw ?_ ?_
  · intro h
    rw [wf_ch0 hw, List.mem_singleton] at h
    rw [← h]
    exact wf_pre_hd hw hn hp
  · intro x hx hpx h0 ih h
    obtain ⟨q, k9, m9, a1, a2, a3, a4, a5, a6, a7, a8, a9, a10, a11, a12⟩ := wf_par hw hx hpx h0
    rw [a12] at h
    rcases List.mem_cons.mp h with y | y
    · rw [y]; exact wf_pre_hd hw hx hpx
    · have hq := ih (by rw [a2]; exact y)
      rw [a2] at hq
      have hcm := hw.1
      have hm : mny ar q = m9 + 1 := by rw [mny, a9, nI_clamp (by omega)]
      have hkk : kid ar q k9 = x := by rw [kid, a7, nI_clamp (by omega)]
      rw [← hkk]
      exact wf_pre_kid hw (by omega) n hn hp hq
theorem wf_pre_nd (hw : wf ar cm) : ∀ n, n < cm → ¬ ar 2 n = 0 → (pre9 ar n).Nodup := by
  refine wf_dn hw (fun n hn hp ih => ?_)
  rw [wf_pre hw hn hp]
  refine List.nodup_cons.mpr ⟨fun h => ?_, ?_⟩
  · obtain ⟨i, hi, hx⟩ := mem_pks.mp h
    obtain ⟨k1, k2, -⟩ := wf_kid hw hn hp hi
    exact wf_kids_not hw hn hp hi (wf_pre_ch hw _ k1 k2 n hx).2.2
  · suffices K : ∀ k, k ≤ mny ar n → (pks ar n k).Nodup from K _ (Nat.le_refl _)
    intro k
    induction k with
    | zero => intro _; rw [pks_0]; exact List.nodup_nil
    | succ k ihk =>
      intro hk
      rw [pks_s]
      obtain ⟨k1, k2, k3, k4, k5, k6, k7, k8⟩ := wf_kid hw hn hp (show k < mny ar n by omega)
      refine List.nodup_append.mpr ⟨ihk (by omega), ih k (by omega), fun x hx y hy hxy => ?_⟩
      subst hxy
      obtain ⟨i, hi, hx⟩ := mem_pks.mp hx
      obtain ⟨i1, i2, i3, i4, i5, i6, i7, i8⟩ := wf_kid hw hn hp (show i < mny ar n by omega)
      obtain ⟨u1, u2, u3⟩ := wf_pre_ch hw _ i1 i2 x hx
      obtain ⟨v1, v2, v3⟩ := wf_pre_ch hw _ k1 k2 x hy
      have ne : kid ar n i ≠ kid ar n k := by
        intro z
        rw [z, k6] at i6
        omega
      rcases wf_ch_cmp hw x u1 u2 u3 v3 with z | z
      · rw [k8] at z
        rcases List.mem_cons.mp z with z | z
        · exact ne z
        · exact wf_kids_not hw hn hp (by omega) z
      · rw [i8] at z
        rcases List.mem_cons.mp z with z | z
        · exact ne z.symm
        · exact wf_kids_not hw hn hp (by omega) z
theorem wf_pre_len (hw : wf ar cm) {n : Nat} (hn : n < cm) (hp : ¬ ar 2 n = 0) : (pre9 ar n).length ≤ cm := nd_len cm _ (wf_pre_nd hw n hn hp) (fun a ha => (wf_pre_ch hw n hn hp a ha).1)
theorem wf_pre40 (hw : wf ar cm) {n : Nat} (hn : n < cm) (hp : ¬ ar 2 n = 0) : (pre9 ar n).length ≤ 40 := Nat.le_trans (wf_pre_len hw hn hp) hw.1.2
theorem wf_pos (hw : wf ar cm) {n : Nat} (hn : n < cm) (hp : ¬ ar 2 n = 0) (h0 : n ≠ 0) : par9 ar n ∉ pre9 ar n := by
  intro h
  obtain ⟨c1, c2, c3⟩ := wf_chp hw hn hp h0
  have h1 := (wf_pre_ch hw n hn hp _ h).2.2
  have h2 := wf_nd hw hn hp
  rw [c1] at h2
  exact (List.nodup_cons.mp h2).1 h1
end TREE2
/-- a tree whose rows are the same is the same -/
theorem q_pre_cong {ar ar1 : rA} : ∀ (d n : Nat), TR ar d n → (∀ x ∈ q_pre ar d n, ar1 5 x = ar 5 x ∧ ∀ k, k < 39 → ar1 6 (40 * x + k) = ar 6 (40 * x + k)) → TR ar1 d n ∧ q_pre ar1 d n = q_pre ar d n
  | 0, _, h, _ => h.elim
  | d + 1, n, h, hc => by
    obtain ⟨h1, m, h2, h3, h4⟩ := h
    have hq := q_pre_s ar d n h3 h2
    rw [hq] at hc
    obtain ⟨e5, e6⟩ := hc n List.mem_cons_self
    have hkid : ∀ k, k < m → ∃ c : Nat, ar 6 (40 * n + k) = nI c ∧ c < 40 ∧ TR ar d c ∧ TR ar1 d c ∧ q_pre ar1 d c = q_pre ar d c := by
      intro k hk
      obtain ⟨c, c1, c2, c3⟩ := h4 k hk
      have hsub : ∀ x ∈ q_pre ar d c, x ∈ q_kp ar d n m := by
        intro x hx
        unfold q_kp
        simp only [List.mem_flatMap, List.mem_map, List.mem_range]
        exact ⟨c, ⟨k, hk, by rw [c1, nI_clamp (by omega)]⟩, hx⟩
      obtain ⟨r1, r2⟩ := q_pre_cong d c c3 (fun x hx => hc x (List.mem_cons_of_mem _ (hsub x hx)))
      exact ⟨c, c1, c2, c3, r1, r2⟩
    refine ⟨⟨h1, m, h2, by rw [e5]; exact h3, fun k hk => ?_⟩, ?_⟩
    · obtain ⟨c, c1, c2, c3, c4, c5⟩ := hkid k hk
      exact ⟨c, by rw [e6 k (by omega)]; exact c1, c2, c4⟩
    · rw [hq, q_pre_s ar1 d n (by rw [e5]; exact h3) h2]
      congr 1
      suffices K : ∀ k, k ≤ m → q_kp ar1 d n k = q_kp ar d n k from K m (Nat.le_refl _)
      intro k
      induction k with
      | zero => intro _; rw [q_kp_0, q_kp_0]
      | succ k ihk =>
        intro hk
        obtain ⟨c, c1, c2, c3, c4, c5⟩ := hkid k (by omega)
        rw [q_kp_s, q_kp_s, ihk (by omega), e6 k (by omega), c1, nI_clamp (by omega), c5]
/-- taking a node out of its parent's row leaves other rows as they were -/
theorem q_out_row {ar : rA} {q k9 m9 x i : Nat} (hx : x ≠ q) (hi : i < 40) (hm : m9 ≤ 40) : q_out ar q k9 m9 5 x = ar 5 x ∧ q_out ar q k9 m9 6 (40 * x + i) = ar 6 (40 * x + i) := by
  unfold q_out
  constructor
  · rw [upA_n (by decide), upA_s]
    unfold upd
    rw [if_neg hx]
  · rw [upA_s]
    unfold va_cpy
    rw [if_neg]
    omega

