/-! ===== the tree, kept by what changes it ===== -/
/-- a node's row is this list -/
def RWL (ar : rA) (n : Nat) (l : List Nat) : Prop := ar 5 n = nI l.length ∧ ∀ k, k < l.length → ar 6 (40 * n + k) = nI (l.getD k 0)
theorem RWL_wf {ar : rA} {cm n : Nat} (hw : wf ar cm) (hn : cP ar cm n) : RWL ar n (kids ar n) := by
  obtain ⟨m, m1, m2, m3, -, -⟩ := wf_mny hw hn.1 hn.2
  refine ⟨by rw [kids_len, m3, m1], fun k hk => ?_⟩
  rw [kids_len] at hk
  rw [kids_at hk]
  exact (wf_kid hw hn.1 hn.2 hk).2.2.2.1
theorem list_ext {l1 l2 : List Nat} (h : l1.length = l2.length) (h2 : ∀ k, k < l1.length → l1.getD k 0 = l2.getD k 0) : l1 = l2 := by
  refine List.ext_getElem h (fun k h3 h4 => ?_)
  have := h2 k h3
  rw [List.getD_eq_getElem?_getD, List.getD_eq_getElem?_getD, List.getElem?_eq_getElem h3, List.getElem?_eq_getElem h4] at this
  exact this
theorem RWL_kids {ar : rA} {n : Nat} {l : List Nat} (h : RWL ar n l) (hl : l.length < 2 ^ 31) (he : ∀ c ∈ l, c < 2 ^ 31) : kids ar n = l := by
  have hm : mny ar n = l.length := by rw [mny, h.1, nI_clamp hl]
  refine list_ext (by rw [kids_len, hm]) (fun k hk => ?_)
  rw [kids_len] at hk
  rw [kids_at hk, kid, h.2 k (by omega), nI_clamp]
  refine he _ ?_
  rw [List.getD_eq_getElem?_getD, List.getElem?_eq_getElem (show k < l.length by omega)]
  exact List.getElem_mem _
theorem nd_inj {l : List Nat} (h : l.Nodup) {i k : Nat} (hi : i < l.length) (hk : k < l.length) (e : l[i] = l[k]) : i = k := by
  rcases Nat.lt_trichotomy i k with z | z | z
  · exact absurd e (List.pairwise_iff_getElem.mp h i k hi hk z)
  · exact z
  · exact absurd e.symm (List.pairwise_iff_getElem.mp h k i hk hi z)
theorem wf_of {ar : rA} {cm : Nat} (K : Nat → List Nat) (h1 : 1 ≤ cm ∧ cm ≤ 40) (h2 : ¬ ar 2 0 = 0 ∧ ar 3 0 = 0 ∧ ar 4 0 = -1) (hR : ∀ n, cP ar cm n → RWL ar n (K n))
    (h3 : ∀ n, cP ar cm n → n ≠ 0 → ∃ p, ar 4 n = nI p ∧ cP ar cm p ∧ ar 3 p = 0 ∧ n ∈ K p)
    (h4 : ∀ n, cP ar cm n → (K n).Nodup ∧ (¬ ar 3 n = 0 → K n = []) ∧ ∀ c ∈ K n, 0 < c ∧ cP ar cm c ∧ ar 4 c = nI n)
    (h5 : ∃ dp : Nat → Nat, ∀ n, cP ar cm n → n ≠ 0 → dp (par9 ar n) < dp n)
    (h6 : ∀ n, cm ≤ n → ar 2 n = 0 ∧ ar 5 n = 0 ∧ ar 8 n = 0 ∧ ar 9 n = 0 ∧ ar 12 n = 0 ∧ ar 13 n = 0 ∧ ∀ j, j < 4 → ar 14 (4 * n + j) = 0) : wf ar cm ∧ ∀ n, cP ar cm n → kids ar n = K n := by
  have hlen : ∀ n, cP ar cm n → (K n).length ≤ 39 := by
    intro n hn
    obtain ⟨a1, a2, a3⟩ := h4 n hn
    have : (0 :: K n).Nodup := List.nodup_cons.mpr ⟨fun z => absurd (a3 0 z).1 (Nat.lt_irrefl 0), a1⟩
    have h := nd_len cm _ this (fun a ha => by
      rcases List.mem_cons.mp ha with z | z
      · omega
      · exact (a3 a z).2.1.1)
    rw [List.length_cons] at h
    omega
  have hk : ∀ n, cP ar cm n → kids ar n = K n := fun n hn => RWL_kids (hR n hn) (by have := hlen n hn; omega) (fun c hc => by have := ((h4 n hn).2.2 c hc).2.1.1; omega)
  have hm : ∀ n, cP ar cm n → mny ar n = (K n).length := fun n hn => by rw [← kids_len, hk n hn]
  refine ⟨⟨h1, h2, fun n hn hp h0 => ?_, fun n hn hp => ?_, ?_, h6⟩, hk⟩
  · obtain ⟨p, p1, p2, p3, p4⟩ := h3 n ⟨hn, hp⟩ h0
    obtain ⟨k, hkl, e⟩ := List.getElem_of_mem p4
    refine ⟨p, p1, p2.1, p2.2, p3, k, by rw [hm p p2]; exact hkl, ?_⟩
    rw [(hR p p2).2 k hkl, List.getD_eq_getElem?_getD, List.getElem?_eq_getElem hkl]
    exact congrArg nI e
  · have hn9 : cP ar cm n := ⟨hn, hp⟩
    obtain ⟨a1, a2, a3⟩ := h4 n hn9
    have hl := hlen n hn9
    refine ⟨(K n).length, hl, (hR n hn9).1, fun z => by rw [a2 z]; rfl, fun k hkl => ?_, fun i k hi hkl e => ?_⟩
    · have hmem : (K n).getD k 0 ∈ K n := by
        rw [List.getD_eq_getElem?_getD, List.getElem?_eq_getElem hkl]
        exact List.getElem_mem _
      obtain ⟨b1, b2, b3⟩ := a3 _ hmem
      exact ⟨_, (hR n hn9).2 k hkl, b1, b2.1, b2.2, b3⟩
    · rw [(hR n hn9).2 i hi, (hR n hn9).2 k hkl] at e
      have b1 : (K n).getD i 0 ∈ K n := by
        rw [List.getD_eq_getElem?_getD, List.getElem?_eq_getElem hi]
        exact List.getElem_mem _
      have b2 : (K n).getD k 0 ∈ K n := by
        rw [List.getD_eq_getElem?_getD, List.getElem?_eq_getElem hkl]
        exact List.getElem_mem _
      have c1 := (a3 _ b1).2.1.1
      have c2 := (a3 _ b2).2.1.1
      have e2 := (nI_eq (by omega) (by omega)).mp e
      rw [List.getD_eq_getElem?_getD, List.getD_eq_getElem?_getD, List.getElem?_eq_getElem hi, List.getElem?_eq_getElem hkl] at e2
      exact nd_inj a1 hi hkl e2
  · obtain ⟨dp, hd⟩ := h5
    exact ⟨dp, fun n hn hp h0 => hd n ⟨hn, hp⟩ h0⟩
section K3
variable {ar : rA} {cm : Nat}
theorem kids_nd (hw : wf ar cm) {n : Nat} (hn : cP ar cm n) : (kids ar n).Nodup := by
  refine List.pairwise_iff_getElem.mpr (fun i k hi hk hlt e => ?_)
  have e2 : (kids ar n).getD i 0 = (kids ar n).getD k 0 := by
    rw [List.getD_eq_getElem?_getD, List.getD_eq_getElem?_getD, List.getElem?_eq_getElem hi, List.getElem?_eq_getElem hk]
    exact e
  rw [kids_len] at hi hk
  rw [kids_at hi, kids_at hk] at e2
  have p1 := (wf_kid hw hn.1 hn.2 hi).2.2.2.2.2.1
  have p2 := (wf_kid hw hn.1 hn.2 hk).2.2.2.2.2.1
  rw [e2, p2] at p1
  omega
theorem kids_sh (hw : wf ar cm) {n : Nat} (hn : cP ar cm n) (h3 : ¬ ar 3 n = 0) : kids ar n = [] := by
  obtain ⟨m, m1, m2, m3, m4, -⟩ := wf_mny hw hn.1 hn.2
  have : (kids ar n).length = 0 := by rw [kids_len, m1, m4 h3]
  exact List.length_eq_zero_iff.mp this
theorem kids_plc (hw : wf ar cm) {v : Nat} (hv : cP ar cm v) (h0 : v ≠ 0) : (kids ar (par9 ar v)).getD (plc ar v) 0 = v ∧ plc ar v < (kids ar (par9 ar v)).length ∧ cP ar cm (par9 ar v) ∧ ar 3 (par9 ar v) = 0 ∧ ar 4 v = nI (par9 ar v) := by
  obtain ⟨q, k9, m9, a1, a2, a3, a4, a5, a6, a7, a8, a9, a10, a11, a12⟩ := wf_par hw hv.1 hv.2 h0
  have hpl := (q_pl_plc hw hv h0).2
  have hv1 := hv.1
  have h40 := hw.1.2
  subst a2
  refine ⟨?_, by rw [kids_len]; exact hpl, ⟨a3, a4⟩, a5, a1⟩
  rw [kids_at hpl, kid, a6, a7, nI_clamp (by omega)]
end K3
theorem outL_sub {l : List Nat} {k c : Nat} (h : c ∈ outL l k) : c ∈ l := by
  unfold outL at h
  rcases List.mem_append.mp h with z | z
  · exact List.mem_of_mem_take z
  · exact List.mem_of_mem_drop z
theorem outL_split {l : List Nat} {k : Nat} (hk : k < l.length) : l = l.take k ++ l.getD k 0 :: l.drop (k + 1) := od_getD hk
theorem outL_mem {l : List Nat} {k c : Nat} (hk : k < l.length) (hnd : l.Nodup) : c ∈ outL l k ↔ c ∈ l ∧ c ≠ l.getD k 0 := by
  have e := outL_split hk
  constructor
  · intro h
    refine ⟨outL_sub h, fun z => ?_⟩
    rw [e, List.nodup_append] at hnd
    unfold outL at h
    rcases List.mem_append.mp h with y | y
    · exact hnd.2.2 c y _ List.mem_cons_self z
    · rw [z] at y
      exact (List.nodup_cons.mp hnd.2.1).1 y
  · rintro ⟨h1, h2⟩
    rw [e] at h1
    unfold outL
    rcases List.mem_append.mp h1 with y | y
    · exact List.mem_append_left _ y
    · rcases List.mem_cons.mp y with y | y
      · exact absurd y h2
      · exact List.mem_append_right _ y
theorem outL_nd {l : List Nat} {k : Nat} (h : l.Nodup) : (outL l k).Nodup := by
  refine List.Nodup.sublist ?_ h
  unfold outL
  have e : l = l.take k ++ l.drop k := (List.take_append_drop k l).symm
  rw [show l.drop (k + 1) = (l.drop k).drop 1 by rw [List.drop_drop]]
  refine List.Sublist.trans (List.Sublist.append_left (List.drop_sublist 1 (l.drop k)) _) ?_
  rw [← e]
  exact List.Sublist.refl l
def insL (l : List Nat) (k n : Nat) : List Nat := l.take k ++ n :: l.drop k
theorem insL_mem {l : List Nat} {k n c : Nat} : c ∈ insL l k n ↔ c = n ∨ c ∈ l := by
  unfold insL
  rw [List.mem_append, List.mem_cons]
  constructor
  · rintro (h | h | h)
    · exact Or.inr (List.mem_of_mem_take h)
    · exact Or.inl h
    · exact Or.inr (List.mem_of_mem_drop h)
  · rintro (h | h)
    · exact Or.inr (Or.inl h)
    · rw [← List.take_append_drop k l] at h
      rcases List.mem_append.mp h with z | z
      · exact Or.inl z
      · exact Or.inr (Or.inr z)
theorem insL_nd {l : List Nat} {k n : Nat} (h : l.Nodup) (hn : n ∉ l) : (insL l k n).Nodup := by
  unfold insL
  rw [← List.take_append_drop k l, List.nodup_append] at h
  refine List.nodup_append.mpr ⟨h.1, List.nodup_cons.mpr ⟨fun z => hn (List.mem_of_mem_drop z), h.2.1⟩, fun a ha b hb => ?_⟩
  rcases List.mem_cons.mp hb with z | z
  · rw [z]
    intro y
    rw [y] at ha
    exact hn (List.mem_of_mem_take ha)
  · exact h.2.2 a ha b z
theorem insL_len {l : List Nat} {k n : Nat} (hk : k ≤ l.length) : (insL l k n).length = l.length + 1 := by
  unfold insL
  rw [List.length_append, List.length_take, List.length_cons, List.length_drop]
  omega
theorem RWL_out {ar : rA} {p k : Nat} {l : List Nat} (h : RWL ar p l) (hk : k < l.length) : RWL (q_out ar p k (l.length - 1)) p (outL l k) := by
  refine ⟨?_, fun i hi => ?_⟩
  · rw [outL_len hk]
    show upd (ar 5) p (nI (l.length - 1)) p = _
    exact upd_s
  · rw [outL_len hk] at hi
    rw [outL_at hk]
    show va_cpy (ar 6) (ar 6) (40 * p + k + 1) (40 * p + k) (l.length - 1 - k) (40 * p + i) = _
    by_cases z : i < k
    · rw [if_pos z, pk_cpy_out (by omega)]
      exact h.2 i (by omega)
    · rw [if_neg z, pk_cpy_in (by omega) (by omega), show 40 * p + k + 1 + (40 * p + i - (40 * p + k)) = 40 * p + (i + 1) by omega]
      exact h.2 (i + 1) (by omega)
theorem RWL_outo {ar : rA} {p k x m : Nat} {l : List Nat} (h : RWL ar x l) (hx : x ≠ p) (hl : l.length ≤ 40) (hm : m ≤ 39) : RWL (q_out ar p k m) x l := by
  refine ⟨?_, fun i hi => ?_⟩
  · rw [(q_out_row (i := 0) hx (by decide) (by omega)).1]
    exact h.1
  · rw [(q_out_row hx (by omega) (by omega)).2]
    exact h.2 i hi
theorem RWL_ins {ar : rA} {n p k : Nat} {l : List Nat} (h : RWL ar p l) (hk : k ≤ l.length) : RWL (q_ins ar n p k l.length) p (insL l k n) := by
  refine ⟨?_, fun i hi => ?_⟩
  · rw [insL_len hk]
    show upd (ar 5) p (nI (l.length + 1)) p = _
    exact upd_s
  · rw [insL_len hk] at hi
    unfold insL
    rw [getD_ins hk]
    show upd (va_cpy (ar 6) (ar 6) (40 * p + k) (40 * p + k + 1) (l.length - k)) (40 * p + k) (nI n) (40 * p + i) = _
    by_cases z : i < k
    · rw [if_pos z, upd_o (by omega), pk_cpy_out (by omega)]
      exact h.2 i (by omega)
    · rw [if_neg z]
      by_cases y : i = k
      · rw [if_pos y, y]
        exact upd_s
      · rw [if_neg y, upd_o (by omega), pk_cpy_in (by omega) (by omega), show 40 * p + k + (40 * p + i - (40 * p + k + 1)) = 40 * p + (i - 1) by omega]
        exact h.2 (i - 1) (by omega)
theorem RWL_inso {ar : rA} {n p k m x : Nat} {l : List Nat} (h : RWL ar x l) (hx : x ≠ p) (hl : l.length ≤ 40) (hm : m ≤ 39) (hk : k ≤ m) : RWL (q_ins ar n p k m) x l := by
  refine ⟨?_, fun i hi => ?_⟩
  · show upd (ar 5) p (nI (m + 1)) x = _
    rw [upd_o hx]
    exact h.1
  · show upd (va_cpy (ar 6) (ar 6) (40 * p + k) (40 * p + k + 1) (m - k)) (40 * p + k) (nI n) (40 * x + i) = _
    rw [upd_o (by omega), pk_cpy_out (by omega)]
    exact h.2 i hi
theorem q_clr_at {f : Nat → Int32} : ∀ (l : List Nat) (n : Nat), q_clr f l n = if n ∈ l then 0 else f n := by
  intro l
  induction l generalizing f with
  | nil => intro n; rw [if_neg List.not_mem_nil]; rfl
  | cons a t ih =>
    intro n
    show q_clr (upd f a 0) t n = _
    rw [ih]
    by_cases h : n ∈ t
    · rw [if_pos h, if_pos (List.mem_cons_of_mem _ h)]
    · rw [if_neg h]
      by_cases z : n = a
      · rw [z, if_pos List.mem_cons_self]
        exact upd_s
      · rw [upd_o z, if_neg (fun y => by rcases List.mem_cons.mp y with u | u; exact z u; exact h u)]

