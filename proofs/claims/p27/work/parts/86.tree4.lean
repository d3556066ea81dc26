/-! ===== the tree after a node goes, comes or moves ===== -/
section T4
variable {ar : rA} {cm : Nat}
theorem pre_ch (hw : wf ar cm) {v n : Nat} (hv : cP ar cm v) (hn : cP ar cm n) : n ∈ pre9 ar v ↔ v ∈ chn ar n :=
  ⟨fun h => (wf_pre_ch hw v hv.1 hv.2 n h).2.2, fun h => wf_ch_pre hw hv.1 hv.2 n hn.1 hn.2 h⟩
theorem kids_le (hw : wf ar cm) {n : Nat} (hn : cP ar cm n) : (kids ar n).length ≤ 39 := by
  obtain ⟨m, m1, m2, -⟩ := wf_mny hw hn.1 hn.2
  rw [kids_len, m1]
  exact m2
/-- the rows once v has been taken out -/
def KO (ar : rA) (v n : Nat) : List Nat := if n = par9 ar v then outL (kids ar (par9 ar v)) (plc ar v) else kids ar n
theorem KO_nd (hw : wf ar cm) {v n : Nat} (hv : cP ar cm v) (h0 : v ≠ 0) (hn : cP ar cm n) : (KO ar v n).Nodup := by
  unfold KO
  by_cases z : n = par9 ar v
  · rw [if_pos z]
    exact outL_nd (kids_nd hw (kids_plc hw hv h0).2.2.1)
  · rw [if_neg z]
    exact kids_nd hw hn
theorem KO_mem (hw : wf ar cm) {v n c : Nat} (hv : cP ar cm v) (h0 : v ≠ 0) (hn : cP ar cm n) : c ∈ KO ar v n ↔ c ∈ kids ar n ∧ c ≠ v := by
  obtain ⟨p1, p2, p3, p4, p5⟩ := kids_plc hw hv h0
  unfold KO
  by_cases z : n = par9 ar v
  · rw [if_pos z, outL_mem p2 (kids_nd hw p3), p1, z]
  · rw [if_neg z]
    refine ⟨fun h => ⟨h, fun y => ?_⟩, fun h => h.1⟩
    rw [y] at h
    exact z ((kid_iff hw hn).mp h).2.2.symm
theorem KO_sh (hw : wf ar cm) {v n : Nat} (hv : cP ar cm v) (h0 : v ≠ 0) (hn : cP ar cm n) (h3 : ¬ ar 3 n = 0) : KO ar v n = [] := by
  unfold KO
  by_cases z : n = par9 ar v
  · rw [z] at h3
    exact absurd (kids_plc hw hv h0).2.2.2.1 h3
  · rw [if_neg z]
    exact kids_sh hw hn h3
theorem KO_row (hw : wf ar cm) {v n : Nat} (hv : cP ar cm v) (h0 : v ≠ 0) (hn : cP ar cm n) : RWL (q_out ar (par9 ar v) (plc ar v) (mny ar (par9 ar v) - 1)) n (KO ar v n) := by
  obtain ⟨p1, p2, p3, p4, p5⟩ := kids_plc hw hv h0
  unfold KO
  have hl := kids_le hw p3
  rw [kids_len] at hl
  by_cases z : n = par9 ar v
  · rw [if_pos z, z]
    have := RWL_out (RWL_wf hw p3) p2
    rw [kids_len] at this
    exact this
  · rw [if_neg z]
    exact RWL_outo (RWL_wf hw hn) z (by have := kids_le hw hn; omega) (by omega)
theorem wf_remove (hw : wf ar cm) {v : Nat} (hv : cP ar cm v) (h0 : v ≠ 0) : (∀ n, cP (s_remove ar (nI v)) cm n ↔ cP ar cm n ∧ v ∉ chn ar n) ∧ wf (s_remove ar (nI v)) cm ∧ ∀ n, cP (s_remove ar (nI v)) cm n → kids (s_remove ar (nI v)) n = KO ar v n := by
  have hv1 := hv.1
  have h40 := hw.1.2
  have ev : jN (nI v) = v := nI_clamp (by omega)
  have e : s_remove ar (nI v) = upA (q_out ar (par9 ar v) (plc ar v) (mny ar (par9 ar v) - 1)) 2 (q_clr (ar 2) (pre9 ar v)) := by
    unfold s_remove
    rw [ev]
  have hP : ∀ n, cP (s_remove ar (nI v)) cm n ↔ cP ar cm n ∧ v ∉ chn ar n := by
    intro n
    rw [e]
    show n < cm ∧ ¬ q_clr (ar 2) (pre9 ar v) n = 0 ↔ _
    rw [q_clr_at]
    by_cases hm : n ∈ pre9 ar v
    · rw [if_pos hm]
      have h9 := wf_pre_ch hw v hv.1 hv.2 n hm
      exact ⟨fun z => absurd rfl z.2, fun z => absurd h9.2.2 z.2⟩
    · rw [if_neg hm]
      exact ⟨fun z => ⟨z, fun y => hm ((pre_ch hw hv z).mpr y)⟩, fun z => z.1⟩
  refine ⟨hP, ?_⟩
  refine wf_of (KO ar v) hw.1 ?_ ?_ ?_ ?_ ?_ ?_
  · have hr := (hP 0).mpr ⟨wf_root hw, by rw [wf_ch0 hw, List.mem_singleton]; exact h0⟩
    refine ⟨hr.2, ?_, ?_⟩
    · rw [e]; exact hw.2.1.2.1
    · rw [e]; exact hw.2.1.2.2
  · intro n hn
    have h9 := KO_row hw hv h0 ((hP n).mp hn).1
    rw [e]
    exact ⟨(congrFun (upA_n (by decide)) n).trans h9.1, fun k hk => (congrFun (upA_n (by decide)) _).trans (h9.2 k hk)⟩
  · intro n hn hn0
    obtain ⟨n1, n2⟩ := (hP n).mp hn
    obtain ⟨c1, c2, c3⟩ := wf_chp hw n1.1 n1.2 hn0
    obtain ⟨p1, p2, p3, p4, p5⟩ := kids_plc hw n1 hn0
    rw [c1] at n2
    refine ⟨par9 ar n, by rw [e]; exact p5, (hP _).mpr ⟨p3, fun z => n2 (List.mem_cons_of_mem _ z)⟩, by rw [e]; exact p4, ?_⟩
    rw [KO_mem hw hv h0 p3]
    exact ⟨(kid_iff hw p3).mpr ⟨n1, hn0, rfl⟩, fun z => n2 (by rw [z]; exact List.mem_cons_self)⟩
  · intro n hn
    obtain ⟨n1, n2⟩ := (hP n).mp hn
    refine ⟨KO_nd hw hv h0 n1, fun h3 => KO_sh hw hv h0 n1 (by rw [e] at h3; exact h3), fun c hc => ?_⟩
    rw [KO_mem hw hv h0 n1] at hc
    obtain ⟨k1, k2, k3⟩ := (kid_iff hw n1).mp hc.1
    obtain ⟨c1, c2, c3⟩ := wf_chp hw k1.1 k1.2 k2
    refine ⟨by omega, (hP c).mpr ⟨k1, fun z => ?_⟩, ?_⟩
    · rw [c1, k3] at z
      rcases List.mem_cons.mp z with y | y
      · exact hc.2 y.symm
      · exact n2 y
    · rw [e]
      have := (kids_plc hw k1 k2).2.2.2.2
      rw [k3] at this
      exact this
  · obtain ⟨dp, hd⟩ := hw.2.2.2.2.1
    refine ⟨dp, fun n hn hn0 => ?_⟩
    obtain ⟨n1, n2⟩ := (hP n).mp hn
    have := hd n n1.1 n1.2 hn0
    rw [e]
    exact this
  · intro n hn
    obtain ⟨z2, z5, z8, z9, z12, z13, z14⟩ := hw.2.2.2.2.2 n hn
    have hpn : n ≠ par9 ar v := by have := (kids_plc hw hv h0).2.2.1.1; omega
    rw [e]
    refine ⟨?_, ?_, z8, z9, z12, z13, z14⟩
    · show q_clr (ar 2) (pre9 ar v) n = 0
      rw [q_clr_at]
      by_cases hm : n ∈ pre9 ar v
      · rw [if_pos hm]
      · rw [if_neg hm]; exact z2
    · show upd (ar 5) (par9 ar v) _ n = 0
      rw [upd_o hpn]
      exact z5
/-- the rows once v stands at place pl of q -/
def KM (ar : rA) (v q pl n : Nat) : List Nat := if n = q then insL (KO ar v q) pl v else KO ar v n
theorem KO_len (hw : wf ar cm) {v q : Nat} (hv : cP ar cm v) (h0 : v ≠ 0) (hq : cP ar cm q) : (KO ar v q).length = if par9 ar v = q then mny ar q - 1 else mny ar q := by
  obtain ⟨p1, p2, p3, p4, p5⟩ := kids_plc hw hv h0
  unfold KO
  by_cases z : q = par9 ar v
  · rw [if_pos z, if_pos z.symm, outL_len p2, kids_len, z]
  · rw [if_neg z, if_neg (fun y => z y.symm), kids_len]
theorem wf_move (hw : wf ar cm) {v q pl : Nat} (hv : cP ar cm v) (h0 : v ≠ 0) (hq : cP ar cm q) (h3 : ar 3 q = 0) (hch : v ∉ chn ar q) (hpl : pl ≤ (KO ar v q).length) :
    (∀ n, cP (s_move ar (nI v) (nI q) (nI pl)) cm n ↔ cP ar cm n) ∧ wf (s_move ar (nI v) (nI q) (nI pl)) cm ∧ ∀ n, cP (s_move ar (nI v) (nI q) (nI pl)) cm n → kids (s_move ar (nI v) (nI q) (nI pl)) n = KM ar v q pl n := by
  have hv1 := hv.1
  have hq1 := hq.1
  have h40 := hw.1.2
  have hlO := KO_len hw hv h0 hq
  have hkq := kids_le hw hq
  rw [kids_len] at hkq
  have hlO39 : (KO ar v q).length ≤ 39 := by rw [hlO]; split <;> omega
  have ev : jN (nI v) = v := nI_clamp (by omega)
  have eq : jN (nI q) = q := nI_clamp (by omega)
  have ep : jN (nI pl) = pl := nI_clamp (by omega)
  have e : s_move ar (nI v) (nI q) (nI pl) = q_ins (q_out ar (par9 ar v) (plc ar v) (mny ar (par9 ar v) - 1)) v q pl (KO ar v q).length := by
    unfold s_move
    rw [ev, eq, ep, hlO]
  rw [e]
  obtain ⟨p1, p2, p3, p4, p5⟩ := kids_plc hw hv h0
  have hP : ∀ n, cP (q_ins (q_out ar (par9 ar v) (plc ar v) (mny ar (par9 ar v) - 1)) v q pl (KO ar v q).length) cm n ↔ cP ar cm n := fun n => Iff.rfl
  have e4 : ∀ n, (q_ins (q_out ar (par9 ar v) (plc ar v) (mny ar (par9 ar v) - 1)) v q pl (KO ar v q).length) 4 n = if n = v then nI q else ar 4 n := fun n => rfl
  have hnv : ∀ n, cP ar cm n → v ∉ KO ar v n := fun n hn z => ((KO_mem hw hv h0 hn).mp z).2 rfl
  refine ⟨hP, ?_⟩
  refine wf_of (KM ar v q pl) hw.1 ⟨hw.2.1.1, hw.2.1.2.1, ?_⟩ ?_ ?_ ?_ ?_ ?_
  · rw [e4, if_neg (fun z => h0 z.symm)]
    exact hw.2.1.2.2
  · intro n hn
    have hn : cP ar cm n := hn
    unfold KM
    by_cases z : n = q
    · rw [if_pos z, z]
      exact RWL_ins (KO_row hw hv h0 hq) hpl
    · rw [if_neg z]
      refine RWL_inso (KO_row hw hv h0 hn) z ?_ hlO39 hpl
      have := KO_len hw hv h0 hn
      have h9 := kids_le hw hn
      rw [kids_len] at h9
      rw [this]
      split <;> omega
  · intro n hn hn0
    have hn : cP ar cm n := hn
    by_cases z : n = v
    · refine ⟨q, by rw [e4, if_pos z], hq, h3, ?_⟩
      unfold KM
      rw [if_pos rfl, insL_mem]
      exact Or.inl z
    · obtain ⟨r1, r2, r3, r4, r5⟩ := kids_plc hw hn hn0
      refine ⟨par9 ar n, by rw [e4, if_neg z]; exact r5, r3, r4, ?_⟩
      have hm : n ∈ KO ar v (par9 ar n) := (KO_mem hw hv h0 r3).mpr ⟨(kid_iff hw r3).mpr ⟨hn, hn0, rfl⟩, z⟩
      unfold KM
      by_cases y : par9 ar n = q
      · rw [if_pos y, insL_mem]
        rw [y] at hm
        exact Or.inr hm
      · rw [if_neg y]
        exact hm
  · intro n hn
    have hn : cP ar cm n := hn
    have hold : ∀ c ∈ KO ar v n, 0 < c ∧ cP ar cm c ∧ (if c = v then nI q else ar 4 c) = nI n := by
      intro c hc
      obtain ⟨c1, c2⟩ := (KO_mem hw hv h0 hn).mp hc
      obtain ⟨k1, k2, k3⟩ := (kid_iff hw hn).mp c1
      refine ⟨by omega, k1, ?_⟩
      rw [if_neg c2]
      have := (kids_plc hw k1 k2).2.2.2.2
      rw [k3] at this
      exact this
    unfold KM
    by_cases z : n = q
    · rw [if_pos z]
      rw [z] at hold
      refine ⟨insL_nd (KO_nd hw hv h0 hq) (hnv q hq), fun y => ?_, fun c hc => ?_⟩
      · exact absurd (by rw [z]; exact h3) y
      · rcases insL_mem.mp hc with u | u
        · rw [u, z, e4, if_pos rfl]
          exact ⟨by omega, hv, rfl⟩
        · rw [z]
          exact hold c u
    · rw [if_neg z]
      exact ⟨KO_nd hw hv h0 hn, fun y => KO_sh hw hv h0 hn y, hold⟩
  · obtain ⟨dp, hd⟩ := hw.2.2.2.2.1
    have hpar9 : ∀ n, par9 (q_ins (q_out ar (par9 ar v) (plc ar v) (mny ar (par9 ar v) - 1)) v q pl (KO ar v q).length) n = if n = v then q else par9 ar n := by
      intro n
      show ((q_ins (q_out ar (par9 ar v) (plc ar v) (mny ar (par9 ar v) - 1)) v q pl (KO ar v q).length) 4 n).toNatClampNeg = _
      rw [e4 n]
      by_cases z : n = v
      · rw [if_pos z, if_pos z, nI_clamp (by omega)]
      · rw [if_neg z, if_neg z]
        rfl
    refine ⟨fun n => if v ∈ chn ar n then dp n + dp q + 1 else dp n, fun n hn hn0 => ?_⟩
    have hn : cP ar cm n := hn
    show (if v ∈ chn ar (par9 (q_ins (q_out ar (par9 ar v) (plc ar v) (mny ar (par9 ar v) - 1)) v q pl (KO ar v q).length) n) then dp (par9 (q_ins (q_out ar (par9 ar v) (plc ar v) (mny ar (par9 ar v) - 1)) v q pl (KO ar v q).length) n) + dp q + 1 else dp (par9 (q_ins (q_out ar (par9 ar v) (plc ar v) (mny ar (par9 ar v) - 1)) v q pl (KO ar v q).length) n)) < (if v ∈ chn ar n then dp n + dp q + 1 else dp n)
    rw [hpar9 n]
    by_cases z : n = v
    · rw [if_pos z, if_neg hch, z, if_pos (wf_self hw hv.1 hv.2)]
      omega
    · rw [if_neg z]
      have hd9 := hd n hn.1 hn.2 hn0
      obtain ⟨c1, c2, c3⟩ := wf_chp hw hn.1 hn.2 hn0
      have hiff : v ∈ chn ar n ↔ v ∈ chn ar (par9 ar n) := by
        rw [c1, List.mem_cons]
        exact ⟨fun y => y.resolve_left (fun u => z u.symm), Or.inr⟩
      by_cases y : v ∈ chn ar (par9 ar n)
      · rw [if_pos y, if_pos (hiff.mpr y)]
        omega
      · rw [if_neg y, if_neg (fun u => y (hiff.mp u))]
        exact hd9
  · intro n hn
    obtain ⟨z2, z5, z8, z9, z12, z13, z14⟩ := hw.2.2.2.2.2 n hn
    have hpn : n ≠ par9 ar v := by have := p3.1; omega
    have hqn : n ≠ q := by omega
    refine ⟨z2, ?_, z8, z9, z12, z13, z14⟩
    show upd (upd (ar 5) (par9 ar v) _) q _ n = 0
    rw [upd_o hqn, upd_o hpn]
    exact z5
/-- the rows once a new node is the last child of p -/
def KA (ar : rA) (cm p n : Nat) : List Nat := if n = p then kids ar p ++ [cm] else if n = cm then [] else kids ar n
theorem wf_add (hw : wf ar cm) (hc : cm < 40) {p : Nat} (hp : cP ar cm p) (h3 : ar 3 p = 0) (so : Int32) (sh : Nat → Int32) (w : Nat) :
    (∀ n, cP (q_addS cm ar (nI p) so sh w) (cm + 1) n ↔ cP ar cm n ∨ n = cm) ∧ wf (q_addS cm ar (nI p) so sh w) (cm + 1) ∧ ∀ n, cP (q_addS cm ar (nI p) so sh w) (cm + 1) n → kids (q_addS cm ar (nI p) so sh w) n = KA ar cm p n := by
  have hp1 := hp.1
  have hkp := kids_le hw hp
  have hcm1 := hw.1.1
  have e : q_addS cm ar (nI p) so sh w = q_ins (q_new ar cm so sh w) cm p (kids ar p).length (kids ar p).length := by
    unfold q_addS
    rw [nI_clamp (by omega), kids_len]
    rfl
  rw [e]
  have e2 : ∀ n, (q_ins (q_new ar cm so sh w) cm p (kids ar p).length (kids ar p).length) 2 n = if n = cm then 1 else ar 2 n := fun n => rfl
  have e3 : ∀ n, (q_ins (q_new ar cm so sh w) cm p (kids ar p).length (kids ar p).length) 3 n = if n = cm then so else ar 3 n := fun n => rfl
  have e4 : ∀ n, (q_ins (q_new ar cm so sh w) cm p (kids ar p).length (kids ar p).length) 4 n = if n = cm then nI p else ar 4 n := fun n => rfl
  have hP : ∀ n, cP (q_ins (q_new ar cm so sh w) cm p (kids ar p).length (kids ar p).length) (cm + 1) n ↔ cP ar cm n ∨ n = cm := by
    intro n
    unfold cP
    rw [e2]
    by_cases z : n = cm
    · rw [if_pos z]
      exact ⟨fun _ => Or.inr z, fun _ => ⟨by omega, by decide⟩⟩
    · rw [if_neg z]
      exact ⟨fun y => Or.inl ⟨by omega, y.2⟩, fun y => y.elim (fun u => ⟨by omega, u.2⟩) (fun u => absurd u z)⟩
  have hcp : cm ≠ p := by omega
  have hcold : ¬ cP ar cm cm := fun z => absurd z.1 (Nat.lt_irrefl cm)
  have hins : insL (kids ar p) (kids ar p).length cm = kids ar p ++ [cm] := by
    unfold insL
    rw [List.take_length, List.drop_length]
  refine ⟨hP, ?_⟩
  refine wf_of (KA ar cm p) ⟨by omega, by omega⟩ ⟨?_, ?_, ?_⟩ ?_ ?_ ?_ ?_ ?_
  · rw [e2, if_neg (by omega)]; exact hw.2.1.1
  · rw [e3, if_neg (by omega)]; exact hw.2.1.2.1
  · rw [e4, if_neg (by omega)]; exact hw.2.1.2.2
  · intro n hn
    unfold KA
    by_cases z : n = p
    · rw [if_pos z, z, ← hins]
      exact RWL_ins (ar := q_new ar cm so sh w) (show RWL (q_new ar cm so sh w) p (kids ar p) from (RWL_wf hw hp : RWL ar p (kids ar p))) (Nat.le_refl _)
    · rw [if_neg z]
      by_cases y : n = cm
      · rw [if_pos y, y]
        refine RWL_inso (ar := q_new ar cm so sh w) ⟨?_, fun k hk => absurd hk (Nat.not_lt_zero k)⟩ hcp (by decide) hkp (Nat.le_refl _)
        exact (hw.2.2.2.2.2 cm (Nat.le_refl _)).2.1
      · rw [if_neg y]
        have hn9 : cP ar cm n := ((hP n).mp hn).resolve_right y
        exact RWL_inso (ar := q_new ar cm so sh w) (show RWL (q_new ar cm so sh w) n (kids ar n) from (RWL_wf hw hn9 : RWL ar n (kids ar n))) z (by have := kids_le hw hn9; omega) hkp (Nat.le_refl _)
  · intro n hn hn0
    by_cases y : n = cm
    · refine ⟨p, by rw [e4, if_pos y], (hP p).mpr (Or.inl hp), by rw [e3, if_neg (fun z => hcp z.symm)]; exact h3, ?_⟩
      unfold KA
      rw [if_pos rfl, y]
      exact List.mem_append_right _ (List.mem_singleton.mpr rfl)
    · have hn9 : cP ar cm n := ((hP n).mp hn).resolve_right y
      obtain ⟨r1, r2, r3, r4, r5⟩ := kids_plc hw hn9 hn0
      have hpc : par9 ar n ≠ cm := by have := r3.1; omega
      refine ⟨par9 ar n, by rw [e4, if_neg y]; exact r5, (hP _).mpr (Or.inl r3), by rw [e3, if_neg hpc]; exact r4, ?_⟩
      have hm : n ∈ kids ar (par9 ar n) := (kid_iff hw r3).mpr ⟨hn9, hn0, rfl⟩
      unfold KA
      by_cases z : par9 ar n = p
      · rw [if_pos z]
        rw [z] at hm
        exact List.mem_append_left _ hm
      · rw [if_neg z, if_neg hpc]
        exact hm
  · intro n hn
    have hold : ∀ n, cP ar cm n → ∀ c ∈ kids ar n, 0 < c ∧ cP (q_ins (q_new ar cm so sh w) cm p (kids ar p).length (kids ar p).length) (cm + 1) c ∧ (q_ins (q_new ar cm so sh w) cm p (kids ar p).length (kids ar p).length) 4 c = nI n := by
      intro n hn c hc
      obtain ⟨k1, k2, k3⟩ := (kid_iff hw hn).mp hc
      have hcc : c ≠ cm := by have := k1.1; omega
      refine ⟨by omega, (hP c).mpr (Or.inl k1), ?_⟩
      rw [e4, if_neg hcc]
      have := (kids_plc hw k1 k2).2.2.2.2
      rw [k3] at this
      exact this
    unfold KA
    by_cases z : n = p
    · rw [if_pos z, z]
      refine ⟨List.nodup_append.mpr ⟨kids_nd hw hp, by simp, fun a ha b hb y => ?_⟩, fun y => absurd (by rw [e3, if_neg (fun z => hcp z.symm)]; exact h3) y, fun c hc => ?_⟩
      · rw [List.mem_singleton.mp hb] at y
        rw [y] at ha
        exact hcold ((kid_iff hw hp).mp ha).1
      · rcases List.mem_append.mp hc with u | u
        · exact hold p hp c u
        · rw [List.mem_singleton.mp u]
          exact ⟨by omega, (hP cm).mpr (Or.inr rfl), by rw [e4, if_pos rfl]⟩
    · rw [if_neg z]
      by_cases y : n = cm
      · rw [if_pos y]
        exact ⟨List.nodup_nil, fun _ => rfl, fun c hc => absurd hc List.not_mem_nil⟩
      · rw [if_neg y]
        have hn9 : cP ar cm n := ((hP n).mp hn).resolve_right y
        exact ⟨kids_nd hw hn9, fun u => kids_sh hw hn9 (by rw [e3, if_neg y] at u; exact u), hold n hn9⟩
  · obtain ⟨dp, hd⟩ := hw.2.2.2.2.1
    have hpar9 : ∀ n, par9 (q_ins (q_new ar cm so sh w) cm p (kids ar p).length (kids ar p).length) n = if n = cm then p else par9 ar n := by
      intro n
      show ((q_ins (q_new ar cm so sh w) cm p (kids ar p).length (kids ar p).length) 4 n).toNatClampNeg = _
      rw [e4 n]
      by_cases z : n = cm
      · rw [if_pos z, if_pos z, nI_clamp (by omega)]
      · rw [if_neg z, if_neg z]
        rfl
    refine ⟨fun n => if n = cm then dp p + 1 else dp n, fun n hn hn0 => ?_⟩
    show (if par9 (q_ins (q_new ar cm so sh w) cm p (kids ar p).length (kids ar p).length) n = cm then dp p + 1 else dp (par9 (q_ins (q_new ar cm so sh w) cm p (kids ar p).length (kids ar p).length) n)) < (if n = cm then dp p + 1 else dp n)
    rw [hpar9 n]
    by_cases y : n = cm
    · rw [if_pos y, if_pos y, if_neg (fun z => hcp z.symm)]
      omega
    · have hn9 : cP ar cm n := ((hP n).mp hn).resolve_right y
      have hpc : par9 ar n ≠ cm := by have := (wf_chp hw hn9.1 hn9.2 hn0).2.1; omega
      rw [if_neg y, if_neg y, if_neg hpc]
      exact hd n hn9.1 hn9.2 hn0
  · intro n hn
    obtain ⟨z2, z5, z8, z9, z12, z13, z14⟩ := hw.2.2.2.2.2 n (by omega)
    refine ⟨by rw [e2, if_neg (by omega)]; exact z2, ?_, z8, z9, z12, z13, z14⟩
    show upd (ar 5) p _ n = 0
    rw [upd_o (by omega)]
    exact z5
end T4
