/-! ===== the class's state after a node goes or moves ===== -/
theorem nF_cg {Z : Nat → Nat} {ar ar' : rA} {fi : Nat → Nat → Int32} {nl : Nat → Nat → Int64} {n : Nat} (h3 : ar' 3 n = ar 3 n) (h4 : n ≠ 0 → par9 ar' n = par9 ar n) (h8 : ar' 8 n = ar 8 n) (h9 : ar' 9 n = ar 9 n) (h10 : ar' 10 n = ar 10 n) (h11 : ar' 11 n = ar 11 n) (h12 : ar' 12 n = ar 12 n) (h13 : ar' 13 n = ar 13 n) (h14 : ar' 14 (4 * n + 2) = ar 14 (4 * n + 2)) : nF Z ar' fi nl n = nF Z ar fi nl n := by
  have e1 : nSh Z ar' n = nSh Z ar n := by unfold nSh; rw [h3]
  have e2 : nPa Z ar' n = nPa Z ar n := by
    unfold nPa
    by_cases z : n = 0
    · rw [if_pos z, if_pos z]
    · rw [if_neg z, if_neg z, h4 z]
  have e3 : nCl Z ar' n = nCl Z ar n := by unfold nCl; rw [h14]
  unfold nF
  rw [e1, e2, e3, h8, h9, h10, h11, h12, h13]
theorem BS_cg {ar ar' : rA} {n : Nat} (h3 : ar' 3 n = ar 3 n) (h7 : ar' 7 = ar 7) (h8 : ar' 8 n = ar 8 n) (h9 : ar' 9 n = ar 9 n) (h14 : ar' 14 = ar 14) (h : BS ar n) : BS ar' n := by
  unfold BS at h ⊢
  rw [h3, h7, h8, h9, h14]
  exact h
theorem sFx_cg {Z : Nat → Nat} {ar ar' : rA} {n : Nat} {F : Mm} (h3 : ar' 3 n = ar 3 n) (h7 : ar' 7 = ar 7) (h14 : ar' 14 = ar 14) (h : sFx Z ar n F) : sFx Z ar' n F := by
  unfold sFx at h ⊢
  rw [h3, h7, h14]
  exact h
def gB (ar : rA) (cm v n : Nat) : Bool := decide (n < cm) && decide (¬ ar 2 n = 0) && decide (v ∈ chn ar n)
theorem gB_t {ar : rA} {cm v n : Nat} : gB ar cm v n = true ↔ cP ar cm n ∧ v ∈ chn ar n := by
  unfold gB cP
  rw [Bool.and_eq_true, Bool.and_eq_true, decide_eq_true_eq, decide_eq_true_eq, decide_eq_true_eq]
def naR (Z : Nat → Nat) (cm : Nat) (ar : rA) (v i : Nat) : Nat → Option Nat := fun n => if n < i ∧ gB ar cm v n = true then none else naF Z cm ar n
theorem naR_0 {Z : Nat → Nat} {cm : Nat} {ar : rA} {v : Nat} : naR Z cm ar v 0 = naF Z cm ar := by
  funext n
  exact if_neg (fun z => absurd z.1 (Nat.not_lt_zero n))
theorem naR_at {Z : Nat → Nat} {cm : Nat} {ar : rA} {v i : Nat} : naR Z cm ar v i i = naF Z cm ar i := if_neg (fun z => absurd z.1 (Nat.lt_irrefl i))
theorem naR_n {Z : Nat → Nat} {cm : Nat} {ar : rA} {v i : Nat} (h : gB ar cm v i = false) : naR Z cm ar v (i + 1) = naR Z cm ar v i := by
  funext n
  unfold naR
  by_cases z : n = i
  · rw [z, if_neg (fun y => by rw [h] at y; cases y.2), if_neg (fun y => absurd y.1 (Nat.lt_irrefl i))]
  · by_cases y : n < i ∧ gB ar cm v n = true
    · rw [if_pos y, if_pos ⟨by omega, y.2⟩]
    · rw [if_neg y, if_neg (fun u => y ⟨by omega, u.2⟩)]
theorem naR_s {Z : Nat → Nat} {cm : Nat} {ar : rA} {v i : Nat} (h : gB ar cm v i = true) : va_up (naR Z cm ar v i) i none = naR Z cm ar v (i + 1) := by
  funext n
  unfold va_up naR
  by_cases z : n = i
  · rw [if_pos z, z, if_pos ⟨by omega, h⟩]
  · rw [if_neg z]
    by_cases y : n < i ∧ gB ar cm v n = true
    · rw [if_pos y, if_pos ⟨by omega, y.2⟩]
    · rw [if_neg y, if_neg (fun u => y ⟨by omega, u.2⟩)]
theorem cB_filter (f : Nat → Bool) : ∀ k, ((List.range k).filter f).length = cB f k
  | 0 => rfl
  | k + 1 => by
    rw [List.range_succ, List.filter_append, List.length_append, cB_filter f k, cB]
    by_cases h : f k = true
    · simp [h]
    · simp [h]
theorem gone_n {ar : rA} {cm v : Nat} (hw : wf ar cm) (hv : cP ar cm v) : cB (gB ar cm v) 40 = (pre9 ar v).length := by
  rw [← cB_filter]
  refine (List.Perm.length_eq ((List.perm_ext_iff_of_nodup (wf_pre_nd hw v hv.1 hv.2) (List.Pairwise.filter _ List.nodup_range)).mpr (fun n => ?_))).symm
  rw [List.mem_filter, List.mem_range, gB_t]
  have h40 := hw.1.2
  constructor
  · intro h
    have h9 := wf_pre_ch hw v hv.1 hv.2 n h
    exact ⟨by have := h9.1; omega, ⟨h9.1, h9.2.1⟩, h9.2.2⟩
  · rintro ⟨-, h1, h2⟩
    exact (pre_ch hw hv h1).mpr h2
section CHG
variable {D : mD} {Z : Nat → Nat} {F : Mm} {cm : Nat} {g : Int32} {ar : rA} {fi : Nat → Nat → Int32} {nl : Nat → Nat → Int64} {L : List Nat} {rw : Nat → Int32} {M : Mm}
theorem s_remove_e {v : Nat} (hv : v < 2 ^ 31) : s_remove ar (nI v) = upA (q_out ar (par9 ar v) (plc ar v) (mny ar (par9 ar v) - 1)) 2 (q_clr (ar 2) (pre9 ar v)) := by
  unfold s_remove
  rw [show jN (nI v) = v from nI_clamp hv]
theorem cR.of_remove (hw : wf ar cm) {v : Nat} (hv : cP ar cm v) (h0 : v ≠ 0) (h : cW D Z (cP ar cm) (nF Z ar fi nl) (upA (lsF ar L) (par9 ar v) (outL (kids ar (par9 ar v)) (plc ar v))) (naR Z cm ar v 40) (ar 16) rw (mfF Z cm g) F M) (hS : ∀ n, cP ar cm n → sFx Z ar n F) : cR D Z F cm g (s_remove ar (nI v)) nl rw M := by
  have h40 := hw.1.2
  have hv1 := hv.1
  obtain ⟨hP, hw2, hk⟩ := wf_remove hw hv h0
  have e := s_remove_e (ar := ar) (v := v) (by omega)
  have hna : naR Z cm ar v 40 = naF Z cm (s_remove ar (nI v)) := by
    funext n
    have hPn := hP n
    unfold naR naF
    by_cases h1 : cP (s_remove ar (nI v)) cm n
    · obtain ⟨a1, a2⟩ := hPn.mp h1
      rw [if_neg (fun z => a2 (gB_t.mp z.2).2), if_pos (show n < cm ∧ ¬ ar 2 n = 0 from a1), if_pos (show n < cm ∧ ¬ s_remove ar (nI v) 2 n = 0 from h1)]
    · rw [if_neg (show ¬ (n < cm ∧ ¬ s_remove ar (nI v) 2 n = 0) from h1)]
      by_cases h2 : cP ar cm n
      · have hm : v ∈ chn ar n := Decidable.not_not.mp (fun y => h1 (hPn.mpr ⟨h2, y⟩))
        rw [if_pos ⟨by have := h2.1; omega, gB_t.mpr ⟨h2, hm⟩⟩]
      · by_cases h3 : n < 40 ∧ gB ar cm v n = true
        · rw [if_pos h3]
        · rw [if_neg h3, if_neg (show ¬ (n < cm ∧ ¬ ar 2 n = 0) from h2)]
  have h16 : s_remove ar (nI v) 16 = ar 16 := by rw [e]; rfl
  refine ⟨cP ar cm, nF Z ar fi nl, upA (lsF ar L) (par9 ar v) (outL (kids ar (par9 ar v)) (plc ar v)), fi, ?_, fun n hn => ?_, fun n hn => ?_⟩
  · rw [h16, ← hna]
    exact h
  · have hn1 := ((hP n).mp hn).1
    refine ⟨hn1, ?_, ?_⟩
    · rw [e]
      exact (nF_cg rfl (fun _ => rfl) rfl rfl rfl rfl rfl rfl rfl).symm
    · rw [hk n hn]
      unfold KO
      by_cases z : n = par9 ar v
      · rw [if_pos z, z, upA_s]
      · rw [if_neg z, upA_n z]
        exact if_neg (by have := hn1.1; omega)
  · rw [e]
    exact sFx_cg rfl rfl rfl (hS n ((hP n).mp hn).1)
theorem BD_remove (hw : wf ar cm) (hb : BD ar cm) {v : Nat} (hv : cP ar cm v) (h0 : v ≠ 0) : BD (s_remove ar (nI v)) cm := by
  have h40 := hw.1.2
  have hv1 := hv.1
  intro n hn
  have hn1 := ((wf_remove hw hv h0).1 n).mp hn
  rw [s_remove_e (by omega)]
  exact BS_cg rfl rfl rfl rfl rfl (hb n hn1.1)
theorem s_move_e (hw : wf ar cm) {v q pl : Nat} (hv : cP ar cm v) (h0 : v ≠ 0) (hq : cP ar cm q) (hpl : pl < 2 ^ 31) : s_move ar (nI v) (nI q) (nI pl) = q_ins (q_out ar (par9 ar v) (plc ar v) (mny ar (par9 ar v) - 1)) v q pl (KO ar v q).length := by
  have h40 := hw.1.2
  have hv1 := hv.1
  have hq1 := hq.1
  unfold s_move
  rw [show jN (nI v) = v from nI_clamp (by omega), show jN (nI q) = q from nI_clamp (by omega), show jN (nI pl) = pl from nI_clamp hpl, KO_len hw hv h0 hq]
theorem BD_move (hw : wf ar cm) (hb : BD ar cm) {v q pl : Nat} (hv : cP ar cm v) (h0 : v ≠ 0) (hq : cP ar cm q) (hpl : pl < 2 ^ 31) : BD (s_move ar (nI v) (nI q) (nI pl)) cm := by
  intro n hn
  rw [s_move_e hw hv h0 hq hpl] at hn ⊢
  have hn : cP ar cm n := hn
  exact BS_cg rfl rfl rfl rfl rfl (hb n hn)
theorem cR.of_move (hw : wf ar cm) {v q pl : Nat} (hv : cP ar cm v) (h0 : v ≠ 0) (hq : cP ar cm q) (h3 : ar 3 q = 0) (hch : v ∉ chn ar q) (hpl : pl ≤ (KO ar v q).length)
    (h : cW D Z (cP ar cm) (upA (nF Z ar fi nl) v ((nF Z ar fi nl v).set 3 (.ref (Z (100 + q))))) (upA (upA (lsF ar L) (par9 ar v) (outL (kids ar (par9 ar v)) (plc ar v))) q (insL (KO ar v q) pl v)) (naF Z cm ar) (ar 16) rw (mfF Z cm g) F M) (hS : ∀ n, cP ar cm n → sFx Z ar n F) : cR D Z F cm g (s_move ar (nI v) (nI q) (nI pl)) nl rw M := by
  have h40 := hw.1.2
  have hv1 := hv.1
  have hq1 := hq.1
  have hl := KO_len hw hv h0 hq
  have hkq := kids_le hw hq
  rw [kids_len] at hkq
  have hpl2 : pl < 2 ^ 31 := by rw [hl] at hpl; split at hpl <;> omega
  obtain ⟨hP, hw2, hk⟩ := wf_move hw hv h0 hq h3 hch hpl
  have e := s_move_e hw hv h0 hq hpl2
  have e4 : ∀ n, s_move ar (nI v) (nI q) (nI pl) 4 n = if n = v then nI q else ar 4 n := fun n => by rw [e]; rfl
  have hna : naF Z cm ar = naF Z cm (s_move ar (nI v) (nI q) (nI pl)) := by rw [e]; rfl
  have h16 : s_move ar (nI v) (nI q) (nI pl) 16 = ar 16 := by rw [e]; rfl
  refine ⟨cP ar cm, upA (nF Z ar fi nl) v ((nF Z ar fi nl v).set 3 (.ref (Z (100 + q)))), upA (upA (lsF ar L) (par9 ar v) (outL (kids ar (par9 ar v)) (plc ar v))) q (insL (KO ar v q) pl v), fi, ?_, fun n hn => ?_, fun n hn => ?_⟩
  · rw [h16, ← hna]
    exact h
  · have hn1 := (hP n).mp hn
    refine ⟨hn1, ?_, ?_⟩
    · by_cases z : n = v
      · rw [z, upA_s]
        have hp : par9 (s_move ar (nI v) (nI q) (nI pl)) v = q := by
          unfold par9
          rw [e4 v, if_pos rfl, nI_clamp (by omega)]
        have e2 : nPa Z (s_move ar (nI v) (nI q) (nI pl)) v = some (Z (100 + q)) := by
          unfold nPa
          rw [if_neg h0, hp]
        unfold nF
        rw [e2, e]
        rfl
      · rw [upA_n z]
        refine (nF_cg (by rw [e]; rfl) (fun _ => ?_) (by rw [e]; rfl) (by rw [e]; rfl) (by rw [e]; rfl) (by rw [e]; rfl) (by rw [e]; rfl) (by rw [e]; rfl) (by rw [e]; rfl)).symm
        unfold par9
        rw [e4 n, if_neg z]
    · rw [hk n hn]
      unfold KM
      by_cases z : n = q
      · rw [if_pos z, z, upA_s]
      · rw [if_neg z, upA_n z]
        unfold KO
        by_cases y : n = par9 ar v
        · rw [if_pos y, y, upA_s]
        · rw [if_neg y, upA_n y]
          exact if_neg (by have := hn1.1; omega)
  · rw [e]
    exact sFx_cg rfl rfl rfl (hS n ((hP n).mp hn))
end CHG
