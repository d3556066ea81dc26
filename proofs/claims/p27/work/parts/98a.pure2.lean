/-! ===== a pixel's answers ===== -/
theorem pnt_lt {ar : rA} {g : Int32} {L : List Nat} {cv : Nat → Int32} : ∀ N j, j < N → q_pnt ar g L cv N j = q_val ar g L (nI (j % 64)) (nI (j / 64))
  | 0, j, h => absurd h (Nat.not_lt_zero j)
  | N + 1, j, h => by
    rw [q_pnt]
    by_cases z : j = N
    · rw [z, upd_s9]
    · rw [upd_n9 z]
      exact pnt_lt N j (by omega)
theorem chg_0 {ar : rA} {g : Int32} {cv : Nat → Int32} {tl : Nat} (ht : tl < 48) : ∀ k, k ≤ 64 → q_chg (upA ar 16 (q_pnt ar g (pre9 ar 0) cv 3072)) g (pre9 (upA ar 16 (q_pnt ar g (pre9 ar 0) cv 3072)) 0) tl k = 0
  | 0, _ => rfl
  | k + 1, h => by
    rw [q_chg, chg_0 ht k (by omega), cv_pre9, cv_val, if_pos]
    rw [upA_s, pnt_lt 3072 _ (by omega)]
    rw [show (64 * (8 * (tl / 8) + k / 8) + (8 * (tl % 8) + k % 8)) % 64 = 8 * (tl % 8) + k % 8 by omega, show (64 * (8 * (tl / 8) + k / 8) + (8 * (tl % 8) + k % 8)) / 64 = 8 * (tl / 8) + k / 8 by omega]
section PX
variable {ar : rA} {cm : Nat} {px py : Int32}
theorem shown3 {n : Nat} (h : q_shown ar n px py = true) : ¬ ar 3 n = 0 := by
  unfold q_shown q_sS at h
  rw [Bool.and_eq_true, Bool.and_eq_true, decide_eq_true_eq] at h
  exact h.1.1
theorem pre_shape (hw : wf ar cm) {n : Nat} (hn : cP ar cm n) (h3 : ¬ ar 3 n = 0) : pre9 ar n = [n] := by
  have h1 := kids_sh hw hn h3
  have h2 : mny ar n = 0 := by rw [← kids_len, h1]; rfl
  rw [wf_pre hw hn.1 hn.2, h2, pks_0]
theorem sh_any (hw : wf ar cm) {n : Nat} (hn : cP ar cm n) (h3 : ¬ ar 3 n = 0) : q_any ar (pre9 ar n) px py = q_shown ar n px py := by
  rw [pre_shape hw hn h3]
  simp [q_any]
theorem any_of {a n : Nat} (h : n ∈ pre9 ar a) (hs : q_shown ar n px py = true) : q_any ar (pre9 ar a) px py = true := List.any_eq_true.mpr ⟨n, h, hs⟩
theorem root_ch (hw : wf ar cm) : ∀ x, x < cm → ¬ ar 2 x = 0 → 0 ∈ chn ar x := by
  refine wf_ind hw (by rw [wf_ch0 hw]; exact List.mem_singleton.mpr rfl) (fun x hx hp h0 ih => ?_)
  rw [(wf_chp hw hx hp h0).1]
  exact List.mem_cons_of_mem _ ih
theorem in_root (hw : wf ar cm) {n : Nat} (hn : cP ar cm n) : n ∈ pre9 ar 0 := wf_ch_pre hw (wf_root hw).1 (wf_root hw).2 n hn.1 hn.2 (root_ch hw n hn.1 hn.2)
theorem of_root (hw : wf ar cm) {n : Nat} (h : n ∈ pre9 ar 0) : cP ar cm n := by
  have h1 := wf_pre_ch hw 0 (wf_root hw).1 (wf_root hw).2 n h
  exact ⟨h1.1, h1.2.1⟩
/-- a shape that shows -/
def shn (ar : rA) (cm : Nat) (px py : Int32) (m : Nat) : Prop := cP ar cm m ∧ ¬ ar 3 m = 0 ∧ q_shown ar m px py = true
theorem any_root (hw : wf ar cm) : q_any ar (pre9 ar 0) px py = true ↔ ∃ m, m < cm ∧ shn ar cm px py m := by
  constructor
  · intro h
    obtain ⟨m, h1, h2⟩ := List.any_eq_true.mp h
    have h3 := of_root hw h1
    exact ⟨m, h3.1, h3, shown3 h2, h2⟩
  · rintro ⟨m, -, h1, -, h2⟩
    exact any_of (in_root hw h1) h2
theorem par_ch (hw : wf ar cm) {n a : Nat} (hn : cP ar cm n) (ha : a ∈ chn ar n) (h0 : a ≠ 0) : par9 ar a ∈ chn ar n := by
  have h1 := wf_all hw hn.1 hn.2 ha
  obtain ⟨c1, c2, c3⟩ := wf_chp hw h1.1 h1.2 h0
  exact wf_ch_sub hw n hn.1 hn.2 ha _ (by rw [c1]; exact List.mem_cons_of_mem _ (wf_self hw c2 c3))
theorem anc_any (hw : wf ar cm) {n a : Nat} (hn : cP ar cm n) (hs : q_shown ar n px py = true) (ha : a ∈ chn ar n) : q_any ar (pre9 ar a) px py = true := by
  have h1 := wf_all hw hn.1 hn.2 ha
  exact any_of (wf_ch_pre hw h1.1 h1.2 n hn.1 hn.2 ha) hs
/-- what is known of a pixel once the nodes ahead of n have been asked -/
def pxI (ar : rA) (cm : Nat) (px py : Int32) (g0 n lo hi : Nat) (any : Bool) : Prop :=
  (lo ≤ g0 ∧ g0 ≤ hi ∧ hi ≤ 255) ∧ (∀ m, m < n → shn ar cm px py m → ∃ b, lo ≤ b ∧ b ≤ hi ∧ q_fn ar m = nI b) ∧ (any = true ↔ ∃ m, m < n ∧ shn ar cm px py m)
theorem pxI_0 (hw : wf ar cm) {g0 : Nat} (hg : g0 ≤ 255) : pxI ar cm px py g0 1 g0 g0 false := by
  have no : ∀ m, m < 1 → shn ar cm px py m → False := fun m hm hs => hs.2.1 (by rw [show m = 0 by omega]; exact hw.2.1.2.1)
  exact ⟨⟨Nat.le_refl _, Nat.le_refl _, hg⟩, fun m hm hs => (no m hm hs).elim, fun h => (by cases h), fun ⟨m, hm, hs⟩ => (no m hm hs).elim⟩
theorem pxI_no {g0 n lo hi : Nat} {any : Bool} (h : pxI ar cm px py g0 n lo hi any) (hn : ¬ shn ar cm px py n) : pxI ar cm px py g0 (n + 1) lo hi any := by
  obtain ⟨h1, h2, h3⟩ := h
  have key : ∀ m, m < n + 1 → shn ar cm px py m → m < n := fun m hm hs => by
    rcases Nat.lt_or_ge m n with z | z
    · exact z
    · exact absurd (by rw [← show m = n by omega]; exact hs) hn
  exact ⟨h1, fun m hm hs => h2 m (key m hm hs) hs, h3.trans ⟨fun ⟨m, hm, hs⟩ => ⟨m, by omega, hs⟩, fun ⟨m, hm, hs⟩ => ⟨m, key m hm hs, hs⟩⟩⟩
theorem pxI_yes {g0 n lo hi b : Nat} {any : Bool} (h : pxI ar cm px py g0 n lo hi any) (hn : shn ar cm px py n) (hb : b ≤ 255) (hf : q_fn ar n = nI b) : pxI ar cm px py g0 (n + 1) (min lo b) (max hi b) true := by
  obtain ⟨h1, h2, h3⟩ := h
  refine ⟨by omega, fun m hm hs => ?_, fun _ => ⟨n, by omega, hn⟩, fun _ => rfl⟩
  rcases Nat.lt_or_ge m n with z | z
  · obtain ⟨b2, e1, e2, e3⟩ := h2 m z hs
    exact ⟨b2, by omega, by omega, e3⟩
  · rw [show m = n by omega]
    exact ⟨b, by omega, by omega, hf⟩
theorem mn_N {a b : Nat} (ha : a < 2 ^ 31) (hb : b < 2 ^ 31) : (if nI b < nI a then nI b else nI a) = nI (min a b) := by
  by_cases z : b < a
  · rw [if_pos (nI_lt z ha), Nat.min_eq_right (by omega)]
  · rw [if_neg (fun y => z ((nI_ltI hb ha).mp y)), Nat.min_eq_left (by omega)]
theorem mx_N {a b : Nat} (ha : a < 2 ^ 31) (hb : b < 2 ^ 31) : (if nI a < nI b then nI b else nI a) = nI (max a b) := by
  by_cases z : a < b
  · rw [if_pos (nI_lt z hb), Nat.max_eq_right (by omega)]
  · rw [if_neg (fun y => z ((nI_ltI ha hb).mp y)), Nat.max_eq_left (by omega)]
/-- the pixel's value -/
theorem px_val (hw : wf ar cm) (hB : PB ar) {g0 lo hi : Nat} {any : Bool} (h : pxI ar cm px py g0 cm lo hi any) : ∃ v, lo ≤ v ∧ v ≤ hi ∧ q_val ar (nI g0) (pre9 ar 0) px py = nI v := by
  obtain ⟨h1, h2, h3⟩ := h
  exact pb_val hB h1.2.2 (pre9 ar 0) g0 h1.1 h1.2.1 (fun n hn hs => by
    have hc := of_root hw hn
    exact h2 n hc.1 ⟨hc, shown3 hs, hs⟩)
theorem px_any (hw : wf ar cm) {g0 lo hi : Nat} {any : Bool} (h : pxI ar cm px py g0 cm lo hi any) : q_any ar (pre9 ar 0) px py = any := by
  obtain ⟨-, -, h3⟩ := h
  cases ha : any with
  | true => exact (any_root hw).mpr (h3.mp ha)
  | false =>
    cases hq : q_any ar (pre9 ar 0) px py with
    | false => rfl
    | true => exact absurd (h3.mpr ((any_root hw).mp hq)) (by rw [ha]; decide)
theorem cnt_pos (hw : wf ar cm) : ∀ k, 1 ≤ k → 1 ≤ q_cnt ar k
  | 0, h => absurd h (by decide)
  | 1, _ => by
    show 1 ≤ 0 + (if ar 2 0 = 0 then 0 else 1)
    rw [if_neg (wf_root hw).2]
    exact Nat.le_refl _
  | k + 2, _ => Nat.le_trans (cnt_pos hw (k + 1) (by omega)) (Nat.le_add_right _ _)
theorem pix_0 {x y : Nat} (hx : x < 64) (hy : y < 48) : k_pix (nI x) (nI y) = 0 := by
  unfold k_pix q_pix
  exact if_pos (by rw [show q_in (nI x) 0 63 = true from in_N (lo := 0) (hi := 63) (Nat.zero_le _) (by omega) (by omega), show q_in (nI y) 0 47 = true from in_N (lo := 0) (hi := 47) (Nat.zero_le _) (by omega) (by omega)]; rfl)
theorem tile_0 {t : Nat} (ht : t < 48) : k_tile (nI t) = 0 := by
  unfold k_tile
  exact if_pos (in_N (lo := 0) (hi := 47) (Nat.zero_le _) (by omega) (by omega))
end PX
