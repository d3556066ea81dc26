/-! ===== what the acts ask, and what they keep ===== -/
theorem q_in_i {v lo hi : Int32} (h1 : lo.toInt ≤ v.toInt) (h2 : v.toInt ≤ hi.toInt) : q_in v lo hi = true := q_in_t.mpr ⟨Int32.le_iff_toInt_le.mpr h1, Int32.le_iff_toInt_le.mpr h2⟩
theorem far_i {v : Int32} (h1 : -100 ≤ v.toInt) (h2 : v.toInt ≤ 100) : q_far v = false := by
  unfold q_far
  rw [q_in_i (lo := -100) (hi := 100) h1 h2]
  rfl
theorem si_toInt {a b : Nat} (ha : a < 1000) (hb : b < 1000) : (nI a - nI b).toInt = (a : Int) - b := pk_sub_toInt (by omega) (by omega)
theorem far_s {a b : Nat} (ha : a ≤ 100) (hb : b ≤ 100) : q_far (nI a - nI b) = false := far_i (by rw [si_toInt (by omega) (by omega)]; omega) (by rw [si_toInt (by omega) (by omega)]; omega)
theorem far_ss {a b c : Nat} (ha : a ≤ 100) (hb : b ≤ 50) (hc : c ≤ 50) : q_far (nI a - nI b - nI c) = false := by
  rw [Int32.sub_sub, nI_add]
  exact far_s ha (by omega)
theorem in_N {a lo hi : Nat} (h1 : lo ≤ a) (h2 : a ≤ hi) (h3 : hi < 1000) : q_in (nI a) (nI lo) (nI hi) = true := q_in_i (by rw [nI_toInt (by omega), nI_toInt (by omega)]; omega) (by rw [nI_toInt (by omega), nI_toInt (by omega)]; omega)
section KP
variable {ar : rA} {cm : Nat}
theorem node_in (hw : wf ar cm) {u : Nat} (hu : cP ar cm u) : q_node cm ar (nI u) = true := q_node_t hw.1.2 hu
theorem jN_at {u : Nat} (hu : u < 2 ^ 31) : jN (nI u) = u := nI_clamp hu
theorem cP_40 (hw : wf ar cm) {u : Nat} (hu : cP ar cm u) : u < 40 := by
  have := hw.1
  have := hu.1
  omega
theorem addk_0 (hw : wf ar cm) {u : Nat} (hu : cP ar cm u) (h3 : ar 3 u = 0) (hc : cm < 40) {so : Int32} {ok : Bool} (hok : ok = true) : q_addk cm ar (nI u) so ok = 0 := by
  unfold q_addk
  rw [node_in hw hu, hok, if_neg (by decide), if_neg (by decide), if_neg]
  rw [show (nI u).toNatClampNeg = u from jN_at (by have := cP_40 hw hu; omega)]
  rintro (z | z)
  · exact z h3
  · rw [show (40 : Int32) = nI 40 from rfl, nI_eq (by omega) (by omega)] at z
    omega
theorem okR_0 {a b w h : Nat} (ha : a < 70) (hb : b < 55) (hw : w < 40) (hh : h < 40) : q_okR (nI a - 5) (nI b - 5) (1 + nI w) (1 + nI h) = true := by
  unfold q_okR
  rw [show (5 : Int32) = nI 5 from rfl, far_s (by omega) (by omega), far_s (by omega) (by omega), show (1 : Int32) = nI 1 from rfl, nI_add, nI_add, show (100 : Int32) = nI 100 from rfl, in_N (by omega) (by omega) (by omega), in_N (by omega) (by omega) (by omega)]
  rfl
theorem okD_0 {a b r : Nat} (ha : a < 70) (hb : b < 55) (hr : r < 30) : q_okD (nI a - 5) (nI b - 5) (1 + nI r) = true := by
  unfold q_okD
  rw [show (5 : Int32) = nI 5 from rfl, far_s (by omega) (by omega), far_s (by omega) (by omega), show (1 : Int32) = nI 1 from rfl, nI_add, show (60 : Int32) = nI 60 from rfl, in_N (by omega) (by omega) (by omega)]
  rfl
theorem okT_0 {a b c d : Nat} (ha : a < 70) (hb : b < 55) (hc : c < 90) (hd : d < 70) : q_okT (nI a - 5) (nI b - 5) (nI c - 20) (nI d - 10) (nI b - 5) (nI c - 20) = true := by
  unfold q_okT
  rw [show (5 : Int32) = nI 5 from rfl, show (20 : Int32) = nI 20 from rfl, show (10 : Int32) = nI 10 from rfl, far_s (show a ≤ 100 by omega) (show 5 ≤ 100 by omega), far_s (show b ≤ 100 by omega) (show 5 ≤ 100 by omega), far_s (show c ≤ 100 by omega) (show 20 ≤ 100 by omega), far_s (show d ≤ 100 by omega) (show 10 ≤ 100 by omega)]
  rfl
theorem place_0 (hw : wf ar cm) {n j k : Nat} (hn : cP ar cm n) (hj : j < 41) (hk : k < 31) : k_place cm ar (nI n) (nI j - 20) (nI k - 15) = 0 := by
  unfold k_place
  rw [node_in hw hn, if_neg (by decide), show (20 : Int32) = nI 20 from rfl, show (15 : Int32) = nI 15 from rfl, far_s (show j ≤ 100 by omega) (by omega), far_s (show k ≤ 100 by omega) (by omega)]
  rfl
theorem fill_0 (hw : wf ar cm) {n : Nat} {f : Int32} (hn : cP ar cm n) (hf : f = -1 ∨ ∃ j, j < 256 ∧ f = nI j) : k_setFill cm ar (nI n) f = 0 := by
  unfold k_setFill
  rw [node_in hw hn, if_neg (by decide), if_neg]
  rcases hf with rfl | ⟨j, hj, rfl⟩
  · decide
  · rw [q_in_i (by rw [nI_toInt (by omega)]; show (-1 : Int) ≤ _; omega) (by rw [nI_toInt (by omega)]; show _ ≤ (255 : Int); omega)]
    decide
theorem opa_0 (hw : wf ar cm) {n j : Nat} (hn : cP ar cm n) (hj : j < 9) : k_setOpacity cm ar (nI n) (nI j) = 0 := by
  unfold k_setOpacity
  rw [node_in hw hn, if_neg (by decide), show (0 : Int32) = nI 0 from rfl, show (8 : Int32) = nI 8 from rfl, in_N (Nat.zero_le _) (by omega) (by omega), if_neg (by decide)]
theorem clip_0 (hw : wf ar cm) {n a b h : Nat} {w : Int32} (hn : cP ar cm n) (ha : a < 70) (hb : b < 55) (hh : h < 50) (hwd : ∃ j, j ≤ 60 ∧ w = nI j) : k_setClip cm ar (nI n) (nI a - 5 - 5) (nI b - 5 - 5) w (nI h) = 0 := by
  obtain ⟨j, hj, rfl⟩ := hwd
  unfold k_setClip
  rw [node_in hw hn, if_neg (by decide), show (5 : Int32) = nI 5 from rfl, far_ss (show a ≤ 100 by omega) (by omega) (by omega), far_ss (show b ≤ 100 by omega) (by omega) (by omega), show q_in (nI j) 0 100 = true from in_N (lo := 0) (hi := 100) (Nat.zero_le _) (by omega) (by omega), show q_in (nI h) 0 100 = true from in_N (lo := 0) (hi := 100) (Nat.zero_le _) (by omega) (by omega)]
  rfl
theorem mask_0 (hw : wf ar cm) {n : Nat} (hn : cP ar cm n) (h3 : ar 3 n = 0) : k_setMask cm ar (nI n) = 0 := by
  unfold k_setMask
  rw [node_in hw hn, if_neg (by decide), if_neg]
  rw [jN_at (by have := cP_40 hw hn; omega)]
  exact fun z => z h3
theorem ground_0 {j : Nat} (hj : j < 256) : k_setGround (nI j) = 0 := by
  unfold k_setGround
  exact if_pos (in_N (lo := 0) (hi := 255) (Nat.zero_le _) (by omega) (by omega))
theorem remove_0 (hw : wf ar cm) {n : Nat} (hn : cP ar cm n) (h0 : n ≠ 0) : k_remove cm ar (nI n) = 0 := by
  unfold k_remove
  rw [node_in hw hn, if_neg (by decide), if_neg]
  intro z
  have := congrArg Int32.toNatClampNeg z
  rw [nI_clamp (by have := cP_40 hw hn; omega)] at this
  exact h0 this
theorem move_0 (hw : wf ar cm) {n u pl : Nat} (hn : cP ar cm n) (h0 : n ≠ 0) (hu : cP ar cm u) (h3 : ar 3 u = 0) (hch : n ∉ chn ar u) (hpl : pl ≤ (KO ar n u).length) : k_move cm ar (nI n) (nI u) (nI pl) = 0 := by
  have hn4 := cP_40 hw hn
  have hu4 := cP_40 hw hu
  obtain ⟨m, m1, m2, m3, -, -⟩ := wf_mny hw hu.1 hu.2
  unfold k_move
  rw [node_in hw hn, node_in hw hu, if_neg (by decide), if_neg]
  rw [jN_at (by omega), jN_at (by omega)]
  rintro (z | z | z | z)
  · have := congrArg Int32.toNatClampNeg z
    rw [nI_clamp (by omega)] at this
    exact h0 this
  · exact z h3
  · exact hch z
  · rw [KO_len hw hn h0 hu, m1] at hpl
    obtain ⟨e1, e2, -⟩ := wf_place hw hn.1 hn.2 h0
    by_cases hp : par9 ar n = u
    · rw [if_pos hp] at hpl
      have hk := (kids_plc hw hn h0).2.1
      rw [hp, kids_len, m1] at hk
      rw [e2, hp, if_pos rfl, m3, show (1 : Int32) = nI 1 from rfl, pk_sub (by omega), show (0 : Int32) = nI 0 from rfl, in_N (Nat.zero_le _) hpl (by omega)] at z
      cases z
    · rw [if_neg hp] at hpl
      rw [e2, if_neg (fun y => hp ((nI_eq (by omega) (by omega)).mp y)), m3, show nI m - 0 = nI m from Int32.sub_zero _, show (0 : Int32) = nI 0 from rfl, in_N (Nat.zero_le _) hpl (by omega)] at z
      cases z
end KP
section PBK
variable {ar : rA} {cm : Nat}
theorem PB_10 (h : PB ar) {n : Nat} {v : Int32} (hv : v = -1 ∨ ∃ b, b ≤ 255 ∧ v = nI b) {x : rA} (h10 : x 10 = upd (ar 10) n v) (h11 : x 11 = ar 11) (h12 : x 12 = ar 12) : PB x := fun m => by
  rw [h10, h11, h12]
  refine ⟨?_, (h m).2⟩
  by_cases z : m = n
  · rw [z, upd_s9]
    exact hv
  · rw [upd_n9 z]
    exact (h m).1
theorem PB_11 (h : PB ar) {n : Nat} {v w : Int32} (hv : ∃ c, c ≤ 8 ∧ v = nI c) (hw : w = 0 ∨ w = 1) {x : rA} (h10 : x 10 = ar 10) (h11 : x 11 = upd (ar 11) n v) (h12 : x 12 = upd (ar 12) n w) : PB x := fun m => by
  rw [h10, h11, h12]
  refine ⟨(h m).1, ?_⟩
  by_cases z : m = n
  · rw [z, upd_s9, upd_s9]
    exact ⟨hv, hw⟩
  · rw [upd_n9 z, upd_n9 z]
    exact (h m).2
theorem PB_same (h : PB ar) {x : rA} (h10 : x 10 = ar 10) (h11 : x 11 = ar 11) (h12 : x 12 = ar 12) : PB x := fun m => by
  rw [h10, h11, h12]
  exact h m
theorem PB_add (h : PB ar) {v so : Int32} {sh : Nat → Int32} {w : Nat} : PB (q_addS cm ar v so sh w) := fun m => by
  show ((upd (ar 10) cm (-1)) m = -1 ∨ ∃ b, b ≤ 255 ∧ (upd (ar 10) cm (-1)) m = nI b) ∧ (∃ c, c ≤ 8 ∧ (upd (ar 11) cm 8) m = nI c) ∧ (ar 12 m = 0 ∨ ar 12 m = 1)
  by_cases z : m = cm
  · rw [z, upd_s9, upd_s9]
    exact ⟨Or.inl rfl, ⟨8, Nat.le_refl _, rfl⟩, (h cm).2.2⟩
  · rw [upd_n9 z, upd_n9 z]
    exact h m
theorem PB_0 : PB q_ar0 := fun m => by
  show ((upd (fun _ => 0) 0 (-1)) m = -1 ∨ ∃ b, b ≤ 255 ∧ (upd (fun _ => (0 : Int32)) 0 (-1)) m = nI b) ∧ (∃ c, c ≤ 8 ∧ (upd (fun _ => (0 : Int32)) 0 8) m = nI c) ∧ ((0 : Int32) = 0 ∨ (0 : Int32) = 1)
  by_cases z : m = 0
  · rw [z, upd_s9, upd_s9]
    exact ⟨Or.inl rfl, ⟨8, Nat.le_refl _, rfl⟩, Or.inl rfl⟩
  · rw [upd_n9 z, upd_n9 z]
    exact ⟨Or.inr ⟨0, Nat.zero_le _, rfl⟩, ⟨0, Nat.zero_le _, rfl⟩, Or.inl rfl⟩
end PBK
section TK
variable {ar : rA} {cm : Nat} {nr : Nat → Option Nat} {B : Nat → Nat → Int32} {K : Nat → List Nat}
theorem T_set (h : hTT ar cm nr B K) {ar' : rA} (h2 : ar' 2 = ar 2) (hk : ∀ n, kids ar' n = kids ar n) {n : Nat} {r : Nat → Int32}
    (hm : ∀ m, m ≠ n → ar' 3 m = ar 3 m ∧ ar' 4 m = ar 4 m ∧ ar' 8 m = ar 8 m ∧ ar' 10 m = ar 10 m ∧ ar' 11 m = ar 11 m ∧ ar' 13 m = ar 13 m ∧ ar' 14 (4 * m + 2) = ar 14 (4 * m + 2))
    (hn : r 0 = ar' 3 n ∧ r 1 = ar' 4 n ∧ r 2 = ar' 8 n ∧ r 4 = ar' 10 n ∧ r 5 = ar' 11 n ∧ r 7 = ar' 13 n ∧ r 10 = ar' 14 (4 * n + 2)) : hTT ar' cm nr (upA B n r) K := by
  have hc : ∀ m, cP ar' cm m ↔ cP ar cm m := fun m => by unfold cP; rw [h2]
  obtain ⟨t1, t2, t3, t4⟩ := h
  refine ⟨fun m hm4 => (t1 m hm4).trans (hc m).symm, fun m hmp => ?_, fun m hmp => (t3 m ((hc m).mp hmp)).trans (hk m).symm, t4⟩
  by_cases z : m = n
  · rw [z, upA_s]
    exact hn
  · rw [upA_n z]
    obtain ⟨e1, e2, e3, e4, e5, e6, e7⟩ := hm m z
    rw [e1, e2, e3, e4, e5, e6, e7]
    exact t2 m ((hc m).mp hmp)
theorem T_add (h : hTT ar cm nr B K) (hw : wf ar cm) (hc : cm < 40) {u : Nat} (hu : cP ar cm u) (h3 : ar 3 u = 0) {so : Int32} {sh : Nat → Int32} {w qq : Nat} {row : Nat → Int32} (hr : ∀ i, i < 12 → row i = nR so (nI u) i) : hTT (q_addS cm ar (nI u) so sh w) (cm + 1) (va_up nr cm (some qq)) (upA B cm row) (upA K u (K u ++ [cm])) := by
  obtain ⟨a1, a2, a3⟩ := wf_add hw hc hu h3 so sh w
  obtain ⟨t1, t2, t3, t4⟩ := h
  have hcm := hw.2.2.2.2.2 cm (Nat.le_refl _)
  have hun : u ≠ cm := fun z => by have := hu.1; omega
  have e4 : ∀ n, (q_addS cm ar (nI u) so sh w) 4 n = (upd (ar 4) cm (nI u)) n := fun n => by rw [q_addS_e hw hu]; rfl
  refine ⟨fun n hn => ?_, fun n hn => ?_, fun n hn => ?_, fun n hn => ?_⟩
  · rw [a1 n]
    by_cases z : n = cm
    · rw [z, va_up_s]
      exact ⟨fun _ => Or.inr rfl, fun _ => ⟨qq, rfl⟩⟩
    · rw [va_up_n z]
      exact (t1 n hn).trans ⟨Or.inl, fun y => y.resolve_right z⟩
  · show _ = (upd (ar 3) cm so) n ∧ _ = (q_addS cm ar (nI u) so sh w) 4 n ∧ _ = ar 8 n ∧ _ = (upd (ar 10) cm (-1)) n ∧ _ = (upd (ar 11) cm 8) n ∧ _ = ar 13 n ∧ _ = ar 14 (4 * n + 2)
    rw [e4]
    by_cases z : n = cm
    · rw [z, upA_s, upd_s9, upd_s9, upd_s9, upd_s9, hr 0 (by decide), hr 1 (by decide), hr 2 (by decide), hr 4 (by decide), hr 5 (by decide), hr 7 (by decide), hr 10 (by decide), hcm.2.2.1, hcm.2.2.2.2.2.1, hcm.2.2.2.2.2.2 2 (by decide)]
      exact ⟨rfl, rfl, rfl, rfl, rfl, rfl, rfl⟩
    · rw [upA_n z, upd_n9 z, upd_n9 z, upd_n9 z, upd_n9 z]
      rcases (a1 n).mp hn with y | y
      · exact t2 n y
      · exact absurd y z
  · rw [a3 n hn]
    unfold KA
    by_cases z : n = u
    · rw [if_pos z, z, upA_s, t3 u hu]
    · rw [if_neg z, upA_n z]
      by_cases z2 : n = cm
      · rw [if_pos z2, z2]
        exact t4 cm (Nat.le_refl _)
      · rw [if_neg z2]
        rcases (a1 n).mp hn with y | y
        · exact t3 n y
        · exact absurd y z2
  · rw [upA_n (fun z => by have := hu.1; omega)]
    exact t4 n (by omega)
theorem T_remove (h : hTT ar cm nr B K) (hw : wf ar cm) {v : Nat} (hv : cP ar cm v) (h0 : v ≠ 0) {nr' : Nat → Option Nat} (hnr : ∀ y, nr' y = if y ∈ pre9 ar v then none else nr y) : hTT (s_remove ar (nI v)) cm nr' B (upA K (par9 ar v) (outL (K (par9 ar v)) (plc ar v))) := by
  obtain ⟨a1, a2, a3⟩ := wf_remove hw hv h0
  obtain ⟨t1, t2, t3, t4⟩ := h
  have hq := (kids_plc hw hv h0).2.2.1
  refine ⟨fun n hn => ?_, fun n hn => ?_, fun n hn => ?_, fun n hn => ?_⟩
  · rw [a1 n, hnr n]
    by_cases z : n ∈ pre9 ar v
    · rw [if_pos z]
      have hz := wf_pre_ch hw v hv.1 hv.2 n z
      exact ⟨fun ⟨a, ha⟩ => (by cases ha), fun y => absurd hz.2.2 y.2⟩
    · rw [if_neg z]
      exact (t1 n hn).trans ⟨fun y => ⟨y, fun y2 => z ((pre_ch hw hv y).mpr y2)⟩, fun y => y.1⟩
  · exact t2 n ((a1 n).mp hn).1
  · rw [a3 n hn]
    have hn1 := ((a1 n).mp hn).1
    unfold KO
    by_cases z : n = par9 ar v
    · rw [if_pos z, z, upA_s, t3 _ hq]
    · rw [if_neg z, upA_n z]
      exact t3 n hn1
  · rw [upA_n (fun z => by have := hq.1; omega)]
    exact t4 n hn
theorem T_move (h : hTT ar cm nr B K) (hw : wf ar cm) {v q pl : Nat} (hv : cP ar cm v) (h0 : v ≠ 0) (hq : cP ar cm q) (h3 : ar 3 q = 0) (hch : v ∉ chn ar q) (hpl : pl ≤ (KO ar v q).length) : hTT (s_move ar (nI v) (nI q) (nI pl)) cm nr (upA B v (upd (B v) 1 (nI q))) (upA (upA K (par9 ar v) (outL (K (par9 ar v)) (plc ar v))) q (insL ((upA K (par9 ar v) (outL (K (par9 ar v)) (plc ar v))) q) pl v)) := by
  obtain ⟨a1, a2, a3⟩ := wf_move hw hv h0 hq h3 hch hpl
  have hlen := KO_len hw hv h0 hq
  have hkq := kids_le hw hq
  rw [kids_len] at hkq
  have hple : pl < 2 ^ 31 := by
    by_cases z : par9 ar v = q
    · rw [if_pos z] at hlen; omega
    · rw [if_neg z] at hlen; omega
  have e := s_move_e hw hv h0 hq hple
  obtain ⟨t1, t2, t3, t4⟩ := h
  have hp := (kids_plc hw hv h0).2.2.1
  have hKO : ∀ n, cP ar cm n → (upA K (par9 ar v) (outL (K (par9 ar v)) (plc ar v))) n = KO ar v n := fun n hn => by
    unfold KO
    by_cases z : n = par9 ar v
    · rw [if_pos z, z, upA_s, t3 _ hp]
    · rw [if_neg z, upA_n z]
      exact t3 n hn
  refine ⟨fun n hn => (t1 n hn).trans (a1 n).symm, fun n hn => ?_, fun n hn => ?_, fun n hn => ?_⟩
  · have hn1 := (a1 n).mp hn
    rw [e]
    show _ = ar 3 n ∧ _ = (upd (ar 4) v (nI q)) n ∧ _ = ar 8 n ∧ _ = ar 10 n ∧ _ = ar 11 n ∧ _ = ar 13 n ∧ _ = ar 14 (4 * n + 2)
    obtain ⟨b1, b2, b3, b4, b5, b6, b7⟩ := t2 n hn1
    by_cases z : n = v
    · rw [z] at b1 b2 b3 b4 b5 b6 b7 ⊢
      rw [upA_s, upd_s9, upd_s9, upd_n9 (by decide), upd_n9 (by decide), upd_n9 (by decide), upd_n9 (by decide), upd_n9 (by decide), upd_n9 (by decide)]
      exact ⟨b1, rfl, b3, b4, b5, b6, b7⟩
    · rw [upA_n z, upd_n9 z]
      exact ⟨b1, b2, b3, b4, b5, b6, b7⟩
  · have hn1 := (a1 n).mp hn
    rw [a3 n hn]
    unfold KM
    by_cases z : n = q
    · rw [if_pos z, z, upA_s, hKO q hq]
    · rw [if_neg z, upA_n z]
      exact hKO n hn1
  · rw [upA_n (fun z => by have := hq.1; omega), upA_n (fun z => by have := hp.1; omega)]
    exact t4 n hn
end TK
/-- an act's end -/
theorem act_end {D : mD} {Z : Nat → Nat} {F M M' : Mm} {cm : Nat} {g : Int32} {ar : rA} {o qn qc qp c1 z0 : Nat} {nr nr' cr cr' : Nat → Option Nat} {g1 : Int32} {B B' : Nat → Nat → Int32} {K K' : Nat → List Nat} (hI : cI D Z F cm g ar M) (hw : hW D o qn qc qp nr cr c1 g1 B K F) (hk : hK o qn qc nr nr' cr cr' M M') (hw' : hW D o qn qc qp nr' cr' cm g B' K' M') (hT : hTT ar cm nr' B' K') (hA : AB ar cm) (hg : ∃ b, b ≤ 255 ∧ g = nI b) (h0 : Z 0 = z0) : hAA D z0 o M' := by
  obtain ⟨F', h1, h2⟩ := hI.hand hw hk hw'
  exact ⟨Z, cm, g, ar, h0, ⟨F', qn, qc, qp, nr', cr', B', K', h1, h2, hT⟩, hA, hg⟩
