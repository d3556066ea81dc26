/-! ===== the class's state once a node has come ===== -/
theorem nF_z {Z Z' : Nat → Nat} {ar : rA} {fi fi' : Nat → Nat → Int32} {nl nl' : Nat → Nat → Int64} {n : Nat} (h1 : Z' (200 + n) = Z (200 + n)) (h2 : Z' (400 + n) = Z (400 + n)) (h3 : Z' (900 + n) = Z (900 + n)) (h4 : n ≠ 0 → Z' (100 + par9 ar n) = Z (100 + par9 ar n)) (h5 : ∀ i, fi' i n = fi i n) (h6 : ∀ i, nl' i n = nl i n) : nF Z' ar fi' nl' n = nF Z ar fi nl n := by
  have e1 : nSh Z' ar n = nSh Z ar n := by unfold nSh; rw [h2]
  have e2 : nPa Z' ar n = nPa Z ar n := by
    unfold nPa
    by_cases z : n = 0
    · rw [if_pos z, if_pos z]
    · rw [if_neg z, if_neg z, h4 z]
  have e3 : nCl Z' ar n = nCl Z ar n := by unfold nCl; rw [h3]
  unfold nF
  rw [e1, e2, e3, h1, h5, h5, h5, h5, h5, h6, h6, h6]
theorem BS_pt {ar ar' : rA} {n : Nat} (h3 : ar' 3 n = ar 3 n) (h7 : ∀ j, j < 6 → ar' 7 (6 * n + j) = ar 7 (6 * n + j)) (h8 : ar' 8 n = ar 8 n) (h9 : ar' 9 n = ar 9 n) (h14 : ∀ j, j < 4 → ar' 14 (4 * n + j) = ar 14 (4 * n + j)) (h : BS ar n) : BS ar' n := by
  have e0 : ar' 7 (6 * n) = ar 7 (6 * n) := h7 0 (by decide)
  have f0 : ar' 14 (4 * n) = ar 14 (4 * n) := h14 0 (by decide)
  obtain ⟨b1, b2, b3, b4, b5, b6⟩ := h
  unfold BS
  rw [h3, h8, h9, e0, h7 1 (by decide), h7 2 (by decide), h7 3 (by decide), f0, h14 1 (by decide), h14 2 (by decide), h14 3 (by decide)]
  exact ⟨b1, b2, b3, b4, fun k j hj => by rw [h7 j hj]; exact b5 k j hj, b6⟩
def ndL (sa : Option Nat) (cm ql pa : Nat) : List Value := [.int (nI cm), va_rf sa, .ref ql, .ref pa, .int 0, .int 0, .int (-1), .int 8, .int 0, .int 0, .null, .int 0, .int 0, .int 0, .int 0, .int 0, .long 0, .long 0, .long 0]
section ADD
variable {D : mD} {Z Z' : Nat → Nat} {F : Mm} {cm p : Nat} {g : Int32} {ar : rA} {fi : Nat → Nat → Int32} {nl : Nat → Nat → Int64} {L : List Nat} {rw : Nat → Int32} {M : Mm}
theorem q_addS_e (hw : wf ar cm) (hp : cP ar cm p) (so : Int32) (sh : Nat → Int32) (w : Nat) : q_addS cm ar (nI p) so sh w = q_ins (q_new ar cm so sh w) cm p (kids ar p).length (kids ar p).length := by
  have h40 := hw.1.2
  have hp1 := hp.1
  unfold q_addS
  rw [nI_clamp (by omega), kids_len]
  rfl
theorem add7 {so : Int32} {sh : Nat → Int32} {w n j : Nat} (hw : wf ar cm) (hp : cP ar cm p) (hn : n < cm) (hj : j < 6) : q_addS cm ar (nI p) so sh w 7 (6 * n + j) = ar 7 (6 * n + j) := by
  rw [q_addS_e hw hp]
  show va_cpy sh (ar 7) 0 (6 * cm) w (6 * n + j) = _
  rw [pk_cpy_out (by omega)]
theorem BD_add (hw : wf ar cm) (hc : cm < 40) (hb : BD ar cm) (hp : cP ar cm p) (h3 : ar 3 p = 0) {so : Int32} {sh : Nat → Int32} {w : Nat} (hx : BS (q_new ar cm so sh w) cm) : BD (q_addS cm ar (nI p) so sh w) (cm + 1) := by
  intro n hn
  have e := q_addS_e hw hp so sh w
  rcases ((wf_add hw hc hp h3 so sh w).1 n).mp hn with z | z
  · have hne : n ≠ cm := by have := z.1; omega
    refine BS_pt ?_ (fun j hj => add7 hw hp z.1 hj) ?_ ?_ (fun j hj => ?_) (hb n z)
    · rw [e]; exact upd_o hne
    · rw [e]; rfl
    · rw [e]; rfl
    · rw [e]; rfl
  · rw [z, e]
    exact BS_cg (ar := q_new ar cm so sh w) rfl rfl rfl rfl rfl hx
theorem cR.of_add (hw : wf ar cm) (hc : cm < 40) (hp : cP ar cm p) (h3 : ar 3 p = 0) (so : Int32) (sh : Nat → Int32) (w : Nat) {q ql : Nat} (zk : ∀ k, k ≠ 100 + cm → k ≠ 200 + cm → Z' k = Z k) (zq : Z' (100 + cm) = q) (zl : Z' (200 + cm) = ql)
    (h : cW D Z' (fun n => cP ar cm n ∨ n = cm) (upA (nF Z ar fi nl) cm (ndL (nSh Z (q_new ar cm so sh w) cm) cm ql (Z (100 + p)))) (upA (upA (lsF ar L) cm []) p (insL (kids ar p) (kids ar p).length cm)) (va_up (naF Z cm ar) cm (some q)) (ar 16) rw (mfF Z' (cm + 1) g) F M)
    (hS : ∀ n, cP ar cm n → sFx Z ar n F) (hx : sFx Z (q_new ar cm so sh w) cm F) : cR D Z' F (cm + 1) g (q_addS cm ar (nI p) so sh w) (fun i n => if n = cm then 0 else nl i n) rw M := by
  have h40 := hw.1.2
  have hcm1 := hw.1.1
  have hp1 := hp.1
  have hcp : cm ≠ p := by omega
  obtain ⟨hP, hw2, hk⟩ := wf_add hw hc hp h3 so sh w
  have e := q_addS_e hw hp so sh w
  have e2 : ∀ n, q_addS cm ar (nI p) so sh w 2 n = if n = cm then 1 else ar 2 n := fun n => by rw [e]; rfl
  have e3 : ∀ n, q_addS cm ar (nI p) so sh w 3 n = if n = cm then so else ar 3 n := fun n => by rw [e]; rfl
  have e4 : ∀ n, q_addS cm ar (nI p) so sh w 4 n = if n = cm then nI p else ar 4 n := fun n => by rw [e]; rfl
  have e10 : ∀ n, q_addS cm ar (nI p) so sh w 10 n = if n = cm then -1 else ar 10 n := fun n => by rw [e]; rfl
  have e11 : ∀ n, q_addS cm ar (nI p) so sh w 11 n = if n = cm then 8 else ar 11 n := fun n => by rw [e]; rfl
  have e8 : q_addS cm ar (nI p) so sh w 8 = ar 8 := by rw [e]; rfl
  have e9 : q_addS cm ar (nI p) so sh w 9 = ar 9 := by rw [e]; rfl
  have e12 : q_addS cm ar (nI p) so sh w 12 = ar 12 := by rw [e]; rfl
  have e13 : q_addS cm ar (nI p) so sh w 13 = ar 13 := by rw [e]; rfl
  have e14 : q_addS cm ar (nI p) so sh w 14 = ar 14 := by rw [e]; rfl
  have e16 : q_addS cm ar (nI p) so sh w 16 = ar 16 := by rw [e]; rfl
  have hna : va_up (naF Z cm ar) cm (some q) = naF Z' (cm + 1) (q_addS cm ar (nI p) so sh w) := by
    funext n
    unfold va_up naF
    rw [e2]
    by_cases z : n = cm
    · rw [if_pos z, if_pos z, if_pos ⟨by omega, by decide⟩, z, zq]
    · rw [if_neg z, if_neg z]
      by_cases y : n < cm ∧ ¬ ar 2 n = 0
      · rw [if_pos y, if_pos ⟨by omega, y.2⟩, zk (100 + n) (by omega) (by omega)]
      · rw [if_neg y, if_neg (fun u => y ⟨by omega, u.2⟩)]
  have hzp : Z' (100 + p) = Z (100 + p) := zk _ (by omega) (by omega)
  refine ⟨fun n => cP ar cm n ∨ n = cm, upA (nF Z ar fi nl) cm (ndL (nSh Z (q_new ar cm so sh w) cm) cm ql (Z (100 + p))), upA (upA (lsF ar L) cm []) p (insL (kids ar p) (kids ar p).length cm), fun i n => if n = cm then 0 else fi i n, ?_, fun n hn => ?_, fun n hn => ?_⟩
  · rw [e16, ← hna]
    exact h
  · have hn1 := (hP n).mp hn
    refine ⟨hn1, ?_, ?_⟩
    · by_cases z : n = cm
      · obtain ⟨z2, z5, z8, z9, z12, z13, z14⟩ := hw.2.2.2.2.2 cm (Nat.le_refl _)
        rw [z, upA_s]
        have k1 : nSh Z' (q_addS cm ar (nI p) so sh w) cm = nSh Z (q_new ar cm so sh w) cm := by
          unfold nSh
          rw [e3, if_pos rfl, zk (400 + cm) (by omega) (by omega)]
          show _ = if upd (ar 3) cm so cm = 0 then none else some (Z (400 + cm))
          rw [upd_s]
        have k2 : nPa Z' (q_addS cm ar (nI p) so sh w) cm = some (Z (100 + p)) := by
          unfold nPa par9
          rw [if_neg (by omega), e4, if_pos rfl, nI_clamp (by omega), hzp]
        have k3 : nCl Z' (q_addS cm ar (nI p) so sh w) cm = none := by
          unfold nCl
          rw [e14, z14 2 (by decide), if_neg (by decide)]
        unfold nF ndL
        rw [k1, k2, k3, zl, e8, e9, e10, e11, e12, e13, z8, z9, z12, z13, if_pos rfl, if_pos rfl]
        simp only [if_pos]
        rfl
      · have hn9 := hn1.resolve_right z
        have hn8 := hn9.1
        rw [upA_n z]
        have k1 : nF Z (q_addS cm ar (nI p) so sh w) fi nl n = nF Z ar fi nl n := by
          refine nF_cg (by rw [e3, if_neg z]) (fun _ => ?_) (by rw [e8]) (by rw [e9]) (by rw [e10, if_neg z]) (by rw [e11, if_neg z]) (by rw [e12]) (by rw [e13]) (by rw [e14])
          unfold par9
          rw [e4, if_neg z]
        rw [← k1]
        refine (nF_z (zk _ (by omega) (by omega)) (zk _ (by omega) (by omega)) (zk _ (by omega) (by omega)) (fun h0 => ?_) (fun i => if_neg z) (fun i => if_neg z)).symm
        have hpar : par9 (q_addS cm ar (nI p) so sh w) n = par9 ar n := by
          unfold par9
          rw [e4, if_neg z]
        have hpc := (wf_chp hw hn9.1 hn9.2 h0).2.1
        rw [hpar]
        exact zk _ (by omega) (by omega)
    · rw [hk n hn]
      unfold KA
      by_cases y : n = p
      · rw [if_pos y, y, upA_s]
        unfold insL
        rw [List.take_length, List.drop_length]
      · rw [if_neg y, upA_n y]
        by_cases z : n = cm
        · rw [if_pos z, z, upA_s]
        · rw [if_neg z, upA_n z]
          exact if_neg (by have := (hn1.resolve_right z).1; omega)
  · rcases (hP n).mp hn with z | z
    · have hne : n ≠ cm := by have := z.1; omega
      have hn8 := z.1
      have hs := hS n z
      refine hs.ext (fun a x hx => hx) ⟨zk _ (by omega) (by omega), zk _ (by omega) (by omega), zk _ (by omega) (by omega), zk _ (by omega) (by omega), zk _ (by omega) (by omega)⟩ (by rw [e3, if_neg hne]) (fun j hj => add7 hw hp hn8 hj) (fun hcl => ?_)
      rw [e14] at hcl ⊢
      rw [zk _ (by omega) (by omega)]
      exact hs.2.2.2 hcl
    · rw [z]
      refine hx.ext (fun a x hx => hx) ⟨zk _ (by omega) (by omega), zk _ (by omega) (by omega), zk _ (by omega) (by omega), zk _ (by omega) (by omega), zk _ (by omega) (by omega)⟩ (by rw [e]; rfl) (fun j hj => by rw [e]; rfl) (fun hcl => ?_)
      rw [e14, (hw.2.2.2.2.2 cm (Nat.le_refl _)).2.2.2.2.2.2 2 (by decide)] at hcl
      exact absurd hcl (by decide)
/-- a clip is set -/
def clpA (ar : rA) (n : Nat) (a b w h : Int32) : rA := upA ar 14 (va_cpy (q_said a b w h) (ar 14) 0 (4 * n) 4)
theorem clp_at {n : Nat} {a b w h : Int32} : clpA ar n a b w h 14 (4 * n) = a ∧ clpA ar n a b w h 14 (4 * n + 1) = b ∧ clpA ar n a b w h 14 (4 * n + 2) = w ∧ clpA ar n a b w h 14 (4 * n + 3) = h := by
  refine ⟨?_, ?_, ?_, ?_⟩
  · show va_cpy (q_said a b w h) (ar 14) 0 (4 * n) 4 (4 * n) = a
    rw [pk_cpy_in (by omega) (by omega), Nat.sub_self]
    rfl
  · show va_cpy (q_said a b w h) (ar 14) 0 (4 * n) 4 (4 * n + 1) = b
    rw [pk_cpy_in (by omega) (by omega), show 0 + (4 * n + 1 - 4 * n) = 1 by omega]
    rfl
  · show va_cpy (q_said a b w h) (ar 14) 0 (4 * n) 4 (4 * n + 2) = w
    rw [pk_cpy_in (by omega) (by omega), show 0 + (4 * n + 2 - 4 * n) = 2 by omega]
    rfl
  · show va_cpy (q_said a b w h) (ar 14) 0 (4 * n) 4 (4 * n + 3) = h
    rw [pk_cpy_in (by omega) (by omega), show 0 + (4 * n + 3 - 4 * n) = 3 by omega]
    rfl
theorem clp_o {n m j : Nat} {a b w h : Int32} (hm : m ≠ n) (hj : j < 4) : clpA ar n a b w h 14 (4 * m + j) = ar 14 (4 * m + j) := by
  show va_cpy (q_said a b w h) (ar 14) 0 (4 * n) 4 (4 * m + j) = _
  rw [pk_cpy_out (by omega)]
theorem wf_clp (hw : wf ar cm) {n : Nat} (hn : n < cm) (a b w h : Int32) : wf (clpA ar n a b w h) cm := by
  obtain ⟨w1, w2, w3, w4, w5, w6⟩ := hw
  refine ⟨w1, w2, w3, w4, w5, fun m hm => ?_⟩
  obtain ⟨z2, z5, z8, z9, z12, z13, z14⟩ := w6 m hm
  exact ⟨z2, z5, z8, z9, z12, z13, fun j hj => by rw [clp_o (by omega) hj]; exact z14 j hj⟩
theorem BD_clp (hb : BD ar cm) {n : Nat} {a b w h : Int32} (h1 : a.toInt.natAbs ≤ 100) (h2 : b.toInt.natAbs ≤ 100) (h3 : w.toInt.natAbs ≤ 100) (h4 : h.toInt.natAbs ≤ 100) : BD (clpA ar n a b w h) cm := by
  intro m hm
  have hm : cP ar cm m := hm
  obtain ⟨b1, b2, b3, b4, b5, b6⟩ := hb m hm
  refine ⟨b1, b2, b3, b4, b5, ?_⟩
  by_cases z : m = n
  · rw [z, clp_at.1, clp_at.2.1, clp_at.2.2.1, clp_at.2.2.2]
    exact fun _ => ⟨⟨h1, h2⟩, h3, h4⟩
  · have f0 : clpA ar n a b w h 14 (4 * m) = ar 14 (4 * m) := clp_o z (j := 0) (by decide)
    rw [f0, clp_o z (j := 1) (by decide), clp_o z (j := 2) (by decide), clp_o z (j := 3) (by decide)]
    exact b6
theorem cS.clp0 (h : cS D Z F cm g ar fi nl L rw M) {n : Nat} (hn : cP ar cm n) (a b hh : Int32) : cS D Z F cm g (clpA ar n a b 0 hh) fi nl L rw (m_up M (Z (100 + n)) (.inr (6, (nF Z ar fi nl n).set 10 .null))) := by
  refine ⟨(h.1.node hn ((nF Z ar fi nl n).set 10 .null)).cong (fun m hm => ?_) (fun i hi => rfl), fun m hm => ?_⟩
  · by_cases z : m = n
    · rw [z, upA_s]
      have e : nCl Z (clpA ar n a b 0 hh) n = none := by
        unfold nCl
        rw [clp_at.2.2.1, if_neg (by decide)]
      show nF Z (clpA ar n a b 0 hh) fi nl n = (nF Z ar fi nl n).set 10 .null
      unfold nF
      rw [e]
      rfl
    · rw [upA_n z]
      exact nF_cg rfl (fun _ => rfl) rfl rfl rfl rfl rfl rfl (clp_o z (by decide))
  · have hm : cP ar cm m := hm
    refine (h.2 m hm).ext (fun a x hx => hx) ⟨rfl, rfl, rfl, rfl, rfl⟩ rfl (fun j hj => rfl) (fun hcl => ?_)
    by_cases z : m = n
    · rw [z, clp_at.2.2.1] at hcl
      exact absurd hcl (by decide)
    · have f0 : clpA ar n a b 0 hh 14 (4 * m) = ar 14 (4 * m) := clp_o z (j := 0) (by decide)
      rw [clp_o z (j := 2) (by decide)] at hcl
      rw [f0, clp_o z (j := 1) (by decide), clp_o z (j := 2) (by decide), clp_o z (j := 3) (by decide)]
      exact (h.2 m hm).2.2.2 hcl
theorem cS.clp1 (hw : wf ar cm) (h : cS D Z F cm g ar fi nl L rw M) {n q : Nat} (hn : cP ar cm n) {a b w hh : Int32} (hw0 : 0 < w) {M2 : Mm} (hm : ∀ (c : Nat) (x : va_E), M c = some x → M2 c = some x) (hq0 : M q = none) (hq : M2 q = some (.inr (3, [.int a, .int b, .int (a + w), .int (b + hh)]))) :
    cS D (upA Z (900 + n) q) (m_up F q (.inr (3, [.int a, .int b, .int (a + w), .int (b + hh)]))) cm g (clpA ar n a b w hh) fi nl L rw (m_up M2 (Z (100 + n)) (.inr (6, (nF Z ar fi nl n).set 10 (.ref q)))) := by
  have h40 := hw.1.2
  have hn1 := hn.1
  have zo : ∀ k, k ≠ 900 + n → upA Z (900 + n) q k = Z k := fun k hk => upA_n hk
  have hF : ∀ (c : Nat) (x : va_E), F c = some x → m_up F q (.inr (3, [.int a, .int b, .int (a + w), .int (b + hh)])) c = some x := fun c x hx => by
    rw [m_up_n]
    · exact hx
    · intro z
      have := h.1.fr hx
      rw [z, hq0] at this
      cases this
  refine ⟨?_, fun m hm9 => ?_⟩
  · have h1 := ((h.1.fext hm hq0 hq).node hn ((nF Z ar fi nl n).set 10 (.ref q))).zcg (Z' := upA Z (900 + n) q) ⟨zo _ (by omega), zo _ (by omega), zo _ (by omega), zo _ (by omega)⟩ (fun m hm => zo _ (by have := hm.1; omega)) (fun i hi => zo _ (by
      rcases hi with z | z
      · omega
      · have := z.1; omega))
    have emf : mfF (upA Z (900 + n) q) cm g = mfF Z cm g := by
      unfold mfF
      rw [zo 1 (by omega), zo 100 (by omega), zo 240 (by omega), zo 2 (by omega), zo 3 (by omega)]
    have ena : naF (upA Z (900 + n) q) cm (clpA ar n a b w hh) = naF Z cm ar := by
      funext m
      unfold naF
      by_cases z : m < cm ∧ ¬ ar 2 m = 0
      · rw [if_pos z, if_pos (show m < cm ∧ ¬ clpA ar n a b w hh 2 m = 0 from z), zo _ (by omega)]
      · rw [if_neg z, if_neg (show ¬ (m < cm ∧ ¬ clpA ar n a b w hh 2 m = 0) from z)]
    rw [emf, ena]
    refine h1.cong (fun m hm => ?_) (fun i hi => rfl)
    have hm : cP ar cm m := hm
    have hm1 := hm.1
    by_cases z : m = n
    · rw [z, upA_s]
      have e : nCl (upA Z (900 + n) q) (clpA ar n a b w hh) n = some q := by
        unfold nCl
        rw [clp_at.2.2.1, if_pos hw0, upA_s]
      have e1 : nSh (upA Z (900 + n) q) (clpA ar n a b w hh) n = nSh Z ar n := by
        unfold nSh
        rw [zo _ (by omega)]
        rfl
      have e2 : nPa (upA Z (900 + n) q) (clpA ar n a b w hh) n = nPa Z ar n := by
        unfold nPa
        by_cases y : n = 0
        · rw [if_pos y, if_pos y]
        · have := (wf_chp hw hn.1 hn.2 y).2.1
          rw [if_neg y, if_neg y, show par9 (clpA ar n a b w hh) n = par9 ar n from rfl, zo _ (by omega)]
      unfold nF
      rw [e, e1, e2, zo _ (by omega)]
      rfl
    · rw [upA_n z]
      have e0 : nF Z (clpA ar n a b w hh) fi nl m = nF Z ar fi nl m := nF_cg rfl (fun _ => rfl) rfl rfl rfl rfl rfl rfl (clp_o z (by decide))
      rw [← e0]
      refine nF_z (zo _ (by omega)) (zo _ (by omega)) (zo _ (by omega)) (fun y => zo _ ?_) (fun i => rfl) (fun i => rfl)
      have := (wf_chp hw hm.1 hm.2 y).2.1
      show 100 + par9 ar m ≠ 900 + n
      omega
  · have hm9 : cP ar cm m := hm9
    have hm1 := hm9.1
    refine (h.2 m hm9).ext hF ⟨zo _ (by omega), zo _ (by omega), zo _ (by omega), zo _ (by omega), zo _ (by omega)⟩ rfl (fun j hj => rfl) (fun hcl => ?_)
    by_cases z : m = n
    · rw [z, upA_s, clp_at.1, clp_at.2.1, clp_at.2.2.1, clp_at.2.2.2, m_up_s]
    · have f0 : clpA ar n a b w hh 14 (4 * m) = ar 14 (4 * m) := clp_o z (j := 0) (by decide)
      rw [clp_o z (j := 2) (by decide)] at hcl
      rw [f0, clp_o z (j := 1) (by decide), clp_o z (j := 2) (by decide), clp_o z (j := 3) (by decide), zo _ (by omega)]
      exact hF _ _ ((h.2 m hm9).2.2.2 hcl)
end ADD
