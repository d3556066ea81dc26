/-! ===== the class: a node comes; clips ===== -/
theorem cS.mono {D : mD} {Z : Nat → Nat} {F : Mm} {cm : Nat} {g : Int32} {ar : rA} {fi : Nat → Nat → Int32} {nl : Nat → Nat → Int64} {L : List Nat} {rw : Nat → Int32} {M : Mm} (h : cS D Z F cm g ar fi nl L rw M) {M' : Mm} (hm : ∀ (a : Nat) (x : va_E), M a = some x → M' a = some x) : cS D Z F cm g ar fi nl L rw M' := ⟨h.1.mono hm, h.2⟩
def FX (F F' : Mm) : Prop := ∀ (a : Nat) (x : va_E), F a = some x → F' a = some x
theorem cW.fexts {D : mD} {Z : Nat → Nat} {P : Nat → Prop} {fs : Nat → List Value} {ls : Nat → List Nat} {na : Nat → Option Nat} {cv rw : Nat → Int32} {mf : List Value} {F M : Mm} (h : cW D Z P fs ls na cv rw mf F M) {F' M2 : Mm} (hm : ∀ (a : Nat) (x : va_E), M a = some x → M2 a = some x) (hF : ∀ (a : Nat) (x : va_E), F' a = some x → F a = some x ∨ (M a = none ∧ M2 a = some x)) : cW D Z P fs ls na cv rw mf F' M2 := by
  obtain ⟨bf, cp, el, mc, ⟨k1, k2, k3, k4⟩, k5, k6, k7, k8⟩ := h
  refine ⟨bf, cp, el, mc, ⟨hm _ _ k1, hm _ _ k2, hm _ _ k3, hm _ _ k4⟩, fun n hn => hm _ _ (k5 n hn), fun i hi => ⟨?_, (k6 i hi).2⟩, k7, fun a x hx => ?_⟩
  · obtain ⟨z1, z2, z3, z4⟩ := (k6 i hi).1
    refine ⟨hm _ _ z1, ?_, z3, z4⟩
    rcases z2 with z | ⟨z, y2, y3⟩
    · exact Or.inl z
    · exact Or.inr ⟨hm _ _ z, y2, y3⟩
  · rcases hF a x hx with z | ⟨z1, z2⟩
    · obtain ⟨y1, y2⟩ := k8 a x z
      exact ⟨hm _ _ y1, y2⟩
    · have hne : ∀ {b : Nat} {y : va_E}, M b = some y → a ≠ b := fun {b y} hb z => by
        rw [z, hb] at z1
        cases z1
      exact ⟨z2, ⟨hne k1, hne k2, hne k3, hne k4⟩, fun n hn => hne (k5 n hn), fun i hi => ⟨hne (k6 i hi).1.1, fun hc => hne ((k6 i hi).1.2.1.own hc)⟩⟩
theorem cS.ext {D : mD} {Z Z' : Nat → Nat} {F F' : Mm} {cm : Nat} {g : Int32} {ar : rA} {fi : Nat → Nat → Int32} {nl : Nat → Nat → Int64} {L : List Nat} {rw : Nat → Int32} {M M2 : Mm} (hw : wf ar cm) (hc : cm < 40) (h : cS D Z F cm g ar fi nl L rw M) (hm : ∀ (a : Nat) (x : va_E), M a = some x → M2 a = some x) (hF : ∀ (a : Nat) (x : va_E), F' a = some x → F a = some x ∨ (M a = none ∧ M2 a = some x)) (hFX : FX F F') (zk : ∀ k, k ≠ 400 + cm → k ≠ 500 + cm → k ≠ 600 + cm → k ≠ 700 + cm → k ≠ 800 + cm → Z' k = Z k) : cS D Z' F' cm g ar fi nl L rw M2 := by
  have zo : ∀ k, k < 400 → Z' k = Z k := fun k hk => zk k (by omega) (by omega) (by omega) (by omega) (by omega)
  refine ⟨?_, fun n hn => ?_⟩
  · have h1 := (h.1.fexts hm hF).zcg (Z' := Z') ⟨zo _ (by omega), zo _ (by omega), zo _ (by omega), zo _ (by omega)⟩ (fun n hn => zo _ (by have := hn.1; omega)) (fun i hi => zo _ (by
      rcases hi with z | z
      · omega
      · have := z.1; omega))
    have emf : mfF Z' cm g = mfF Z cm g := by
      unfold mfF
      rw [zo 1 (by omega), zo 100 (by omega), zo 240 (by omega), zo 2 (by omega), zo 3 (by omega)]
    have ena : naF Z' cm ar = naF Z cm ar := by
      funext m
      unfold naF
      by_cases z : m < cm ∧ ¬ ar 2 m = 0
      · rw [if_pos z, if_pos z, zo _ (by omega)]
      · rw [if_neg z, if_neg z]
    rw [emf, ena]
    refine h1.cong (fun m hm => ?_) (fun i hi => rfl)
    have hm1 := hm.1
    refine nF_z (zo _ (by omega)) (zk _ (by omega) (by omega) (by omega) (by omega) (by omega)) (zk _ (by omega) (by omega) (by omega) (by omega) (by omega)) (fun y => zo _ ?_) (fun i => rfl) (fun i => rfl)
    have := (wf_chp hw hm.1 hm.2 y).2.1
    omega
  · have hn1 := hn.1
    refine (h.2 n hn).ext hFX ⟨?_, ?_, ?_, ?_, ?_⟩ rfl (fun j hj => rfl) (fun hcl => ?_)
    · exact zk _ (by omega) (by omega) (by omega) (by omega) (by omega)
    · exact zk _ (by omega) (by omega) (by omega) (by omega) (by omega)
    · exact zk _ (by omega) (by omega) (by omega) (by omega) (by omega)
    · exact zk _ (by omega) (by omega) (by omega) (by omega) (by omega)
    · exact zk _ (by omega) (by omega) (by omega) (by omega) (by omega)
    · rw [zk _ (by omega) (by omega) (by omega) (by omega) (by omega)]
      exact hFX _ _ ((h.2 n hn).2.2.2 hcl)
theorem hm_of {S : List Nat} {M0 M : Mm} (hX : mX S M0 M) (hS : ∀ a ∈ S, M0 a = none) : ∀ (a : Nat) (x : va_E), M0 a = some x → M a = some x := fun a x h => by
  rw [hX a]
  · exact h
  · intro z
    rw [hS a z] at h
    cases h
set_option maxHeartbeats 4000000 in
set_option maxRecDepth 100000 in
theorem c_X7_append_g (D : mD) (A : Nat → Prop) (l : Launch) {Z : Nat → Nat} {F : Mm} {cm pn : Nat} {g : Int32} {ar : rA} {fi : Nat → Nat → Int32} {nl : Nat → Nat → Int64} {rw : Nat → Int32} {M : Mm} (hw : wf ar cm) (hc : cm < 40) (hR : cS D Z F cm g ar fi nl (pre9 ar 0) rw M) (hp : cP ar cm pn) (h3 : ar 3 pn = 0) {sh : Nat → Int32} {w9 : Nat} (hx : sFx Z (q_new ar cm 0 sh w9) cm F) : mMi D A l yX7_append wsX7_append ({ frames := 9, cells := 43, slots := 2482, locals := 780 } : Room) [.ref (Z 0), .ref (Z (100 + pn)), .null] M (fun r M' => r = nI cm ∧ ∃ Z' : Nat → Nat, Z' 0 = Z 0 ∧ cI D Z' F (cm + 1) g (q_addS cm ar (nI pn) 0 sh w9) M') 43 2482 := by
  refine m_start (cc := cX7_append) (maxL := 4) (ret := (some .int)) (by decide) rfl (Nat.le_of_ble_eq_true rfl) ?_
  intro p e s m args below meth c C
  have i_X7 : ∀ w ∈ wsX70, w ∈ wsX7_append := by decide +kernel
  have i_X3 : ∀ w ∈ wsX30, w ∈ wsX7_append := by decide +kernel
  have iL : ∀ w ∈ wsJx4a65c0, w ∈ wsX7_append := by decide +kernel
  refine m_sub (L' := [(0, .ref (Z 0)), (1, .ref (Z (100 + pn))), (2, .null)]) [0, 1, 2] rfl ?_
  have hcm := hw.1.2
  have hcm1 := hw.1.1
  have hp1 := hp.1
  have hR0 := hR
  refine m_new (ci := 6) (fs := [.int 0, .null, .null, .null, .int 0, .int 0, .int 0, .int 0, .int 0, .int 0, .null, .int 0, .int 0, .int 0, .int 0, .int 0, .long 0, .long 0, .long 0]) C rfl i_X3 tyX3 tyX3_ok (by decide +kernel) (by decide +kernel) (by decide +kernel) (fun j hj => by match j, hj with | 0, _ => rfl | 1, _ => rfl | 2, _ => rfl | 3, _ => rfl | 4, _ => rfl | 5, _ => rfl | 6, _ => rfl | 7, _ => rfl | 8, _ => rfl | 9, _ => rfl | 10, _ => rfl | 11, _ => rfl | 12, _ => rfl | 13, _ => rfl | 14, _ => rfl | 15, _ => rfl | 16, _ => rfl | 17, _ => rfl | 18, _ => rfl | k + 19, h => omega) (Nat.le_of_ble_eq_true rfl) (Nat.le_of_ble_eq_true rfl) dX7_append_0 (fun q hq => ?_)
  have hm1 : ∀ (a : Nat) (x : va_E), M a = some x → m_up M q (.inr (6, [.int 0, .null, .null, .null, .int 0, .int 0, .int 0, .int 0, .int 0, .int 0, .null, .int 0, .int 0, .int 0, .int 0, .int 0, .long 0, .long 0, .long 0])) a = some x := fun a x h => (m_up_n (m_neN h hq)).trans h
  have hq1 : m_up M q (.inr (6, [.int 0, .null, .null, .null, .int 0, .int 0, .int 0, .int 0, .int 0, .int 0, .null, .int 0, .int 0, .int 0, .int 0, .int 0, .long 0, .long 0, .long 0])) q = some (.inr (6, [.int 0, .null, .null, .null, .int 0, .int 0, .int 0, .int 0, .int 0, .int 0, .null, .int 0, .int 0, .int 0, .int 0, .int 0, .long 0, .long 0, .long 0])) := m_up_s
  revert hm1 hq1
  generalize m_up M q (.inr (6, [.int 0, .null, .null, .null, .int 0, .int 0, .int 0, .int 0, .int 0, .int 0, .null, .int 0, .int 0, .int 0, .int 0, .int 0, .long 0, .long 0, .long 0])) = M1
  intro hm1 hq1
  have hR := hR0.mono hm1
  refine m_dup C dX7_append_3 rfl ?_
  refine m_aload_n C dX7_append_4 rfl 0 rfl ?_
  refine m_get (ref := "PaintLayers") C hR.me rfl i_X7 5 (by decide) (by decide +kernel) (fun x h => h) (v := .int (nI cm)) rfl dX7_append_5 ?_
  refine m_aload_nq (x := none) C dX7_append_8 rfl 2 rfl ?_
  refine m_aload_n C dX7_append_9 rfl 1 rfl ?_
  refine m_callIv (ret1 := none) (As := [.int (nI cm), .null, .ref (Z (100 + pn))]) (st := [.ref q]) C (c_X3_init_g D A l hq1) ⟨callB_of 3 C.1.2.2.2.2 gX7_append_X3_init rfl rfl rfl (C.1.2.2.2.2 _ (by decide +kernel)) (C.1.2.2.2.2 _ (by decide +kernel)) (by decide +kernel) ⟨Nat.le_of_ble_eq_true rfl, Nat.le_of_ble_eq_true rfl⟩, rfl, C.1.2.2.2.2 _ (by decide +kernel)⟩ rfl rfl (Nat.le_of_ble_eq_true rfl) dX7_append_10 ⟨Nat.le_of_ble_eq_true rfl, Nat.le_of_ble_eq_true rfl⟩ (fun M2 hq9 => ?_)
  obtain ⟨ql, hl1, hX, hl2, hq2⟩ := hq9
  have hm2 : ∀ (a : Nat) (x : va_E), M a = some x → M2 a = some x := fun a x h => (hX a (by simp; exact ⟨m_neN (hm1 a x h) hl1, m_neN h hq⟩)).trans (hm1 a x h)
  have hl0 : M ql = none := by
    cases hz : M ql with
    | none => rfl
    | some x => rw [hm1 ql x hz] at hl1; cases hl1
  obtain ⟨Z', eZ⟩ : ∃ z : Nat → Nat, z = upA (upA Z (100 + cm) q) (200 + cm) ql := ⟨_, rfl⟩
  have zk : ∀ k, k ≠ 100 + cm → k ≠ 200 + cm → Z' k = Z k := fun k h1 h2 => by rw [eZ, upA_n h2, upA_n h1]
  have zq : Z' (100 + cm) = q := by rw [eZ, upA_n (by omega), upA_s]
  have zl : Z' (200 + cm) = ql := by rw [eZ, upA_s]
  clear eZ
  have z0 : Z' 0 = Z 0 := zk _ (by omega) (by omega)
  have z1 : Z' 1 = Z 1 := zk _ (by omega) (by omega)
  have hcn : ¬ cP ar cm cm := fun z => absurd z.1 (Nat.lt_irrefl cm)
  have hG := hR0.1.grow (Z' := Z') (n0 := cm) hm2 hcn (by omega) hq hl0 hq2 hl2 ⟨z0, z1, zk _ (by omega) (by omega), zk _ (by omega) (by omega)⟩ (fun n hn => zk _ (by have := hn.1; omega) (by have := hn.1; omega)) (fun i hi => zk _ (by rcases hi with z | z <;> first | omega | (have := z.1; omega)) (by rcases hi with z | z <;> first | omega | (have := z.1; omega))) zq zl
  have hme := hG.me
  rw [z0] at hme
  refine m_astore_n (L' := [(3, .ref q), (0, .ref (Z 0)), (1, .ref (Z (100 + pn))), (2, .null)]) C dX7_append_13 rfl (by decide) rfl ?_
  refine m_aload_n C dX7_append_14 rfl 1 rfl ?_
  refine m_get (ref := "PaintLayers") C hme rfl i_X7 5 (by decide) (by decide +kernel) (fun x h => h) (v := .int (nI cm)) rfl dX7_append_15 ?_
  refine m_bipush (v := 40) C dX7_append_18 (by decide) ?_
  refine m_icmp_ge (tgt := 33) C dX7_append_20 (by decide) (fun h_1 => ?_) (fun h_1 => ?_)
  · exact absurd ((nI_leI (a := 40) (b := cm) (by omega) (by omega)).mp h_1) (by omega)
  · refine m_aload_n C dX7_append_23 rfl 1 rfl ?_
    refine m_get (ref := "PaintLayers") C hme rfl i_X7 0 (by decide) (by decide +kernel) (fun x h => h) (v := .ref (Z 1)) rfl dX7_append_24 ?_
    refine m_aload_n C dX7_append_27 rfl 1 rfl ?_
    refine m_get (ref := "PaintLayers") C hme rfl i_X7 5 (by decide) (by decide +kernel) (fun x h => h) (v := .int (nI cm)) rfl dX7_append_28 ?_
    refine m_aload_n C dX7_append_31 rfl 0 rfl ?_
    have hna := hG.gna
    rw [z1] at hna
    refine m_aastS C hna 2 (r := (RX3, TX3, 19)) rfl hq2 rfl (vp_in_nI hc (by omega)) dX7_append_32 ?_
    rw [nI_clamp (show cm < 2 ^ 31 by omega)]
    have hG1 := hG.sna (va_up (naF Z cm ar) cm (some q))
    rw [z1] at hG1
    revert hG1
    generalize m_up M2 _ _ = M3
    intro hG1
    have hme := hG1.me
    rw [z0] at hme
    refine m_aload_n C dX7_append_33 rfl 1 rfl ?_
    refine m_dup C dX7_append_34 rfl ?_
    refine m_get (ref := "PaintLayers") C hme rfl i_X7 5 (by decide) (by decide +kernel) (fun x h => h) (v := .int (nI cm)) rfl dX7_append_35 ?_
    refine m_iconst (v := 1) C dX7_append_38 (by decide) ?_
    refine m_iadd C dX7_append_39 ?_
    refine m_i (y := nI (cm + 1)) (nI_1 cm) ?_
    refine m_put (ref := "PaintLayers") C hme rfl i_X7 tyX7 tyX7_ok nmX7 5 (by decide) (by decide +kernel) (fun x h => h) rfl rfl rfl (Nat.le_of_ble_eq_true rfl) (e' := .inr (9, mfF Z (cm + 1) g)) rfl dX7_append_40 ?_
    have hG2 := hG1.sme (mfF Z (cm + 1) g)
    rw [z0] at hG2
    revert hG2
    generalize m_up M3 _ _ = M4
    intro hG2
    refine m_aload_n C dX7_append_43 rfl 2 rfl ?_
    have hcp : pn ≠ cm := by omega
    have hnp := hG2.nd (n := pn) (Or.inl hp)
    rw [zk (100 + pn) (by omega) (by omega), upA_n hcp] at hnp
    refine m_get (ref := "PaintLayers$Node") C hnp rfl i_X3 2 (by decide) (by decide +kernel) (fun x h => h) (v := .ref (Z (200 + pn))) rfl dX7_append_44 ?_
    refine m_aload_n C dX7_append_47 rfl 0 rfl ?_
    obtain ⟨b9, cap9, f9, mc9, h_a, hB, hnc, h60, hel, hins⟩ := hG2.insg (i := pn) (Or.inr (Or.inl hp))
    have hlp : (upA (lsF ar (pre9 ar 0)) cm []) pn = kids ar pn := by rw [upA_n hcp]; exact if_neg (by omega)
    rw [hlp] at h_a hnc hel hins
    rw [zk (200 + pn) (by omega) (by omega)] at h_a hins
    have hvq := hG2.nd (n := cm) (Or.inr rfl)
    rw [zq, upA_s] at hvq
    refine m_callVi (As := [.ref q]) (st := []) C h_a rfl (c_Jx4a65c_add_9ea2d D A l h_a hB hnc (kids_le hw hp) hel hvq) (cwV 1 C.1.2.2.2.2 gX7_append_Jx4a65c_add_9ea2d rfl rfl rfl (by decide +kernel) ⟨Nat.le_of_ble_eq_true rfl, Nat.le_of_ble_eq_true rfl⟩) rfl rfl (Nat.le_of_ble_eq_true rfl) dX7_append_48 ⟨Nat.le_of_ble_eq_true rfl, Nat.le_of_ble_eq_true rfl⟩ (fun r5 M5 hq5 => ?_)
    have hG5 := hins cm (kids ar pn).length M5 (Nat.le_refl _) (Or.inr rfl) (hq5.2.imp (fun g hg => ⟨hg.1, by rw [zq]; exact hg.2, fun k h1 h2 => absurd h2 (by omega)⟩))
    refine m_pop C dX7_append_51 rfl ?_
    refine m_aload_n C dX7_append_52 rfl 1 rfl ?_
    obtain ⟨hP9, hw9, hk9⟩ := wf_add hw hc hp h3 0 sh w9
    have emf : mfF Z (cm + 1) g = mfF Z' (cm + 1) g := by
      unfold mfF
      rw [z1, zk 100 (by omega) (by omega), zk 240 (by omega) (by omega), zk 2 (by omega) (by omega), zk 3 (by omega) (by omega)]
    rw [emf] at hG5
    have hR5 := cR.of_add (L := pre9 ar 0) hw hc hp h3 0 sh w9 zk zq zl (by rw [show nSh Z (q_new ar cm 0 sh w9) cm = none from if_pos upd_s]; exact hG5) hR0.2 hx
    have hset := c_X7_settle D A l hw9 hR5
    have hme5 := hR5.me
    rw [z0] at hset hme5
    refine m_callVv (As := []) (st := []) C hme5 rfl hset (cwV 0 C.1.2.2.2.2 gX7_append_X7_settle rfl rfl rfl (by decide +kernel) ⟨Nat.le_of_ble_eq_true rfl, Nat.le_of_ble_eq_true rfl⟩) rfl rfl (Nat.le_of_ble_eq_true rfl) dX7_append_53 ⟨Nat.le_of_ble_eq_true rfl, Nat.le_of_ble_eq_true rfl⟩ (fun M9 hq9 => ?_)
    obtain ⟨fi9, hfv9, hR9⟩ := hq9
    have hnq := hR9.nd ((hP9 cm).mpr (Or.inr rfl))
    rw [zq] at hnq
    refine m_aload_n C dX7_append_56 rfl 0 rfl ?_
    refine m_get (ref := "PaintLayers$Node") C hnq rfl i_X3 0 (by decide) (by decide +kernel) (fun x h => h) (v := .int (nI cm)) rfl dX7_append_57 ?_
    exact m_iret C (Nat.le_of_ble_eq_true rfl) (Nat.le_of_ble_eq_true rfl) dX7_append_60 (⟨rfl, Z', z0, fi9, _, rw, hfv9, hR9⟩)
set_option maxHeartbeats 4000000 in
set_option maxRecDepth 100000 in
theorem c_X7_append_s (D : mD) (A : Nat → Prop) (l : Launch) {Z : Nat → Nat} {F : Mm} {cm pn : Nat} {g : Int32} {ar : rA} {fi : Nat → Nat → Int32} {nl : Nat → Nat → Int64} {rw : Nat → Int32} {M : Mm} (hw : wf ar cm) (hc : cm < 40) (hR : cS D Z F cm g ar fi nl (pre9 ar 0) rw M) (hp : cP ar cm pn) (h3 : ar 3 pn = 0) {so : Int32} (hso : ¬ so = 0) {sh : Nat → Int32} {w9 : Nat} (hx : sFx Z (q_new ar cm so sh w9) cm F) : mMi D A l yX7_append wsX7_append ({ frames := 9, cells := 43, slots := 2482, locals := 780 } : Room) [.ref (Z 0), .ref (Z (100 + pn)), .ref (Z (400 + cm))] M (fun r M' => r = nI cm ∧ ∃ Z' : Nat → Nat, Z' 0 = Z 0 ∧ cI D Z' F (cm + 1) g (q_addS cm ar (nI pn) so sh w9) M') 43 2482 := by
  refine m_start (cc := cX7_append) (maxL := 4) (ret := (some .int)) (by decide) rfl (Nat.le_of_ble_eq_true rfl) ?_
  intro p e s m args below meth c C
  have i_X7 : ∀ w ∈ wsX70, w ∈ wsX7_append := by decide +kernel
  have i_X3 : ∀ w ∈ wsX30, w ∈ wsX7_append := by decide +kernel
  have iL : ∀ w ∈ wsJx4a65c0, w ∈ wsX7_append := by decide +kernel
  refine m_sub (L' := [(0, .ref (Z 0)), (1, .ref (Z (100 + pn))), (2, .ref (Z (400 + cm)))]) [0, 1, 2] rfl ?_
  have hcm := hw.1.2
  have hcm1 := hw.1.1
  have hp1 := hp.1
  have hR0 := hR
  refine m_new (ci := 6) (fs := [.int 0, .null, .null, .null, .int 0, .int 0, .int 0, .int 0, .int 0, .int 0, .null, .int 0, .int 0, .int 0, .int 0, .int 0, .long 0, .long 0, .long 0]) C rfl i_X3 tyX3 tyX3_ok (by decide +kernel) (by decide +kernel) (by decide +kernel) (fun j hj => by match j, hj with | 0, _ => rfl | 1, _ => rfl | 2, _ => rfl | 3, _ => rfl | 4, _ => rfl | 5, _ => rfl | 6, _ => rfl | 7, _ => rfl | 8, _ => rfl | 9, _ => rfl | 10, _ => rfl | 11, _ => rfl | 12, _ => rfl | 13, _ => rfl | 14, _ => rfl | 15, _ => rfl | 16, _ => rfl | 17, _ => rfl | 18, _ => rfl | k + 19, h => omega) (Nat.le_of_ble_eq_true rfl) (Nat.le_of_ble_eq_true rfl) dX7_append_0 (fun q hq => ?_)
  have hm1 : ∀ (a : Nat) (x : va_E), M a = some x → m_up M q (.inr (6, [.int 0, .null, .null, .null, .int 0, .int 0, .int 0, .int 0, .int 0, .int 0, .null, .int 0, .int 0, .int 0, .int 0, .int 0, .long 0, .long 0, .long 0])) a = some x := fun a x h => (m_up_n (m_neN h hq)).trans h
  have hq1 : m_up M q (.inr (6, [.int 0, .null, .null, .null, .int 0, .int 0, .int 0, .int 0, .int 0, .int 0, .null, .int 0, .int 0, .int 0, .int 0, .int 0, .long 0, .long 0, .long 0])) q = some (.inr (6, [.int 0, .null, .null, .null, .int 0, .int 0, .int 0, .int 0, .int 0, .int 0, .null, .int 0, .int 0, .int 0, .int 0, .int 0, .long 0, .long 0, .long 0])) := m_up_s
  revert hm1 hq1
  generalize m_up M q (.inr (6, [.int 0, .null, .null, .null, .int 0, .int 0, .int 0, .int 0, .int 0, .int 0, .null, .int 0, .int 0, .int 0, .int 0, .int 0, .long 0, .long 0, .long 0])) = M1
  intro hm1 hq1
  have hR := hR0.mono hm1
  refine m_dup C dX7_append_3 rfl ?_
  refine m_aload_n C dX7_append_4 rfl 0 rfl ?_
  refine m_get (ref := "PaintLayers") C hR.me rfl i_X7 5 (by decide) (by decide +kernel) (fun x h => h) (v := .int (nI cm)) rfl dX7_append_5 ?_
  refine m_aload_n C dX7_append_8 rfl 2 rfl ?_
  refine m_aload_n C dX7_append_9 rfl 1 rfl ?_
  refine m_callIv (ret1 := none) (As := [.int (nI cm), .ref (Z (400 + cm)), .ref (Z (100 + pn))]) (st := [.ref q]) C (c_X3_init_s D A l hq1) ⟨callB_of 3 C.1.2.2.2.2 gX7_append_X3_init rfl rfl rfl (C.1.2.2.2.2 _ (by decide +kernel)) (C.1.2.2.2.2 _ (by decide +kernel)) (by decide +kernel) ⟨Nat.le_of_ble_eq_true rfl, Nat.le_of_ble_eq_true rfl⟩, rfl, C.1.2.2.2.2 _ (by decide +kernel)⟩ rfl rfl (Nat.le_of_ble_eq_true rfl) dX7_append_10 ⟨Nat.le_of_ble_eq_true rfl, Nat.le_of_ble_eq_true rfl⟩ (fun M2 hq9 => ?_)
  obtain ⟨ql, hl1, hX, hl2, hq2⟩ := hq9
  have hm2 : ∀ (a : Nat) (x : va_E), M a = some x → M2 a = some x := fun a x h => (hX a (by simp; exact ⟨m_neN (hm1 a x h) hl1, m_neN h hq⟩)).trans (hm1 a x h)
  have hl0 : M ql = none := by
    cases hz : M ql with
    | none => rfl
    | some x => rw [hm1 ql x hz] at hl1; cases hl1
  obtain ⟨Z', eZ⟩ : ∃ z : Nat → Nat, z = upA (upA Z (100 + cm) q) (200 + cm) ql := ⟨_, rfl⟩
  have zk : ∀ k, k ≠ 100 + cm → k ≠ 200 + cm → Z' k = Z k := fun k h1 h2 => by rw [eZ, upA_n h2, upA_n h1]
  have zq : Z' (100 + cm) = q := by rw [eZ, upA_n (by omega), upA_s]
  have zl : Z' (200 + cm) = ql := by rw [eZ, upA_s]
  clear eZ
  have z0 : Z' 0 = Z 0 := zk _ (by omega) (by omega)
  have z1 : Z' 1 = Z 1 := zk _ (by omega) (by omega)
  have hcn : ¬ cP ar cm cm := fun z => absurd z.1 (Nat.lt_irrefl cm)
  have hG := hR0.1.grow (Z' := Z') (n0 := cm) hm2 hcn (by omega) hq hl0 hq2 hl2 ⟨z0, z1, zk _ (by omega) (by omega), zk _ (by omega) (by omega)⟩ (fun n hn => zk _ (by have := hn.1; omega) (by have := hn.1; omega)) (fun i hi => zk _ (by rcases hi with z | z <;> first | omega | (have := z.1; omega)) (by rcases hi with z | z <;> first | omega | (have := z.1; omega))) zq zl
  have hme := hG.me
  rw [z0] at hme
  refine m_astore_n (L' := [(3, .ref q), (0, .ref (Z 0)), (1, .ref (Z (100 + pn))), (2, .ref (Z (400 + cm)))]) C dX7_append_13 rfl (by decide) rfl ?_
  refine m_aload_n C dX7_append_14 rfl 1 rfl ?_
  refine m_get (ref := "PaintLayers") C hme rfl i_X7 5 (by decide) (by decide +kernel) (fun x h => h) (v := .int (nI cm)) rfl dX7_append_15 ?_
  refine m_bipush (v := 40) C dX7_append_18 (by decide) ?_
  refine m_icmp_ge (tgt := 33) C dX7_append_20 (by decide) (fun h_1 => ?_) (fun h_1 => ?_)
  · exact absurd ((nI_leI (a := 40) (b := cm) (by omega) (by omega)).mp h_1) (by omega)
  · refine m_aload_n C dX7_append_23 rfl 1 rfl ?_
    refine m_get (ref := "PaintLayers") C hme rfl i_X7 0 (by decide) (by decide +kernel) (fun x h => h) (v := .ref (Z 1)) rfl dX7_append_24 ?_
    refine m_aload_n C dX7_append_27 rfl 1 rfl ?_
    refine m_get (ref := "PaintLayers") C hme rfl i_X7 5 (by decide) (by decide +kernel) (fun x h => h) (v := .int (nI cm)) rfl dX7_append_28 ?_
    refine m_aload_n C dX7_append_31 rfl 0 rfl ?_
    have hna := hG.gna
    rw [z1] at hna
    refine m_aastS C hna 2 (r := (RX3, TX3, 19)) rfl hq2 rfl (vp_in_nI hc (by omega)) dX7_append_32 ?_
    rw [nI_clamp (show cm < 2 ^ 31 by omega)]
    have hG1 := hG.sna (va_up (naF Z cm ar) cm (some q))
    rw [z1] at hG1
    revert hG1
    generalize m_up M2 _ _ = M3
    intro hG1
    have hme := hG1.me
    rw [z0] at hme
    refine m_aload_n C dX7_append_33 rfl 1 rfl ?_
    refine m_dup C dX7_append_34 rfl ?_
    refine m_get (ref := "PaintLayers") C hme rfl i_X7 5 (by decide) (by decide +kernel) (fun x h => h) (v := .int (nI cm)) rfl dX7_append_35 ?_
    refine m_iconst (v := 1) C dX7_append_38 (by decide) ?_
    refine m_iadd C dX7_append_39 ?_
    refine m_i (y := nI (cm + 1)) (nI_1 cm) ?_
    refine m_put (ref := "PaintLayers") C hme rfl i_X7 tyX7 tyX7_ok nmX7 5 (by decide) (by decide +kernel) (fun x h => h) rfl rfl rfl (Nat.le_of_ble_eq_true rfl) (e' := .inr (9, mfF Z (cm + 1) g)) rfl dX7_append_40 ?_
    have hG2 := hG1.sme (mfF Z (cm + 1) g)
    rw [z0] at hG2
    revert hG2
    generalize m_up M3 _ _ = M4
    intro hG2
    refine m_aload_n C dX7_append_43 rfl 2 rfl ?_
    have hcp : pn ≠ cm := by omega
    have hnp := hG2.nd (n := pn) (Or.inl hp)
    rw [zk (100 + pn) (by omega) (by omega), upA_n hcp] at hnp
    refine m_get (ref := "PaintLayers$Node") C hnp rfl i_X3 2 (by decide) (by decide +kernel) (fun x h => h) (v := .ref (Z (200 + pn))) rfl dX7_append_44 ?_
    refine m_aload_n C dX7_append_47 rfl 0 rfl ?_
    obtain ⟨b9, cap9, f9, mc9, h_a, hB, hnc, h60, hel, hins⟩ := hG2.insg (i := pn) (Or.inr (Or.inl hp))
    have hlp : (upA (lsF ar (pre9 ar 0)) cm []) pn = kids ar pn := by rw [upA_n hcp]; exact if_neg (by omega)
    rw [hlp] at h_a hnc hel hins
    rw [zk (200 + pn) (by omega) (by omega)] at h_a hins
    have hvq := hG2.nd (n := cm) (Or.inr rfl)
    rw [zq, upA_s] at hvq
    refine m_callVi (As := [.ref q]) (st := []) C h_a rfl (c_Jx4a65c_add_9ea2d D A l h_a hB hnc (kids_le hw hp) hel hvq) (cwV 1 C.1.2.2.2.2 gX7_append_Jx4a65c_add_9ea2d rfl rfl rfl (by decide +kernel) ⟨Nat.le_of_ble_eq_true rfl, Nat.le_of_ble_eq_true rfl⟩) rfl rfl (Nat.le_of_ble_eq_true rfl) dX7_append_48 ⟨Nat.le_of_ble_eq_true rfl, Nat.le_of_ble_eq_true rfl⟩ (fun r5 M5 hq5 => ?_)
    have hG5 := hins cm (kids ar pn).length M5 (Nat.le_refl _) (Or.inr rfl) (hq5.2.imp (fun g hg => ⟨hg.1, by rw [zq]; exact hg.2, fun k h1 h2 => absurd h2 (by omega)⟩))
    refine m_pop C dX7_append_51 rfl ?_
    refine m_aload_n C dX7_append_52 rfl 1 rfl ?_
    obtain ⟨hP9, hw9, hk9⟩ := wf_add hw hc hp h3 so sh w9
    have emf : mfF Z (cm + 1) g = mfF Z' (cm + 1) g := by
      unfold mfF
      rw [z1, zk 100 (by omega) (by omega), zk 240 (by omega) (by omega), zk 2 (by omega) (by omega), zk 3 (by omega) (by omega)]
    rw [emf] at hG5
    have hR5 := cR.of_add (L := pre9 ar 0) hw hc hp h3 so sh w9 zk zq zl (by rw [show nSh Z (q_new ar cm so sh w9) cm = some (Z (400 + cm)) from if_neg (by show ¬ upd (ar 3) cm so cm = 0; rw [upd_s]; exact hso)]; exact hG5) hR0.2 hx
    have hset := c_X7_settle D A l hw9 hR5
    have hme5 := hR5.me
    rw [z0] at hset hme5
    refine m_callVv (As := []) (st := []) C hme5 rfl hset (cwV 0 C.1.2.2.2.2 gX7_append_X7_settle rfl rfl rfl (by decide +kernel) ⟨Nat.le_of_ble_eq_true rfl, Nat.le_of_ble_eq_true rfl⟩) rfl rfl (Nat.le_of_ble_eq_true rfl) dX7_append_53 ⟨Nat.le_of_ble_eq_true rfl, Nat.le_of_ble_eq_true rfl⟩ (fun M9 hq9 => ?_)
    obtain ⟨fi9, hfv9, hR9⟩ := hq9
    have hnq := hR9.nd ((hP9 cm).mpr (Or.inr rfl))
    rw [zq] at hnq
    refine m_aload_n C dX7_append_56 rfl 0 rfl ?_
    refine m_get (ref := "PaintLayers$Node") C hnq rfl i_X3 0 (by decide) (by decide +kernel) (fun x h => h) (v := .int (nI cm)) rfl dX7_append_57 ?_
    exact m_iret C (Nat.le_of_ble_eq_true rfl) (Nat.le_of_ble_eq_true rfl) dX7_append_60 (⟨rfl, Z', z0, fi9, _, rw, hfv9, hR9⟩)

