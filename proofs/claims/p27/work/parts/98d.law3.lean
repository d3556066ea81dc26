/-! ===== the law: tiles, paint, opacities ===== -/
set_option maxHeartbeats 4000000 in
set_option maxRecDepth 100000 in
theorem law_tiles {p : Program} {l : Launch} {e : Env} {s : State} {m : MethodId} {args : Array Value} {below : List Frame} {meth : Method} {c : Code} {Q : State → Prop} {D : mD} {A : Nat → Prop} {y0 : MethodName} {ret0 : Option FieldType} {Z : Nat → Nat} {F : Mm} {cm g0 : Nat} {ar : rA} {o2 b qn qc qp : Nat} {nr cr : Nat → Option Nat} {B : Nat → Nat → Int32} {K : Nat → List Nat} (hRF : hW D o2 qn qc qp nr cr cm (nI g0) B K F) (hnr : ∀ n, n < 40 → ((∃ a, nr n = some a) ↔ cP ar cm n)) (hB0 : ∀ n, cP ar cm n → B n 0 = ar 3 n) (hP : lP cm ar) (hB : PB ar) (hg : g0 ≤ 255) (hst : l.stackTraces = false) (C : mC p m meth c cL_law 11 s args wsL_law RL D A y0 ret0) {KB NB : Nat} (hKB : KB ≤ 600064) (hNB : NB ≤ 7301640) (kx : ∀ (M : Mm) (k n9 : Nat), k ≤ KB → n9 ≤ NB → cI D Z F cm (nI g0) ar M → mV p l e room_1 s m args below meth c 11 D A Q M k n9 [(4, .int (nI 48)), (3, .int (nI (q_dty ar (nI g0) (pre9 ar 0) 48))), (2, .ref o2), (1, .ref (Z 0)), (0, .ref b)] [] 344)  : ∀ (d t : Nat) (M : Mm) (k n9 : Nat), t + d = 48 → k + d ≤ KB → n9 + 6 * d ≤ NB → cI D Z F cm (nI g0) ar M → mV p l e room_1 s m args below meth c 11 D A Q M k n9 [(4, .int (nI t)), (3, .int (nI (q_dty ar (nI g0) (pre9 ar 0) t))), (2, .ref o2), (1, .ref (Z 0)), (0, .ref b)] [] 314 := by
  have hw : wf ar cm := hP.1
  have hb : BD ar cm := hP.2.1
  intro d
  induction d with
  | zero =>
    intro t M k n9 hi hk hn9 hI
    refine m_iload C dL_law_314 0 rfl ?_
    refine m_bipush (v := 48) C dL_law_316 (by decide) ?_
    refine m_icmp_ge (tgt := 344) C dL_law_318 (by decide) (fun h_1 => ?_) (fun h_1 => ?_)
    · have h48 := (nI_leI (a := 48) (b := t) (by omega) (by omega)).mp h_1
      have ht : t = 48 := by omega
      subst ht
      exact kx M k n9 (by omega) (by omega) hI
    · exact absurd (nI_le (a := 48) (b := t) (by omega) (by omega)) h_1
  | succ d ih =>
    intro t M k n9 hi hk hn9 hI
    refine m_iload C dL_law_314 0 rfl ?_
    refine m_bipush (v := 48) C dL_law_316 (by decide) ?_
    refine m_icmp_ge (tgt := 344) C dL_law_318 (by decide) (fun h_2 => ?_) (fun h_2 => ?_)
    · have h48 := (nI_leI (a := 48) (b := t) (by omega) (by omega)).mp h_2
      have ht : t = 48 := by omega
      subst ht
      exact kx M k n9 (by omega) (by omega) hI
    · have ht : t < 48 := by omega
      refine m_iload_n C dL_law_321 rfl 1 rfl ?_
      refine m_aload_n C dL_law_322 rfl 3 rfl ?_
      refine m_iload C dL_law_323 0 rfl ?_
      have hk0 : k_tile (nI t) = 0 := tile_0 ht
      obtain ⟨mf0, hme⟩ := hI.me
      refine m_callVXiH (As := [.int (nI t)]) (st := [.int (nI (q_dty ar (nI g0) (pre9 ar 0) t))]) C hme rfl (c_X7_changed D A l hst hI hw hb) (cwV 1 C.1.2.2.2.2 gL_law_X7_changed rfl rfl rfl (by decide +kernel) ⟨Nat.le_of_ble_eq_true rfl, Nat.le_of_ble_eq_true rfl⟩) rfl rfl (Nat.le_of_ble_eq_true rfl) dL_law_325 ⟨by show k + 1 ≤ 600064; omega, by show n9 + 6 ≤ 7301640; omega⟩ (fun E M9 hx => ?_) (fun r M1 hp => ?_)
      · exact absurd (hk0.symm.trans hx.2.1) (by decide)
      · obtain ⟨-, hr, hI⟩ := hp
        rw [jN_at (show t < 2 ^ 31 by omega)] at hr
        subst hr
        obtain ⟨q, hq⟩ : ∃ q, q_chg ar (nI g0) (pre9 ar 0) t 64 = q := ⟨_, rfl⟩
        rw [hq]
        have hq64 : q ≤ 64 := by rw [← hq]; exact q_chg_le ar (nI g0) (pre9 ar 0) t 64
        have hdt := q_dty_le ar (nI g0) (pre9 ar 0) t
        refine m_if_le (tgt := 335) C dL_law_328 (by decide) (fun h_3 => ?_) (fun h_3 => ?_)
        · have hq0 : ¬ 0 < q := fun y => absurd ((nI_leI (a := q) (b := 0) (by omega) (by decide)).mp h_3) (by omega)
          refine m_iconst (v := 0) C dL_law_335 (by decide) ?_
          refine m_iadd C dL_law_336 ?_
          refine m_i (y := nI (q_dty ar (nI g0) (pre9 ar 0) (t + 1))) (by rw [q_dty, hq, if_neg hq0]; exact nI_add _ 0) ?_
          refine m_istore_n (L' := [(3, .int (nI (q_dty ar (nI g0) (pre9 ar 0) (t + 1)))), (4, .int (nI t)), (2, .ref o2), (1, .ref (Z 0)), (0, .ref b)]) C dL_law_337 rfl (by decide) rfl ?_
          obtain ⟨x_4, ex_4⟩ : ∃ z : Int32, z = nI t + 1 := ⟨_, rfl⟩
          refine m_iinc (q := 1) (v := x_4) (L' := [(4, .int x_4), (3, .int (nI (q_dty ar (nI g0) (pre9 ar 0) (t + 1)))), (2, .ref o2), (1, .ref (Z 0)), (0, .ref b)]) C dL_law_338 rfl (by rw [ex_4]; rfl) (by decide) rfl ?_
          refine m_goto (tgt := 314) C dL_law_341 (by decide) ?_
          rw [nI_1] at ex_4
          subst ex_4
          refine m_sub (L' := [(4, .int (nI (t + 1))), (3, .int (nI (q_dty ar (nI g0) (pre9 ar 0) (t + 1)))), (2, .ref o2), (1, .ref (Z 0)), (0, .ref b)]) [0, 1, 2, 3, 4] rfl ?_
          exact ih (t + 1) _ _ _ (by omega) (by omega) (by omega) hI
        · have hq0 : 0 < q := by
            rcases Nat.eq_zero_or_pos q with y | y
            · exact absurd (nI_le (a := q) (b := 0) (by omega) (by decide)) h_3
            · exact y
          refine m_iconst (v := 1) C dL_law_331 (by decide) ?_
          refine m_goto (tgt := 336) C dL_law_332 (by decide) ?_
          refine m_iadd C dL_law_336 ?_
          refine m_i (y := nI (q_dty ar (nI g0) (pre9 ar 0) (t + 1))) (by rw [q_dty, hq, if_pos hq0]; exact nI_add _ 1) ?_
          refine m_istore_n (L' := [(3, .int (nI (q_dty ar (nI g0) (pre9 ar 0) (t + 1)))), (4, .int (nI t)), (2, .ref o2), (1, .ref (Z 0)), (0, .ref b)]) C dL_law_337 rfl (by decide) rfl ?_
          obtain ⟨x_5, ex_5⟩ : ∃ z : Int32, z = nI t + 1 := ⟨_, rfl⟩
          refine m_iinc (q := 1) (v := x_5) (L' := [(4, .int x_5), (3, .int (nI (q_dty ar (nI g0) (pre9 ar 0) (t + 1)))), (2, .ref o2), (1, .ref (Z 0)), (0, .ref b)]) C dL_law_338 rfl (by rw [ex_5]; rfl) (by decide) rfl ?_
          refine m_goto (tgt := 314) C dL_law_341 (by decide) ?_
          rw [nI_1] at ex_5
          subst ex_5
          refine m_sub (L' := [(4, .int (nI (t + 1))), (3, .int (nI (q_dty ar (nI g0) (pre9 ar 0) (t + 1)))), (2, .ref o2), (1, .ref (Z 0)), (0, .ref b)]) [0, 1, 2, 3, 4] rfl ?_
          exact ih (t + 1) _ _ _ (by omega) (by omega) (by omega) hI
set_option maxHeartbeats 4000000 in
set_option maxRecDepth 100000 in
theorem law_again {p : Program} {l : Launch} {e : Env} {s : State} {m : MethodId} {args : Array Value} {below : List Frame} {meth : Method} {c : Code} {Q : State → Prop} {D : mD} {A : Nat → Prop} {y0 : MethodName} {ret0 : Option FieldType} {Z : Nat → Nat} {F : Mm} {cm g0 : Nat} {ar : rA} {o2 b qn qc qp : Nat} {nr cr : Nat → Option Nat} {B : Nat → Nat → Int32} {K : Nat → List Nat} (hRF : hW D o2 qn qc qp nr cr cm (nI g0) B K F) (hnr : ∀ n, n < 40 → ((∃ a, nr n = some a) ↔ cP ar cm n)) (hB0 : ∀ n, cP ar cm n → B n 0 = ar 3 n) (hP : lP cm ar) (hB : PB ar) (hg : g0 ≤ 255) (hst : l.stackTraces = false) (C : mC p m meth c cL_law 11 s args wsL_law RL D A y0 ret0) {KB NB : Nat} (hKB : KB ≤ 600064) (hNB : NB ≤ 7301640) {v3 : Int32} {cv : Nat → Int32} (kx : ∀ (M : Mm) (k n9 : Nat), k ≤ KB → n9 ≤ NB → cI D Z F cm (nI g0) (upA ar 16 (q_pnt ar (nI g0) (pre9 ar 0) cv 3072)) M → mV p l e room_1 s m args below meth c 11 D A Q M k n9 [(4, .int (nI 48)), (3, .int v3), (2, .ref o2), (1, .ref (Z 0)), (0, .ref b)] [] 381)  : ∀ (d t : Nat) (M : Mm) (k n9 : Nat), t + d = 48 → k + d ≤ KB → n9 + 6 * d ≤ NB → cI D Z F cm (nI g0) (upA ar 16 (q_pnt ar (nI g0) (pre9 ar 0) cv 3072)) M → mV p l e room_1 s m args below meth c 11 D A Q M k n9 [(4, .int (nI t)), (3, .int v3), (2, .ref o2), (1, .ref (Z 0)), (0, .ref b)] [] 357 := by
  have hw : wf ar cm := hP.1
  have hb : BD ar cm := hP.2.1
  have hw9 : wf (upA ar 16 (q_pnt ar (nI g0) (pre9 ar 0) cv 3072)) cm := hw
  have hb9 : BD (upA ar 16 (q_pnt ar (nI g0) (pre9 ar 0) cv 3072)) cm := hb
  intro d
  induction d with
  | zero =>
    intro t M k n9 hi hk hn9 hI
    refine m_iload C dL_law_357 0 rfl ?_
    refine m_bipush (v := 48) C dL_law_359 (by decide) ?_
    refine m_icmp_ge (tgt := 381) C dL_law_361 (by decide) (fun h_1 => ?_) (fun h_1 => ?_)
    · have h48 := (nI_leI (a := 48) (b := t) (by omega) (by omega)).mp h_1
      have ht : t = 48 := by omega
      subst ht
      exact kx M k n9 (by omega) (by omega) hI
    · exact absurd (nI_le (a := 48) (b := t) (by omega) (by omega)) h_1
  | succ d ih =>
    intro t M k n9 hi hk hn9 hI
    refine m_iload C dL_law_357 0 rfl ?_
    refine m_bipush (v := 48) C dL_law_359 (by decide) ?_
    refine m_icmp_ge (tgt := 381) C dL_law_361 (by decide) (fun h_2 => ?_) (fun h_2 => ?_)
    · have h48 := (nI_leI (a := 48) (b := t) (by omega) (by omega)).mp h_2
      have ht : t = 48 := by omega
      subst ht
      exact kx M k n9 (by omega) (by omega) hI
    · have ht : t < 48 := by omega
      refine m_aload_n C dL_law_364 rfl 3 rfl ?_
      refine m_iload C dL_law_365 0 rfl ?_
      have hk0 : k_tile (nI t) = 0 := tile_0 ht
      obtain ⟨mf0, hme⟩ := hI.me
      refine m_callVXiH (As := [.int (nI t)]) (st := []) C hme rfl (c_X7_changed D A l hst hI hw9 hb9) (cwV 1 C.1.2.2.2.2 gL_law_X7_changed rfl rfl rfl (by decide +kernel) ⟨Nat.le_of_ble_eq_true rfl, Nat.le_of_ble_eq_true rfl⟩) rfl rfl (Nat.le_of_ble_eq_true rfl) dL_law_367 ⟨by show k + 1 ≤ 600064; omega, by show n9 + 6 ≤ 7301640; omega⟩ (fun E M9 hx => ?_) (fun r M1 hp => ?_)
      · exact absurd (hk0.symm.trans hx.2.1) (by decide)
      · obtain ⟨-, hr, hI⟩ := hp
        rw [jN_at (show t < 2 ^ 31 by omega), chg_0 ht 64 (Nat.le_refl _)] at hr
        subst hr
        refine m_i (y := 0) rfl ?_
        refine m_if_eq (tgt := 375) C dL_law_370 (by decide) (fun h_3 => ?_) (fun h_3 => ?_)
        · obtain ⟨x_4, ex_4⟩ : ∃ z : Int32, z = nI t + 1 := ⟨_, rfl⟩
          refine m_iinc (q := 0) (v := x_4) (L' := [(4, .int x_4), (3, .int v3), (2, .ref o2), (1, .ref (Z 0)), (0, .ref b)]) C dL_law_375 rfl (by rw [ex_4]; rfl) (by decide) rfl ?_
          refine m_goto (tgt := 357) C dL_law_378 (by decide) ?_
          rw [nI_1] at ex_4
          subst ex_4
          refine m_sub (L' := [(4, .int (nI (t + 1))), (3, .int v3), (2, .ref o2), (1, .ref (Z 0)), (0, .ref b)]) [0, 1, 2, 3, 4] rfl ?_
          exact ih (t + 1) _ _ _ (by omega) (by omega) (by omega) hI
        · exact absurd h_3 (by decide)
theorem opa_no {ar : rA} {cm n : Nat} (h : ∀ m, m < n → cP ar cm m → ar 11 m = 8) (hn : ¬ cP ar cm n) : ∀ m, m < n + 1 → cP ar cm m → ar 11 m = 8 := fun m hm hc => by
  rcases Nat.lt_or_ge m n with z | z
  · exact h m z hc
  · exact absurd (by rw [← show m = n by omega]; exact hc) hn
theorem opa_yes {ar : rA} {cm n : Nat} {x : Nat → Int32} (h : ∀ m, m < n → cP ar cm m → ar 11 m = 8) : ∀ m, m < n + 1 → cP (upA (upA ar 11 (upd (ar 11) n (nI 8))) 12 x) cm m → (upA (upA ar 11 (upd (ar 11) n (nI 8))) 12 x) 11 m = 8 := fun m hm hc => by
  show upd (ar 11) n (nI 8) m = 8
  by_cases z : m = n
  · rw [z, upd_s9]
    rfl
  · rw [upd_n9 z]
    exact h m (by omega) hc
set_option maxHeartbeats 4000000 in
set_option maxRecDepth 100000 in
theorem law_opa {p : Program} {l : Launch} {e : Env} {s : State} {m : MethodId} {args : Array Value} {below : List Frame} {meth : Method} {c : Code} {Q : State → Prop} {D : mD} {A : Nat → Prop} {y0 : MethodName} {ret0 : Option FieldType} {Z : Nat → Nat} {F : Mm} {cm g0 : Nat} {o2 b qn qc qp : Nat} {nr cr : Nat → Option Nat} {B : Nat → Nat → Int32} {K : Nat → List Nat} (hRF : hW D o2 qn qc qp nr cr cm (nI g0) B K F) (hst : l.stackTraces = false) (C : mC p m meth c cL_law 11 s args wsL_law RL D A y0 ret0) {KB NB : Nat} (hKB : KB ≤ 600064) (hNB : NB ≤ 7301640) {v3 : Int32} (kx : ∀ (M : Mm) (ar : rA) (k n9 : Nat), k ≤ KB → n9 ≤ NB → lP cm ar → PB ar → (∀ n, n < 40 → ((∃ a, nr n = some a) ↔ cP ar cm n)) → (∀ m, m < cm → cP ar cm m → ar 11 m = 8) → cI D Z F cm (nI g0) ar M → mV p l e room_1 s m args below meth c 11 D A Q M k n9 [(4, .int (nI cm)), (3, .int v3), (2, .ref o2), (1, .ref (Z 0)), (0, .ref b)] [] 435) : ∀ (d n : Nat) (M : Mm) (ar : rA) (k n9 : Nat), n + d = cm → k + 43 * d ≤ KB → n9 + 2420 * d ≤ NB → lP cm ar → PB ar → (∀ n, n < 40 → ((∃ a, nr n = some a) ↔ cP ar cm n)) → (∀ m, m < n → cP ar cm m → ar 11 m = 8) → cI D Z F cm (nI g0) ar M → mV p l e room_1 s m args below meth c 11 D A Q M k n9 [(4, .int (nI n)), (3, .int v3), (2, .ref o2), (1, .ref (Z 0)), (0, .ref b)] [] 384 := by
  intro d
  induction d with
  | zero =>
    intro n M ar k n9 hd hk hn9 hP hB hnr h11 hI
    have hw : wf ar cm := hP.1
    have hb : BD ar cm := hP.2.1
    have hcm := hw.1
    have hR : hW D o2 qn qc qp nr cr cm (nI g0) B K M := hRF.mono (fun a x h => hI.F0 h)
    refine m_iload C dL_law_384 0 rfl ?_
    refine m_aload_n C dL_law_386 rfl 2 rfl ?_
    refine m_get (ref := "PaintLayersLaw$Hand") C hR.1 rfl inlX8 2 (by decide) (by decide +kernel) (fun x h => h) (v := .int (nI cm)) rfl dL_law_387 ?_
    refine m_icmp_ge (tgt := 435) C dL_law_390 (by decide) (fun h_1 => ?_) (fun h_1 => ?_)
    · have h48 := (nI_leI (a := cm) (b := n) (by omega) (by omega)).mp h_1
      have ht : n = cm := by omega
      subst ht
      exact kx M ar k n9 (by omega) (by omega) hP hB hnr h11 hI
    · exact absurd (nI_le (a := cm) (b := n) (by omega) (by omega)) h_1
  | succ d ih =>
    intro n M ar k n9 hd hk hn9 hP hB hnr h11 hI
    have hw : wf ar cm := hP.1
    have hb : BD ar cm := hP.2.1
    have hcm := hw.1
    have hR : hW D o2 qn qc qp nr cr cm (nI g0) B K M := hRF.mono (fun a x h => hI.F0 h)
    refine m_iload C dL_law_384 0 rfl ?_
    refine m_aload_n C dL_law_386 rfl 2 rfl ?_
    refine m_get (ref := "PaintLayersLaw$Hand") C hR.1 rfl inlX8 2 (by decide) (by decide +kernel) (fun x h => h) (v := .int (nI cm)) rfl dL_law_387 ?_
    refine m_icmp_ge (tgt := 435) C dL_law_390 (by decide) (fun h_2 => ?_) (fun h_2 => ?_)
    · have h48 := (nI_leI (a := cm) (b := n) (by omega) (by omega)).mp h_2
      have ht : n = cm := by omega
      subst ht
      exact kx M ar k n9 (by omega) (by omega) hP hB hnr h11 hI
    · have hn40 : n < 40 := by omega
      refine m_aload_n C dL_law_393 rfl 2 rfl ?_
      refine m_get (ref := "PaintLayersLaw$Hand") C hR.1 rfl inlX8 0 (by decide) (by decide +kernel) (fun x h => h) (v := .ref qn) rfl dL_law_394 ?_
      refine m_iload C dL_law_397 0 rfl ?_
      refine m_aaldA C hR.2.1 (vp_in_nI hn40 (by decide)) dL_law_399 ?_
      rw [nI_clamp (show n < 2 ^ 31 by omega)]
      refine m_ifnull (tgt := 429) C dL_law_400 (by decide) (fun h_3 => ?_) (fun q_4 h_3 => ?_)
      · have hnp : ¬ cP ar cm n := fun y => by
          obtain ⟨a, ha⟩ := (hnr n hn40).mpr y
          rw [ha] at h_3
          cases h_3
        obtain ⟨x_5, ex_5⟩ : ∃ z : Int32, z = nI n + 1 := ⟨_, rfl⟩
        refine m_iinc (q := 0) (v := x_5) (L' := [(4, .int x_5), (3, .int v3), (2, .ref o2), (1, .ref (Z 0)), (0, .ref b)]) C dL_law_429 rfl (by rw [ex_5]; rfl) (by decide) rfl ?_
        refine m_goto (tgt := 384) C dL_law_432 (by decide) ?_
        rw [nI_1] at ex_5
        subst ex_5
        refine m_sub (L' := [(4, .int (nI (n + 1))), (3, .int v3), (2, .ref o2), (1, .ref (Z 0)), (0, .ref b)]) [0, 1, 2, 3, 4] rfl ?_
        exact ih (n + 1) _ _ _ _ (by omega) (by omega) (by omega) hP hB hnr (opa_no h11 hnp) hI
      · have hnp : cP ar cm n := (hnr n hn40).mp ⟨_, h_3⟩
        refine m_aload_n C dL_law_403 rfl 3 rfl ?_
        refine m_iload C dL_law_404 0 rfl ?_
        refine m_bipush (v := 8) C dL_law_406 (by decide) ?_
        refine m_aload_n C dL_law_408 rfl 3 rfl ?_
        refine m_iload C dL_law_409 0 rfl ?_
        refine m_bipush (v := 10) C dL_law_411 (by decide) ?_
        obtain ⟨mf0, hme⟩ := hI.me
        refine m_callVi (As := [.int (nI n), .int 10]) (st := [.int 8, .int (nI n), .ref (Z 0)]) C hme rfl (c_X7_node0 D A l hI hw hb hnp (w9 := 10) (by decide)) (cwV 2 C.1.2.2.2.2 gL_law_X7_node rfl rfl rfl (by decide +kernel) ⟨Nat.le_of_ble_eq_true rfl, Nat.le_of_ble_eq_true rfl⟩) rfl rfl (Nat.le_of_ble_eq_true rfl) dL_law_413 ⟨by show k + 0 ≤ 600064; omega, by show n9 + 0 ≤ 7301640; omega⟩ (fun r M1 hq1 => ?_)
        obtain ⟨e1, e2⟩ := hq1
        subst e1
        subst e2
        refine mV_kn (k := k) (n := n9) rfl rfl ?_
        refine m_iconst (v := 1) C dL_law_416 (by decide) ?_
        refine m_icmp_ne (tgt := 424) C dL_law_417 (by decide) (fun h_6 => ?_) (fun h_6 => ?_)
        · refine m_iconst (v := 0) C dL_law_424 (by decide) ?_
          have hk0 : k_setOpacity cm ar (nI n) (nI 8) = 0 := opa_0 hw hnp (j := 8) (by decide)
          obtain ⟨mf0, hme⟩ := hI.me
          refine m_callVXiH (As := [.int (nI n), .int 8, .int 0]) (st := []) C hme rfl (c_X7_setOpacity D A l hst hI hw hb (h := false)) (cwV 3 C.1.2.2.2.2 gL_law_X7_setOpacity rfl rfl rfl (by decide +kernel) ⟨Nat.le_of_ble_eq_true rfl, Nat.le_of_ble_eq_true rfl⟩) rfl rfl (Nat.le_of_ble_eq_true rfl) dL_law_425 ⟨by show k + 43 ≤ 600064; omega, by show n9 + 2420 ≤ 7301640; omega⟩ (fun E M9 hx => ?_) (fun r M1 hp => ?_)
          · rcases hx.2 with ⟨h9, -⟩ | ⟨h9, -⟩ <;> exact absurd (hk0.symm.trans h9) (by decide)
          · obtain ⟨-, hr, hI⟩ := hp
            refine m_pop C dL_law_428 rfl ?_
            have es : s_setOpacity ar (nI n) (nI 8) false = (upA (upA ar 11 (upd (ar 11) n (nI 8))) 12 (upd (ar 12) n (bI false))) := by unfold s_setOpacity; rw [jN_at (show n < 2 ^ 31 by omega)]
            have hP' := lP_setOpacity (o := false) hP hk0
            have hI' : cI D Z F cm (nI g0) (s_setOpacity ar (nI n) (nI 8) false) M1 := hI
            rw [es] at hP' hI'
            have hB' : PB (upA (upA ar 11 (upd (ar 11) n (nI 8))) 12 (upd (ar 12) n (bI false))) := PB_11 hB (n := n) ⟨8, Nat.le_refl _, rfl⟩ (Or.inl rfl) rfl rfl rfl
            obtain ⟨x_7, ex_7⟩ : ∃ z : Int32, z = nI n + 1 := ⟨_, rfl⟩
            refine m_iinc (q := 0) (v := x_7) (L' := [(4, .int x_7), (3, .int v3), (2, .ref o2), (1, .ref (Z 0)), (0, .ref b)]) C dL_law_429 rfl (by rw [ex_7]; rfl) (by decide) rfl ?_
            refine m_goto (tgt := 384) C dL_law_432 (by decide) ?_
            rw [nI_1] at ex_7
            subst ex_7
            refine m_sub (L' := [(4, .int (nI (n + 1))), (3, .int v3), (2, .ref o2), (1, .ref (Z 0)), (0, .ref b)]) [0, 1, 2, 3, 4] rfl ?_
            exact ih (n + 1) _ _ _ _ (by omega) (by omega) (by omega) hP' hB' hnr (opa_yes h11) hI'
        · refine m_iconst (v := 1) C dL_law_420 (by decide) ?_
          refine m_goto (tgt := 425) C dL_law_421 (by decide) ?_
          have hk0 : k_setOpacity cm ar (nI n) (nI 8) = 0 := opa_0 hw hnp (j := 8) (by decide)
          obtain ⟨mf0, hme⟩ := hI.me
          refine m_callVXiH (As := [.int (nI n), .int 8, .int 1]) (st := []) C hme rfl (c_X7_setOpacity D A l hst hI hw hb (h := true)) (cwV 3 C.1.2.2.2.2 gL_law_X7_setOpacity rfl rfl rfl (by decide +kernel) ⟨Nat.le_of_ble_eq_true rfl, Nat.le_of_ble_eq_true rfl⟩) rfl rfl (Nat.le_of_ble_eq_true rfl) dL_law_425 ⟨by show k + 43 ≤ 600064; omega, by show n9 + 2420 ≤ 7301640; omega⟩ (fun E M9 hx => ?_) (fun r M1 hp => ?_)
          · rcases hx.2 with ⟨h9, -⟩ | ⟨h9, -⟩ <;> exact absurd (hk0.symm.trans h9) (by decide)
          · obtain ⟨-, hr, hI⟩ := hp
            refine m_pop C dL_law_428 rfl ?_
            have es : s_setOpacity ar (nI n) (nI 8) true = (upA (upA ar 11 (upd (ar 11) n (nI 8))) 12 (upd (ar 12) n (bI true))) := by unfold s_setOpacity; rw [jN_at (show n < 2 ^ 31 by omega)]
            have hP' := lP_setOpacity (o := true) hP hk0
            have hI' : cI D Z F cm (nI g0) (s_setOpacity ar (nI n) (nI 8) true) M1 := hI
            rw [es] at hP' hI'
            have hB' : PB (upA (upA ar 11 (upd (ar 11) n (nI 8))) 12 (upd (ar 12) n (bI true))) := PB_11 hB (n := n) ⟨8, Nat.le_refl _, rfl⟩ (Or.inr rfl) rfl rfl rfl
            obtain ⟨x_8, ex_8⟩ : ∃ z : Int32, z = nI n + 1 := ⟨_, rfl⟩
            refine m_iinc (q := 0) (v := x_8) (L' := [(4, .int x_8), (3, .int v3), (2, .ref o2), (1, .ref (Z 0)), (0, .ref b)]) C dL_law_429 rfl (by rw [ex_8]; rfl) (by decide) rfl ?_
            refine m_goto (tgt := 384) C dL_law_432 (by decide) ?_
            rw [nI_1] at ex_8
            subst ex_8
            refine m_sub (L' := [(4, .int (nI (n + 1))), (3, .int v3), (2, .ref o2), (1, .ref (Z 0)), (0, .ref b)]) [0, 1, 2, 3, 4] rfl ?_
            exact ih (n + 1) _ _ _ _ (by omega) (by omega) (by omega) hP' hB' hnr (opa_yes h11) hI'
set_option maxHeartbeats 4000000 in
set_option maxRecDepth 100000 in
theorem law_y2 {p : Program} {l : Launch} {e : Env} {s : State} {m : MethodId} {args : Array Value} {below : List Frame} {meth : Method} {c : Code} {Q : State → Prop} {D : mD} {A : Nat → Prop} {y0 : MethodName} {ret0 : Option FieldType} {Z : Nat → Nat} {F : Mm} {cm g0 : Nat} {ar : rA} {o2 b qn qc qp : Nat} {nr cr : Nat → Option Nat} {B : Nat → Nat → Int32} {K : Nat → List Nat} (hRF : hW D o2 qn qc qp nr cr cm (nI g0) B K F) (hnr : ∀ n, n < 40 → ((∃ a, nr n = some a) ↔ cP ar cm n)) (hP : lP cm ar) (hB : PB ar) (hg : g0 ≤ 255) (hst : l.stackTraces = false) (C : mC p m meth c cL_law 11 s args wsL_law RL D A y0 ret0) {KB NB : Nat} (hKB : KB ≤ 600064) (hNB : NB ≤ 7301640) {x : Nat} {v3 : Int32} (hx : x < 64) (h8 : ∀ n, cP ar cm n → ar 11 n = 8) (kx : ∀ (M : Mm) (k n9 : Nat), k ≤ KB → n9 ≤ NB → cI D Z F cm (nI g0) ar M → mV p l e room_1 s m args below meth c 11 D A Q M k n9 [(5, .int (nI 48)), (4, .int (nI x)), (3, .int v3), (2, .ref o2), (1, .ref (Z 0)), (0, .ref b)] [] 504)  : ∀ (t j : Nat) (M : Mm) (k n9 : Nat), j + t = 16 → k + 2 * t ≤ KB → n9 + 12 * t ≤ NB → cI D Z F cm (nI g0) ar M → mV p l e room_1 s m args below meth c 11 D A Q M k n9 [(5, .int (nI (3 * j))), (4, .int (nI x)), (3, .int v3), (2, .ref o2), (1, .ref (Z 0)), (0, .ref b)] [] 448 := by
  have hw : wf ar cm := hP.1
  have hb : BD ar cm := hP.2.1
  have hs8 : ∀ n ∈ pre9 ar 0, q_sn ar n = 8 := fun n hn => str_8 (chn ar n) (fun a ha => h8 a (wf_all hw (of_root hw hn).1 (of_root hw hn).2 ha))
  intro t
  induction t with
  | zero =>
    intro j M k n9 hj hk hn9 hI
    refine m_iload C dL_law_448 0 rfl ?_
    refine m_bipush (v := 48) C dL_law_450 (by decide) ?_
    refine m_icmp_ge (tgt := 504) C dL_law_452 (by decide) (fun h_1 => ?_) (fun h_1 => ?_)
    · have h48 := (nI_leI (a := 48) (b := 3 * j) (by omega) (by omega)).mp h_1
      have hj16 : j = 16 := by omega
      subst hj16
      exact kx M k n9 (by omega) (by omega) hI
    · exact absurd (nI_le (a := 48) (b := 3 * j) (by omega) (by omega)) h_1
  | succ t ih =>
    intro j M k n9 hj hk hn9 hI
    refine m_iload C dL_law_448 0 rfl ?_
    refine m_bipush (v := 48) C dL_law_450 (by decide) ?_
    refine m_icmp_ge (tgt := 504) C dL_law_452 (by decide) (fun h_2 => ?_) (fun h_2 => ?_)
    · have h48 := (nI_leI (a := 48) (b := 3 * j) (by omega) (by omega)).mp h_2
      have hj16 : j = 16 := by omega
      subst hj16
      exact kx M k n9 (by omega) (by omega) hI
    · have hy : 3 * j < 48 := by omega
      refine m_aload_n C dL_law_455 rfl 4 rfl ?_
      refine m_iload C dL_law_456 1 rfl ?_
      refine m_iload C dL_law_458 0 rfl ?_
      have hk0 : k_pix (nI x) (nI (3 * j)) = 0 := pix_0 hx hy
      obtain ⟨mf0, hme⟩ := hI.me
      refine m_callVXiH (As := [.int (nI x), .int (nI (3 * j))]) (st := []) C hme rfl (c_X7_hit D A l hst hI hw hb) (cwV 2 C.1.2.2.2.2 gL_law_X7_hit rfl rfl rfl (by decide +kernel) ⟨Nat.le_of_ble_eq_true rfl, Nat.le_of_ble_eq_true rfl⟩) rfl rfl (Nat.le_of_ble_eq_true rfl) dL_law_460 ⟨by show k + 1 ≤ 600064; omega, by show n9 + 6 ≤ 7301640; omega⟩ (fun E M9 hx => ?_) (fun r M1 hp => ?_)
      · exact absurd (hk0.symm.trans hx.2.1) (by decide)
      · obtain ⟨-, hr, hI⟩ := hp
        obtain ⟨vh, hvh⟩ : ∃ v, q_hitL ar (pre9 ar 0) (nI x) (nI (3 * j)) = v := ⟨_, rfl⟩
        rw [hvh] at hr
        rw [hr]
        refine m_istore (L' := [(6, .int vh), (5, .int (nI (3 * j))), (4, .int (nI x)), (3, .int v3), (2, .ref o2), (1, .ref (Z 0)), (0, .ref b)]) C dL_law_463 (by decide) rfl ?_
        refine m_aload_n C dL_law_465 rfl 5 rfl ?_
        refine m_iload C dL_law_466 2 rfl ?_
        refine m_iload C dL_law_468 1 rfl ?_
        obtain ⟨vv, hvv⟩ : ∃ v, q_val ar (nI g0) (pre9 ar 0) (nI x) (nI (3 * j)) = v := ⟨_, rfl⟩
        have hk0 : k_pix (nI x) (nI (3 * j)) = 0 := pix_0 hx hy
        obtain ⟨mf0, hme⟩ := hI.me
        refine m_callVXiH (As := [.int (nI x), .int (nI (3 * j))]) (st := []) C hme rfl (c_X7_value D A l hst hI hw hb) (cwV 2 C.1.2.2.2.2 gL_law_X7_value rfl rfl rfl (by decide +kernel) ⟨Nat.le_of_ble_eq_true rfl, Nat.le_of_ble_eq_true rfl⟩) rfl rfl (Nat.le_of_ble_eq_true rfl) dL_law_470 ⟨by show (k + 1) + 1 ≤ 600064; omega, by show (n9 + 6) + 6 ≤ 7301640; omega⟩ (fun E M9 hx => ?_) (fun r M1 hp => ?_)
        · exact absurd (hk0.symm.trans hx.2.1) (by decide)
        · obtain ⟨-, hr, hI⟩ := hp
          rw [hvv] at hr
          rw [hr]
          have hR : hW D o2 qn qc qp nr cr cm (nI g0) B K M1 := hRF.mono (fun a x h => hI.F0 h)
          rcases val_8L hB (px := nI x) (py := nI (3 * j)) hs8 hg with ⟨e1, e2⟩ | ⟨h, hm, e1, e2⟩
          · rw [hvh] at e1
            rw [hvv] at e2
            subst e1
            subst e2
            refine m_iload C dL_law_473 0 rfl ?_
            refine m_if_ge (tgt := 485) C dL_law_475 (by decide) (fun h_3 => ?_) (fun h_3 => ?_)
            · exact absurd h_3 (by decide)
            · refine m_aload_n C dL_law_478 rfl 4 rfl ?_
              refine m_get (ref := "PaintLayersLaw$Hand") C hR.1 rfl inlX8 3 (by decide) (by decide +kernel) (fun x h => h) (v := .int (nI g0)) rfl dL_law_479 ?_
              refine m_goto (tgt := 493) C dL_law_482 (by decide) ?_
              refine m_icmp_eq (tgt := 498) C dL_law_493 (by decide) (fun h_4 => ?_) (fun h_4 => ?_)
              · obtain ⟨x_5, ex_5⟩ : ∃ z : Int32, z = nI (3 * j) + 3 := ⟨_, rfl⟩
                refine m_iinc (q := 1) (v := x_5) (L' := [(5, .int x_5), (6, .int ((-1))), (4, .int (nI x)), (3, .int v3), (2, .ref o2), (1, .ref (Z 0)), (0, .ref b)]) C dL_law_498 rfl (by rw [ex_5]; rfl) (by decide) rfl ?_
                refine m_goto (tgt := 448) C dL_law_501 (by decide) ?_
                rw [show nI (3 * j) + 3 = nI (3 * (j + 1)) from nI_add (3 * j) 3] at ex_5
                subst ex_5
                refine m_sub (L' := [(5, .int (nI (3 * (j + 1)))), (4, .int (nI x)), (3, .int v3), (2, .ref o2), (1, .ref (Z 0)), (0, .ref b)]) [0, 2, 3, 4, 5, 6] rfl ?_
                exact ih (j + 1) _ _ _ (by omega) (by omega) (by omega) hI
              · exact absurd rfl h_4
          · rw [hvh] at e1
            rw [hvv] at e2
            subst e1
            subst e2
            have hhp := of_root hw hm
            have hh4 := cP_40 hw hhp
            refine m_iload C dL_law_473 0 rfl ?_
            refine m_if_ge (tgt := 485) C dL_law_475 (by decide) (fun h_6 => ?_) (fun h_6 => ?_)
            · refine m_aload_n C dL_law_485 rfl 5 rfl ?_
              refine m_iload C dL_law_486 0 rfl ?_
              refine m_bipush (v := 7) C dL_law_488 (by decide) ?_
              obtain ⟨mf0, hme⟩ := hI.me
              refine m_callVi (As := [.int (nI h), .int 7]) (st := [.int (q_fn ar h)]) C hme rfl (c_X7_node0 D A l hI hw hb hhp (w9 := 7) (by decide)) (cwV 2 C.1.2.2.2.2 gL_law_X7_node rfl rfl rfl (by decide +kernel) ⟨Nat.le_of_ble_eq_true rfl, Nat.le_of_ble_eq_true rfl⟩) rfl rfl (Nat.le_of_ble_eq_true rfl) dL_law_490 ⟨by show ((k + 1) + 1) + 0 ≤ 600064; omega, by show ((n9 + 6) + 6) + 0 ≤ 7301640; omega⟩ (fun r M1 hq1 => ?_)
              obtain ⟨e1, e2⟩ := hq1
              subst e1
              rw [show q_tld ar (chn ar h) (plc ar h) h 7 = q_fn ar h from rfl] at e2
              subst e2
              refine mV_kn (k := ((k + 1) + 1)) (n := ((n9 + 6) + 6)) rfl rfl ?_
              refine m_icmp_eq (tgt := 498) C dL_law_493 (by decide) (fun h_7 => ?_) (fun h_7 => ?_)
              · obtain ⟨x_8, ex_8⟩ : ∃ z : Int32, z = nI (3 * j) + 3 := ⟨_, rfl⟩
                refine m_iinc (q := 1) (v := x_8) (L' := [(5, .int x_8), (6, .int (nI h)), (4, .int (nI x)), (3, .int v3), (2, .ref o2), (1, .ref (Z 0)), (0, .ref b)]) C dL_law_498 rfl (by rw [ex_8]; rfl) (by decide) rfl ?_
                refine m_goto (tgt := 448) C dL_law_501 (by decide) ?_
                rw [show nI (3 * j) + 3 = nI (3 * (j + 1)) from nI_add (3 * j) 3] at ex_8
                subst ex_8
                refine m_sub (L' := [(5, .int (nI (3 * (j + 1)))), (4, .int (nI x)), (3, .int v3), (2, .ref o2), (1, .ref (Z 0)), (0, .ref b)]) [0, 2, 3, 4, 5, 6] rfl ?_
                exact ih (j + 1) _ _ _ (by omega) (by omega) (by omega) hI
              · exact absurd rfl h_7
            · exact absurd (Int32.not_lt.mp (nI_pos (by omega))) h_6
set_option maxHeartbeats 4000000 in
set_option maxRecDepth 100000 in
theorem law_x2 {p : Program} {l : Launch} {e : Env} {s : State} {m : MethodId} {args : Array Value} {below : List Frame} {meth : Method} {c : Code} {Q : State → Prop} {D : mD} {A : Nat → Prop} {y0 : MethodName} {ret0 : Option FieldType} {Z : Nat → Nat} {F : Mm} {cm g0 : Nat} {ar : rA} {o2 b qn qc qp : Nat} {nr cr : Nat → Option Nat} {B : Nat → Nat → Int32} {K : Nat → List Nat} (hRF : hW D o2 qn qc qp nr cr cm (nI g0) B K F) (hnr : ∀ n, n < 40 → ((∃ a, nr n = some a) ↔ cP ar cm n)) (hP : lP cm ar) (hB : PB ar) (hg : g0 ≤ 255) (hst : l.stackTraces = false) (C : mC p m meth c cL_law 11 s args wsL_law RL D A y0 ret0) {KB NB : Nat} (hKB : KB ≤ 600064) (hNB : NB ≤ 7301640) {v3 : Int32} (h8 : ∀ n, cP ar cm n → ar 11 n = 8) (kx : ∀ (M : Mm) (k n9 : Nat), k ≤ KB → n9 ≤ NB → cI D Z F cm (nI g0) ar M → mV p l e room_1 s m args below meth c 11 D A Q M k n9 [(4, .int (nI 65)), (3, .int v3), (2, .ref o2), (1, .ref (Z 0)), (0, .ref b)] [] 510)  : ∀ (t i : Nat) (M : Mm) (k n9 : Nat), i + t = 32 → k + 32 * t ≤ KB → n9 + 192 * t ≤ NB → cI D Z F cm (nI g0) ar M → mV p l e room_1 s m args below meth c 11 D A Q M k n9 [(4, .int (nI (2 * i + 1))), (3, .int v3), (2, .ref o2), (1, .ref (Z 0)), (0, .ref b)] [] 438 := by
  have hw : wf ar cm := hP.1
  have hb : BD ar cm := hP.2.1
  intro t
  induction t with
  | zero =>
    intro i M k n9 hi hk hn9 hI
    refine m_iload C dL_law_438 0 rfl ?_
    refine m_bipush (v := 64) C dL_law_440 (by decide) ?_
    refine m_icmp_ge (tgt := 510) C dL_law_442 (by decide) (fun h_1 => ?_) (fun h_1 => ?_)
    · have h48 := (nI_leI (a := 64) (b := 2 * i + 1) (by omega) (by omega)).mp h_1
      have hj16 : i = 32 := by omega
      subst hj16
      exact kx M k n9 (by omega) (by omega) hI
    · exact absurd (nI_le (a := 64) (b := 2 * i + 1) (by omega) (by omega)) h_1
  | succ t ih =>
    intro i M k n9 hi hk hn9 hI
    refine m_iload C dL_law_438 0 rfl ?_
    refine m_bipush (v := 64) C dL_law_440 (by decide) ?_
    refine m_icmp_ge (tgt := 510) C dL_law_442 (by decide) (fun h_2 => ?_) (fun h_2 => ?_)
    · have h48 := (nI_leI (a := 64) (b := 2 * i + 1) (by omega) (by omega)).mp h_2
      have hj16 : i = 32 := by omega
      subst hj16
      exact kx M k n9 (by omega) (by omega) hI
    · have hx : 2 * i + 1 < 64 := by omega
      refine m_iconst (v := 0) C dL_law_445 (by decide) ?_
      refine m_istore (L' := [(5, .int 0), (4, .int (nI (2 * i + 1))), (3, .int v3), (2, .ref o2), (1, .ref (Z 0)), (0, .ref b)]) C dL_law_446 (by decide) rfl ?_
      refine m_sub (L' := [(5, .int (nI (3 * 0))), (4, .int (nI (2 * i + 1))), (3, .int v3), (2, .ref o2), (1, .ref (Z 0)), (0, .ref b)]) [0, 1, 2, 3, 4, 5] rfl ?_
      refine law_y2 hRF hnr hP hB hg hst C (KB := k + 32) (NB := n9 + 192) (by omega) (by omega) hx h8 (fun M k2 n2 hk2 hn2 hI => ?_) 16 0 M k n9 rfl (by omega) (by omega) hI
      obtain ⟨x_3, ex_3⟩ : ∃ z : Int32, z = nI (2 * i + 1) + 2 := ⟨_, rfl⟩
      refine m_iinc (q := 1) (v := x_3) (L' := [(4, .int x_3), (5, .int (nI 48)), (3, .int v3), (2, .ref o2), (1, .ref (Z 0)), (0, .ref b)]) C dL_law_504 rfl (by rw [ex_3]; rfl) (by decide) rfl ?_
      refine m_goto (tgt := 438) C dL_law_507 (by decide) ?_
      rw [show nI (2 * i + 1) + 2 = nI (2 * (i + 1) + 1) from (nI_add (2 * i + 1) 2).trans (congrArg nI (by omega))] at ex_3
      subst ex_3
      refine m_sub (L' := [(4, .int (nI (2 * (i + 1) + 1))), (3, .int v3), (2, .ref o2), (1, .ref (Z 0)), (0, .ref b)]) [0, 2, 3, 4, 5] rfl ?_
      exact ih (i + 1) _ _ _ (by omega) (by omega) (by omega) hI
