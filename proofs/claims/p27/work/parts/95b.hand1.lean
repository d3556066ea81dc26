/-! ===== the record: place, take, put ===== -/
theorem getD_lt9 {l : List Nat} {i : Nat} (hl : ∀ x ∈ l, x < 40) (hi : i < l.length) : l.getD i 0 < 40 := by
  rw [List.getD_eq_getElem?_getD, List.getElem?_eq_getElem hi]
  exact hl _ (List.getElem_mem hi)
set_option maxHeartbeats 4000000 in
set_option maxRecDepth 100000 in
theorem lp_X8_place {p : Program} {l : Launch} {e : Env} {s : State} {m : MethodId} {args : Array Value} {below : List Frame} {meth : Method} {c : Code} {Q : State → Prop} {D : mD} {A : Nat → Prop} {o qn qc qp : Nat} {nr cr : Nat → Option Nat} {c9 : Nat} {g : Int32} {B : Nat → Nat → Int32} {K : Nat → List Nat} {M : Mm} (hR : hW D o qn qc qp nr cr c9 g B K M) {n u j : Nat} (hn : n < 40) (hu : u < 40) {a : Nat} (ha : nr n = some a) (h1 : B n 1 = nI u) (hl : (K u).length ≤ 40) (h40 : ∀ x ∈ K u, x < 40) (hj : j < (K u).length) (h3 : (K u).getD j 0 = n) (h4 : ∀ i, i < j → (K u).getD i 0 ≠ n) (C : mC p m meth c cX8_place 3 s args wsX8_place yX8_place.cls D A yX8_place (some .int)) (i8 : ∀ w ∈ wsX80, w ∈ wsX8_place) (kx : mV p l e ({ frames := 0, cells := 0, slots := 0, locals := 0 } : Room) s m args below meth c 3 D A Q M 0 0 [(2, .int (nI j)), (1, .int (nI n)), (0, .ref o)] [] 27) : ∀ (N : Nat) (i : Nat), j - i = N → (i ≤ j) → mV p l e ({ frames := 0, cells := 0, slots := 0, locals := 0 } : Room) s m args below meth c 3 D A Q M 0 0 [(2, .int (nI i)), (1, .int (nI n)), (0, .ref o)] [] 2 := by
  intro N
  induction N using Nat.strongRecOn with
  | _ N ih =>
    intro i hN hi
    obtain ⟨b, f, hb, hbM, hf⟩ := hR.crow hu
    refine m_aload_n C dX8_place_2 rfl 2 rfl ?_
    refine m_get (ref := "PaintLayersLaw$Hand") C hR.1 rfl i8 1 (by decide) (by decide +kernel) (fun x h => h) (v := .ref qc) rfl dX8_place_3 ?_
    refine m_aload_n C dX8_place_6 rfl 2 rfl ?_
    refine m_get (ref := "PaintLayersLaw$Hand") C hR.1 rfl i8 0 (by decide) (by decide +kernel) (fun x h => h) (v := .ref qn) rfl dX8_place_7 ?_
    refine m_iload_n C dX8_place_10 rfl 1 rfl ?_
    refine m_aaldA C hR.2.1 (vp_in_nI hn (by decide)) dX8_place_11 ?_
    rw [nI_clamp (show n < 2 ^ 31 by omega), ha]
    refine m_iconst (v := 1) C dX8_place_12 (by decide) ?_
    refine m_iald C (hR.nrow hn ha) (by unfold vp_in; decide) dX8_place_13 ?_
    refine m_i (y := B n 1) (rfl) ?_
    refine m_i (y := nI u) (h1) ?_
    refine m_aaldA C hR.2.2.1 (vp_in_nI hu (by decide)) dX8_place_14 ?_
    rw [nI_clamp (show u < 2 ^ 31 by omega), hb]
    refine m_iload_n C dX8_place_15 rfl 0 rfl ?_
    refine m_iald C hbM (vp_in_nI (show i < (K u).length by omega) (by omega)) dX8_place_16 ?_
    rw [nI_clamp (show i < 2 ^ 31 by omega)]
    rw [hf i (by omega)]
    refine m_iload_n C dX8_place_17 rfl 1 rfl ?_
    refine m_icmp_eq (tgt := 27) C dX8_place_18 (by decide) (fun h_1 => ?_) (fun h_1 => ?_)
    · have hij : i = j := by
        rcases Nat.lt_or_ge i j with z | z
        · exact absurd ((nI_eq (by have := getD_lt9 h40 (show i < (K u).length by omega); omega) (by omega)).mp h_1) (h4 i z)
        · omega
      subst hij
      exact kx
    · have hij : i < j := by
        rcases Nat.lt_or_ge i j with z | z
        · exact z
        · exact absurd (show nI ((K u).getD i 0) = nI n by rw [show i = j by omega, h3]) h_1
      obtain ⟨x_2, ex_2⟩ : ∃ z : Int32, z = nI i + 1 := ⟨_, rfl⟩
      refine m_iinc (q := 0) (v := x_2) (L' := [(2, .int x_2), (1, .int (nI n)), (0, .ref o)]) C dX8_place_21 rfl (by rw [ex_2]; rfl) (by decide) rfl ?_
      refine m_goto (tgt := 2) C dX8_place_24 (by decide) ?_
      rw [nI_1] at ex_2
      subst ex_2
      refine m_sub (L' := [(2, .int (nI (i + 1))), (1, .int (nI n)), (0, .ref o)]) [0, 1, 2] rfl ?_
      exact ih (j - (i + 1)) (by omega) (i + 1) rfl (by omega)
set_option maxHeartbeats 4000000 in
set_option maxRecDepth 100000 in
theorem c_X8_place (D : mD) (A : Nat → Prop) (l : Launch) {o qn qc qp : Nat} {nr cr : Nat → Option Nat} {c9 : Nat} {g : Int32} {B : Nat → Nat → Int32} {K : Nat → List Nat} {M : Mm} (hR : hW D o qn qc qp nr cr c9 g B K M) {n u j : Nat} (hn : n < 40) (hu : u < 40) {a : Nat} (ha : nr n = some a) (h1 : B n 1 = nI u) (hl : (K u).length ≤ 40) (h40 : ∀ x ∈ K u, x < 40) (hj : j < (K u).length) (h3 : (K u).getD j 0 = n) (h4 : ∀ i, i < j → (K u).getD i 0 ≠ n) : mMi D A l yX8_place wsX8_place ({ frames := 0, cells := 0, slots := 0, locals := 0 } : Room) [.ref o, .int (nI n)] M (fun r M' => M' = M ∧ r = nI j) 0 0 := by
  refine m_start (cc := cX8_place) (maxL := 3) (ret := (some .int)) (by decide) rfl (Nat.le_of_ble_eq_true rfl) ?_
  intro p e s m args below meth c C
  have i8 : ∀ w ∈ wsX80, w ∈ wsX8_place := by decide +kernel
  refine m_sub (L' := [(0, .ref o), (1, .int (nI n))]) [0, 1] rfl ?_
  refine m_iconst (v := 0) C dX8_place_0 (by decide) ?_
  refine m_istore_n (L' := [(2, .int 0), (0, .ref o), (1, .int (nI n))]) C dX8_place_1 rfl (by decide) rfl ?_
  refine m_sub (L' := [(2, .int 0), (1, .int (nI n)), (0, .ref o)]) [0, 2, 1] rfl ?_
  refine lp_X8_place hR hn hu ha h1 hl h40 hj h3 h4 C i8 ?_ _ 0 rfl (by omega)
  refine m_iload_n C dX8_place_27 rfl 0 rfl ?_
  exact m_iret C (Nat.le_of_ble_eq_true rfl) (Nat.le_of_ble_eq_true rfl) dX8_place_28 (⟨rfl, rfl⟩)
theorem mV_kn {p : Program} {l : Launch} {e : Env} {R : Room} {s : State} {m : MethodId} {args : Array Value} {below : List Frame} {meth : Method} {c : Code} {nL : Nat} {D : mD} {A : Nat → Prop} {Q : State → Prop} {M : Mm} {k n k0 n0 : Nat} {L : List (Nat × Value)} {st : List Value} {pc : Nat} (hk : k0 = k) (hn : n0 = n) (kk : mV p l e R s m args below meth c nL D A Q M k n L st pc) : mV p l e R s m args below meth c nL D A Q M k0 n0 L st pc := by
  rw [hk, hn]
  exact kk
theorem nI_sub1 {i : Nat} (h : 0 < i) : nI (i - 1) = nI i - 1 := by
  obtain ⟨k, rfl⟩ : ∃ k, i = k + 1 := ⟨i - 1, by omega⟩
  rw [← nI_1]
  show nI k = nI k + 1 - 1
  rw [Int32.add_sub_cancel]
theorem mS.kp {M0 M : Mm} (h : mS M0 M) {q : Nat} {nr : Nat → Option Nat} (hq : M0 q = none) {D : mD} {B : Nat → Nat → Int32} (hr : ∀ n a, n < 40 → nr n = some a → M0 a = some (jI D 18 (B n))) : ∀ n, n < 40 → nr n ≠ some q := fun n hn z => by
  have := hr n q hn z
  rw [hq] at this
  cases this
theorem insL_lt {l : List Nat} {j n i : Nat} (hi : i < j) (hj : j ≤ l.length) : (insL l j n).getD i 0 = l.getD i 0 := by
  unfold insL
  rw [List.getD_eq_getElem?_getD, List.getD_eq_getElem?_getD, List.getElem?_append_left (by rw [List.length_take]; omega), List.getElem?_take_of_lt hi]
theorem insL_eq {l : List Nat} {j n : Nat} (hj : j ≤ l.length) : (insL l j n).getD j 0 = n := by
  unfold insL
  rw [List.getD_eq_getElem?_getD, List.getElem?_append_right (by rw [List.length_take]; omega), List.length_take, show j - min j l.length = 0 by omega]
  rfl
theorem insL_gt {l : List Nat} {j n i : Nat} (hi : j < i) (hj : j ≤ l.length) : (insL l j n).getD i 0 = l.getD (i - 1) 0 := by
  unfold insL
  rw [List.getD_eq_getElem?_getD, List.getD_eq_getElem?_getD, List.getElem?_append_right (by rw [List.length_take]; omega), List.length_take, show i - min j l.length = (i - j - 1) + 1 by omega, List.getElem?_cons_succ, List.getElem?_drop, show j + (i - j - 1) = i - 1 by omega]
theorem outL_lt {l : List Nat} {j i : Nat} (hi : i < j) (hj : j < l.length) : (outL l j).getD i 0 = l.getD i 0 := by
  unfold outL
  rw [List.getD_eq_getElem?_getD, List.getD_eq_getElem?_getD, List.getElem?_append_left (by rw [List.length_take]; omega), List.getElem?_take_of_lt hi]
theorem outL_ge {l : List Nat} {j i : Nat} (hi : j ≤ i) (hj : j < l.length) : (outL l j).getD i 0 = l.getD (i + 1) 0 := by
  unfold outL
  rw [List.getD_eq_getElem?_getD, List.getD_eq_getElem?_getD, List.getElem?_append_right (by rw [List.length_take]; omega), List.length_take, List.getElem?_drop, show j + 1 + (i - min j l.length) = i + 1 by omega]
theorem outL_len9 {l : List Nat} {j : Nat} (hj : j < l.length) : (outL l j).length = l.length - 1 := by
  unfold outL
  rw [List.length_append, List.length_take, List.length_drop]
  omega
theorem row_step {f : Nat → Int32} {l : List Nat} {i : Nat} {x : Int32} (hf : ∀ k, k < i → f k = nI (l.getD k 0)) (hx : x = nI (l.getD i 0)) : ∀ k, k < i + 1 → upd f i x k = nI (l.getD k 0) := by
  intro k hk
  by_cases z : k = i
  · rw [z, upd_s9, hx]
  · rw [upd_n9 z]
    exact hf k (by omega)
set_option maxHeartbeats 4000000 in
set_option maxRecDepth 100000 in
theorem lp_X8_put {p : Program} {l : Launch} {e : Env} {s : State} {m : MethodId} {args : Array Value} {below : List Frame} {meth : Method} {c : Code} {Q : State → Prop} {D : mD} {A : Nat → Prop} {o qn qc qp : Nat} {nr cr : Nat → Option Nat} {c9 : Nat} {g : Int32} {B : Nat → Nat → Int32} {K : Nat → List Nat} {M0 : Mm} (hR : hW D o qn qc qp nr cr c9 g B K M0) {n u j : Nat} (hn : n < 40) (hu : u < 40) {a : Nat} (ha : nr n = some a) (hl : (K u).length ≤ 40) (hj : j ≤ (K u).length) {q : Nat} (hq0 : M0 q = none) (C : mC p m meth c cX8_put 6 s args wsX8_put yX8_put.cls D A yX8_put none) (i8 : ∀ w ∈ wsX80, w ∈ wsX8_put) (kx : ∀ (M : Mm) (f : Nat → Int32), mS M0 M → M q = some (jI D ((K u).length + 1) f) → (∀ k, k < (K u).length + 1 → f k = nI ((insL (K u) j n).getD k 0)) → mV p l e ({ frames := 0, cells := 1, slots := 41, locals := 0 } : Room) s m args below meth c 6 D A Q M 1 ((K u).length + 1) [(5, .int (nI ((K u).length + 1))), (4, .ref q), (3, .int (nI j)), (2, .int (nI u)), (1, .int (nI n)), (0, .ref o)] [] 74) : ∀ (N : Nat) (i : Nat) (M : Mm) (f : Nat → Int32), (K u).length + 1 - i = N → (i ≤ (K u).length + 1) → (mS M0 M) → (M q = some (jI D ((K u).length + 1) f)) → (∀ k, k < i → f k = nI ((insL (K u) j n).getD k 0)) → mV p l e ({ frames := 0, cells := 1, slots := 41, locals := 0 } : Room) s m args below meth c 6 D A Q M 1 ((K u).length + 1) [(5, .int (nI i)), (4, .ref q), (3, .int (nI j)), (2, .int (nI u)), (1, .int (nI n)), (0, .ref o)] [] 16 := by
  intro N
  induction N using Nat.strongRecOn with
  | _ N ih =>
    intro i M f hN hi hX hq hf
    obtain ⟨b, f0, hb, hbM, hf0⟩ := hR.crow hu
    have hlen : ((K u).length + 1) = (insL (K u) j n).length := (insL_len hj).symm
    refine m_iload C dX8_put_16 0 rfl ?_
    refine m_aload C dX8_put_18 1 rfl ?_
    refine m_alen C hq 0 rfl (v := nI ((K u).length + 1)) rfl dX8_put_20 ?_
    refine m_icmp_ge (tgt := 74) C dX8_put_21 (by decide) (fun h_1 => ?_) (fun h_1 => ?_)
    · have hij : i = (K u).length + 1 := by
        have := (nI_leI (a := (K u).length + 1) (b := i) (by omega) (by omega)).mp h_1
        omega
      subst hij
      exact kx M f hX hq hf
    · have hij : i < (K u).length + 1 := by
        rcases Nat.lt_or_ge i ((K u).length + 1) with z | z
        · exact z
        · exact absurd (nI_le (a := (K u).length + 1) (b := i) z (by omega)) h_1
      refine m_aload C dX8_put_24 1 rfl ?_
      refine m_iload C dX8_put_26 0 rfl ?_
      refine m_iload C dX8_put_28 0 rfl ?_
      refine m_iload_n C dX8_put_30 rfl 2 rfl ?_
      refine m_icmp_ge (tgt := 46) C dX8_put_31 (by decide) (fun h_2 => ?_) (fun h_2 => ?_)
      · have hge : j ≤ i := (nI_leI (by omega) (by omega)).mp h_2
        refine m_iload C dX8_put_46 0 rfl ?_
        refine m_iload_n C dX8_put_48 rfl 2 rfl ?_
        refine m_icmp_ne (tgt := 56) C dX8_put_49 (by decide) (fun h_3 => ?_) (fun h_3 => ?_)
        · have hgt : j < i := by
            rcases Nat.lt_or_ge j i with z | z
            · exact z
            · exact absurd (show nI i = nI j by rw [show i = j by omega]) h_3
          refine m_aload_n C dX8_put_56 rfl 5 rfl ?_
          refine m_get (ref := "PaintLayersLaw$Hand") C (hR.mono hX).1 rfl i8 1 (by decide) (by decide +kernel) (fun x h => h) (v := .ref qc) rfl dX8_put_57 ?_
          refine m_iload_n C dX8_put_60 rfl 3 rfl ?_
          refine m_aaldA C (hR.mono hX).2.2.1 (vp_in_nI hu (by decide)) dX8_put_61 ?_
          rw [nI_clamp (show u < 2 ^ 31 by omega), hb]
          refine m_iload C dX8_put_62 0 rfl ?_
          refine m_iconst (v := 1) C dX8_put_64 (by decide) ?_
          refine m_isub C dX8_put_65 ?_
          refine m_i (y := nI (i - 1)) ((nI_sub1 (by omega)).symm) ?_
          refine m_iald C (hX _ _ hbM) (vp_in_nI (show i - 1 < (K u).length by omega) (by omega)) dX8_put_66 ?_
          rw [nI_clamp (show (i - 1) < 2 ^ 31 by omega)]
          refine m_iast C hq (vp_in_nI hij (by omega)) dX8_put_67 ?_
          rw [nI_clamp (show i < 2 ^ 31 by omega)]
          obtain ⟨x_4, ex_4⟩ : ∃ z : Int32, z = nI i + 1 := ⟨_, rfl⟩
          refine m_iinc (q := 0) (v := x_4) (L' := [(5, .int x_4), (4, .ref q), (3, .int (nI j)), (2, .int (nI u)), (1, .int (nI n)), (0, .ref o)]) C dX8_put_68 rfl (by rw [ex_4]; rfl) (by decide) rfl ?_
          refine m_goto (tgt := 16) C dX8_put_71 (by decide) ?_
          rw [nI_1] at ex_4
          subst ex_4
          refine m_sub (L' := [(5, .int (nI (i + 1))), (4, .ref q), (3, .int (nI j)), (2, .int (nI u)), (1, .int (nI n)), (0, .ref o)]) [0, 1, 2, 3, 4, 5] rfl ?_
          exact ih (((K u).length + 1) - (i + 1)) (by omega) (i + 1) _ _ rfl (by omega) (hX.new hq0) m_up_s (row_step hf (by rw [insL_gt hgt hj, hf0 (i - 1) (by omega)]))
        · have heq : i = j := (nI_eq (by omega) (by omega)).mp h_3
          refine m_iload_n C dX8_put_52 rfl 4 rfl ?_
          refine m_goto (tgt := 67) C dX8_put_53 (by decide) ?_
          refine m_iast C hq (vp_in_nI hij (by omega)) dX8_put_67 ?_
          rw [nI_clamp (show i < 2 ^ 31 by omega)]
          obtain ⟨x_5, ex_5⟩ : ∃ z : Int32, z = nI i + 1 := ⟨_, rfl⟩
          refine m_iinc (q := 0) (v := x_5) (L' := [(5, .int x_5), (4, .ref q), (3, .int (nI j)), (2, .int (nI u)), (1, .int (nI n)), (0, .ref o)]) C dX8_put_68 rfl (by rw [ex_5]; rfl) (by decide) rfl ?_
          refine m_goto (tgt := 16) C dX8_put_71 (by decide) ?_
          rw [nI_1] at ex_5
          subst ex_5
          refine m_sub (L' := [(5, .int (nI (i + 1))), (4, .ref q), (3, .int (nI j)), (2, .int (nI u)), (1, .int (nI n)), (0, .ref o)]) [0, 1, 2, 3, 4, 5] rfl ?_
          exact ih (((K u).length + 1) - (i + 1)) (by omega) (i + 1) _ _ rfl (by omega) (hX.new hq0) m_up_s (row_step hf (by rw [heq, insL_eq hj]))
      · have hlt : i < j := by
          rcases Nat.lt_or_ge i j with z | z
          · exact z
          · exact absurd (nI_le (a := j) (b := i) z (by omega)) h_2
        refine m_aload_n C dX8_put_34 rfl 5 rfl ?_
        refine m_get (ref := "PaintLayersLaw$Hand") C (hR.mono hX).1 rfl i8 1 (by decide) (by decide +kernel) (fun x h => h) (v := .ref qc) rfl dX8_put_35 ?_
        refine m_iload_n C dX8_put_38 rfl 3 rfl ?_
        refine m_aaldA C (hR.mono hX).2.2.1 (vp_in_nI hu (by decide)) dX8_put_39 ?_
        rw [nI_clamp (show u < 2 ^ 31 by omega), hb]
        refine m_iload C dX8_put_40 0 rfl ?_
        refine m_iald C (hX _ _ hbM) (vp_in_nI (show i < (K u).length by omega) (by omega)) dX8_put_42 ?_
        rw [nI_clamp (show i < 2 ^ 31 by omega)]
        refine m_goto (tgt := 67) C dX8_put_43 (by decide) ?_
        refine m_iast C hq (vp_in_nI hij (by omega)) dX8_put_67 ?_
        rw [nI_clamp (show i < 2 ^ 31 by omega)]
        obtain ⟨x_6, ex_6⟩ : ∃ z : Int32, z = nI i + 1 := ⟨_, rfl⟩
        refine m_iinc (q := 0) (v := x_6) (L' := [(5, .int x_6), (4, .ref q), (3, .int (nI j)), (2, .int (nI u)), (1, .int (nI n)), (0, .ref o)]) C dX8_put_68 rfl (by rw [ex_6]; rfl) (by decide) rfl ?_
        refine m_goto (tgt := 16) C dX8_put_71 (by decide) ?_
        rw [nI_1] at ex_6
        subst ex_6
        refine m_sub (L' := [(5, .int (nI (i + 1))), (4, .ref q), (3, .int (nI j)), (2, .int (nI u)), (1, .int (nI n)), (0, .ref o)]) [0, 1, 2, 3, 4, 5] rfl ?_
        exact ih (((K u).length + 1) - (i + 1)) (by omega) (i + 1) _ _ rfl (by omega) (hX.new hq0) m_up_s (row_step hf (by rw [insL_lt hlt hj, hf0 i (by omega)]))
set_option maxHeartbeats 4000000 in
set_option maxRecDepth 100000 in
theorem c_X8_put (D : mD) (A : Nat → Prop) (l : Launch) {o qn qc qp : Nat} {nr cr : Nat → Option Nat} {c9 : Nat} {g : Int32} {B : Nat → Nat → Int32} {K : Nat → List Nat} {M : Mm} (hR : hW D o qn qc qp nr cr c9 g B K M) {n u j : Nat} (hn : n < 40) (hu : u < 40) {a : Nat} (ha : nr n = some a) (hl : (K u).length ≤ 40) (hj : j ≤ (K u).length) : mMv D A l yX8_put wsX8_put ({ frames := 0, cells := 1, slots := 41, locals := 0 } : Room) [.ref o, .int (nI n), .int (nI u), .int (nI j)] M (fun M' => ∃ cr', hW D o qn qc qp nr cr' c9 g (upA B n (upd (B n) 1 (nI u))) (upA K u (insL (K u) j n)) M' ∧ hK o qn qc nr nr cr cr' M M') 1 41 := by
  refine m_start (cc := cX8_put) (maxL := 6) (ret := none) (by decide) rfl (Nat.le_of_ble_eq_true rfl) ?_
  intro p e s m args below meth c C
  have i8 : ∀ w ∈ wsX80, w ∈ wsX8_put := by decide +kernel
  refine m_sub (L' := [(0, .ref o), (1, .int (nI n)), (2, .int (nI u)), (3, .int (nI j))]) [0, 1, 2, 3] rfl ?_
  obtain ⟨b, f0, hb, hbM, hf0⟩ := hR.crow hu
  refine m_aload_n C dX8_put_0 rfl 0 rfl ?_
  refine m_get (ref := "PaintLayersLaw$Hand") C hR.1 rfl i8 1 (by decide) (by decide +kernel) (fun x h => h) (v := .ref qc) rfl dX8_put_1 ?_
  refine m_iload_n C dX8_put_4 rfl 2 rfl ?_
  refine m_aaldA C hR.2.2.1 (vp_in_nI hu (by decide)) dX8_put_5 ?_
  rw [nI_clamp (show u < 2 ^ 31 by omega), hb]
  refine m_alen C hbM 0 rfl (v := nI (K u).length) rfl dX8_put_6 ?_
  refine m_iconst (v := 1) C dX8_put_7 (by decide) ?_
  refine m_iadd C dX8_put_8 ?_
  refine m_i (y := nI ((K u).length + 1)) (nI_1 ..) ?_
  refine m_newI C (by decide +kernel) (N := (K u).length + 1) (rfl) (by omega) (by decide) (by show 0 + ((K u).length + 1) ≤ 41; omega) dX8_put_9 (fun q hq0 => ?_)
  refine m_astore (L' := [(4, .ref q), (0, .ref o), (1, .int (nI n)), (2, .int (nI u)), (3, .int (nI j))]) C dX8_put_11 (by decide) rfl ?_
  refine m_iconst (v := 0) C dX8_put_13 (by decide) ?_
  refine m_istore (L' := [(5, .int 0), (4, .ref q), (0, .ref o), (1, .int (nI n)), (2, .int (nI u)), (3, .int (nI j))]) C dX8_put_14 (by decide) rfl ?_
  refine m_sub (L' := [(5, .int (nI 0)), (4, .ref q), (3, .int (nI j)), (2, .int (nI u)), (1, .int (nI n)), (0, .ref o)]) [0, 1, 5, 4, 3, 2] rfl ?_
  refine mV_kn (k := 1) (n := (K u).length + 1) rfl (by omega) ?_
  refine lp_X8_put hR hn hu ha hl hj hq0 C i8 (fun M1 f hX hq hf => ?_) _ 0 _ _ rfl (Nat.zero_le _) (mS.rf.new hq0) m_up_s (fun k hk => absurd hk (Nat.not_lt_zero k))
  have hR1 := hR.mono hX
  have hlen := insL_len (n := n) hj
  rw [← hlen] at hq hf
  have hK1 := hK.sub (o := o) (qn := qn) (qc := qc) (nr := nr) (cr := cr) hX
  refine m_aload_n C dX8_put_74 rfl 5 rfl ?_
  refine m_get (ref := "PaintLayersLaw$Hand") C hR1.1 rfl i8 1 (by decide) (by decide +kernel) (fun x h => h) (v := .ref qc) rfl dX8_put_75 ?_
  refine m_iload_n C dX8_put_78 rfl 3 rfl ?_
  refine m_aload C dX8_put_79 1 rfl ?_
  refine m_aastA C hR1.2.2.1 hq (vp_in_nI hu (by decide)) dX8_put_81 ?_
  rw [nI_clamp (show u < 2 ^ 31 by omega)]
  have hR2 := hR1.setc (p := u) hq hf (hX.kp hq0 hR.2.2.2.1)
  have hK2 := (hK1.up (a := qc) (e := jAA D 40 (va_up cr u (some q))) (Or.inr (Or.inr (Or.inl rfl)))).crN (p := u) hq0
  revert hR2 hK2
  generalize m_up M1 qc (jAA D 40 (va_up cr u (some q))) = M2
  intro hR2 hK2
  refine m_aload_n C dX8_put_82 rfl 5 rfl ?_
  refine m_get (ref := "PaintLayersLaw$Hand") C hR2.1 rfl i8 0 (by decide) (by decide +kernel) (fun x h => h) (v := .ref qn) rfl dX8_put_83 ?_
  refine m_iload_n C dX8_put_86 rfl 4 rfl ?_
  refine m_aaldA C hR2.2.1 (vp_in_nI hn (by decide)) dX8_put_87 ?_
  rw [nI_clamp (show n < 2 ^ 31 by omega), ha]
  refine m_iconst (v := 1) C dX8_put_88 (by decide) ?_
  refine m_iload_n C dX8_put_89 rfl 3 rfl ?_
  refine m_iast C (hR2.nrow hn ha) (by unfold vp_in; decide) dX8_put_90 ?_
  have hR3 := hR2.setn hn ha (upd (B n) 1 (nI u))
  have hK3 := hK2.up (a := a) (e := jI D 18 (upd (B n) 1 (nI u))) (Or.inr (Or.inr (Or.inr ⟨n, hn, ha⟩)))
  exact m_vret C (Nat.le_of_ble_eq_true rfl) (by omega) dX8_put_91 (⟨_, hR3, hK3⟩)
set_option maxHeartbeats 4000000 in
set_option maxRecDepth 100000 in
theorem lp_X8_take {p : Program} {l : Launch} {e : Env} {s : State} {m : MethodId} {args : Array Value} {below : List Frame} {meth : Method} {c : Code} {Q : State → Prop} {D : mD} {A : Nat → Prop} {o qn qc qp : Nat} {nr cr : Nat → Option Nat} {c9 : Nat} {g : Int32} {B : Nat → Nat → Int32} {K : Nat → List Nat} {M0 : Mm} (hR : hW D o qn qc qp nr cr c9 g B K M0) {n u j : Nat} (hn : n < 40) (hu : u < 40) (hl : (K u).length ≤ 40) (hj : j < (K u).length) {q : Nat} (hq0 : M0 q = none) (C : mC p m meth c cX8_take 6 s args wsX8_take yX8_take.cls D A yX8_take none) (i8 : ∀ w ∈ wsX80, w ∈ wsX8_take) (kx : ∀ (M : Mm) (f : Nat → Int32), mS M0 M → M q = some (jI D ((K u).length - 1) f) → (∀ k, k < (K u).length - 1 → f k = nI ((outL (K u) j).getD k 0)) → mV p l e ({ frames := 1, cells := 1, slots := 40, locals := 60 } : Room) s m args below meth c 6 D A Q M 1 ((K u).length - 1) [(5, .int (nI ((K u).length - 1))), (4, .ref q), (3, .int (nI j)), (2, .int (nI u)), (1, .int (nI n)), (0, .ref o)] [] 72) : ∀ (N : Nat) (i : Nat) (M : Mm) (f : Nat → Int32), (K u).length - 1 - i = N → (i ≤ (K u).length - 1) → (mS M0 M) → (M q = some (jI D ((K u).length - 1) f)) → (∀ k, k < i → f k = nI ((outL (K u) j).getD k 0)) → mV p l e ({ frames := 1, cells := 1, slots := 40, locals := 60 } : Room) s m args below meth c 6 D A Q M 1 ((K u).length - 1) [(5, .int (nI i)), (4, .ref q), (3, .int (nI j)), (2, .int (nI u)), (1, .int (nI n)), (0, .ref o)] [] 31 := by
  intro N
  induction N using Nat.strongRecOn with
  | _ N ih =>
    intro i M f hN hi hX hq hf
    obtain ⟨b, f0, hb, hbM, hf0⟩ := hR.crow hu
    have hlen : ((K u).length - 1) = (outL (K u) j).length := (outL_len9 hj).symm
    refine m_iload C dX8_take_31 0 rfl ?_
    refine m_aload C dX8_take_33 1 rfl ?_
    refine m_alen C hq 0 rfl (v := nI ((K u).length - 1)) rfl dX8_take_35 ?_
    refine m_icmp_ge (tgt := 72) C dX8_take_36 (by decide) (fun h_1 => ?_) (fun h_1 => ?_)
    · have hij : i = (K u).length - 1 := by
        have := (nI_leI (a := (K u).length - 1) (b := i) (by omega) (by omega)).mp h_1
        omega
      subst hij
      exact kx M f hX hq hf
    · have hij : i < (K u).length - 1 := by
        rcases Nat.lt_or_ge i ((K u).length - 1) with z | z
        · exact z
        · exact absurd (nI_le (a := (K u).length - 1) (b := i) z (by omega)) h_1
      refine m_aload C dX8_take_39 1 rfl ?_
      refine m_iload C dX8_take_41 0 rfl ?_
      refine m_aload_n C dX8_take_43 rfl 5 rfl ?_
      refine m_get (ref := "PaintLayersLaw$Hand") C (hR.mono hX).1 rfl i8 1 (by decide) (by decide +kernel) (fun x h => h) (v := .ref qc) rfl dX8_take_44 ?_
      refine m_iload_n C dX8_take_47 rfl 3 rfl ?_
      refine m_aaldA C (hR.mono hX).2.2.1 (vp_in_nI hu (by decide)) dX8_take_48 ?_
      rw [nI_clamp (show u < 2 ^ 31 by omega), hb]
      refine m_iload C dX8_take_49 0 rfl ?_
      refine m_iload_n C dX8_take_51 rfl 2 rfl ?_
      refine m_icmp_ge (tgt := 60) C dX8_take_52 (by decide) (fun h_2 => ?_) (fun h_2 => ?_)
      · have hge : j ≤ i := (nI_leI (by omega) (by omega)).mp h_2
        refine m_iload C dX8_take_60 0 rfl ?_
        refine m_iconst (v := 1) C dX8_take_62 (by decide) ?_
        refine m_iadd C dX8_take_63 ?_
        refine m_i (y := nI (i + 1)) (nI_1 ..) ?_
        refine m_iald C (hX _ _ hbM) (vp_in_nI (show i + 1 < (K u).length by omega) (by omega)) dX8_take_64 ?_
        rw [nI_clamp (show (i + 1) < 2 ^ 31 by omega)]
        refine m_iast C hq (vp_in_nI hij (by omega)) dX8_take_65 ?_
        rw [nI_clamp (show i < 2 ^ 31 by omega)]
        obtain ⟨x_3, ex_3⟩ : ∃ z : Int32, z = nI i + 1 := ⟨_, rfl⟩
        refine m_iinc (q := 0) (v := x_3) (L' := [(5, .int x_3), (4, .ref q), (3, .int (nI j)), (2, .int (nI u)), (1, .int (nI n)), (0, .ref o)]) C dX8_take_66 rfl (by rw [ex_3]; rfl) (by decide) rfl ?_
        refine m_goto (tgt := 31) C dX8_take_69 (by decide) ?_
        rw [nI_1] at ex_3
        subst ex_3
        refine m_sub (L' := [(5, .int (nI (i + 1))), (4, .ref q), (3, .int (nI j)), (2, .int (nI u)), (1, .int (nI n)), (0, .ref o)]) [0, 1, 2, 3, 4, 5] rfl ?_
        exact ih (((K u).length - 1) - (i + 1)) (by omega) (i + 1) _ _ rfl (by omega) (hX.new hq0) m_up_s (row_step hf (by rw [outL_ge hge hj, hf0 (i + 1) (by omega)]))
      · have hlt : i < j := by
          rcases Nat.lt_or_ge i j with z | z
          · exact z
          · exact absurd (nI_le (a := j) (b := i) z (by omega)) h_2
        refine m_iload C dX8_take_55 0 rfl ?_
        refine m_goto (tgt := 64) C dX8_take_57 (by decide) ?_
        refine m_iald C (hX _ _ hbM) (vp_in_nI (show i < (K u).length by omega) (by omega)) dX8_take_64 ?_
        rw [nI_clamp (show i < 2 ^ 31 by omega)]
        refine m_iast C hq (vp_in_nI hij (by omega)) dX8_take_65 ?_
        rw [nI_clamp (show i < 2 ^ 31 by omega)]
        obtain ⟨x_4, ex_4⟩ : ∃ z : Int32, z = nI i + 1 := ⟨_, rfl⟩
        refine m_iinc (q := 0) (v := x_4) (L' := [(5, .int x_4), (4, .ref q), (3, .int (nI j)), (2, .int (nI u)), (1, .int (nI n)), (0, .ref o)]) C dX8_take_66 rfl (by rw [ex_4]; rfl) (by decide) rfl ?_
        refine m_goto (tgt := 31) C dX8_take_69 (by decide) ?_
        rw [nI_1] at ex_4
        subst ex_4
        refine m_sub (L' := [(5, .int (nI (i + 1))), (4, .ref q), (3, .int (nI j)), (2, .int (nI u)), (1, .int (nI n)), (0, .ref o)]) [0, 1, 2, 3, 4, 5] rfl ?_
        exact ih (((K u).length - 1) - (i + 1)) (by omega) (i + 1) _ _ rfl (by omega) (hX.new hq0) m_up_s (row_step hf (by rw [outL_lt hlt hj, hf0 i (by omega)]))
set_option maxHeartbeats 4000000 in
set_option maxRecDepth 100000 in
theorem c_X8_take (D : mD) (A : Nat → Prop) (l : Launch) {o qn qc qp : Nat} {nr cr : Nat → Option Nat} {c9 : Nat} {g : Int32} {B : Nat → Nat → Int32} {K : Nat → List Nat} {M : Mm} (hR : hW D o qn qc qp nr cr c9 g B K M) {n u j : Nat} (hn : n < 40) (hu : u < 40) {a : Nat} (ha : nr n = some a) (h1 : B n 1 = nI u) (hl : (K u).length ≤ 40) (h40 : ∀ x ∈ K u, x < 40) (hj : j < (K u).length) (h3 : (K u).getD j 0 = n) (h4 : ∀ i, i < j → (K u).getD i 0 ≠ n) : mMv D A l yX8_take wsX8_take ({ frames := 1, cells := 1, slots := 40, locals := 60 } : Room) [.ref o, .int (nI n)] M (fun M' => ∃ cr', hW D o qn qc qp nr cr' c9 g B (upA K u (outL (K u) j)) M' ∧ hK o qn qc nr nr cr cr' M M') 1 40 := by
  refine m_start (cc := cX8_take) (maxL := 6) (ret := none) (by decide) rfl (Nat.le_of_ble_eq_true rfl) ?_
  intro p e s m args below meth c C
  have i8 : ∀ w ∈ wsX80, w ∈ wsX8_take := by decide +kernel
  refine m_sub (L' := [(0, .ref o), (1, .int (nI n))]) [0, 1] rfl ?_
  obtain ⟨b, f0, hb, hbM, hf0⟩ := hR.crow hu
  refine m_aload_n C dX8_take_0 rfl 0 rfl ?_
  refine m_get (ref := "PaintLayersLaw$Hand") C hR.1 rfl i8 0 (by decide) (by decide +kernel) (fun x h => h) (v := .ref qn) rfl dX8_take_1 ?_
  refine m_iload_n C dX8_take_4 rfl 1 rfl ?_
  refine m_aaldA C hR.2.1 (vp_in_nI hn (by decide)) dX8_take_5 ?_
  rw [nI_clamp (show n < 2 ^ 31 by omega), ha]
  refine m_iconst (v := 1) C dX8_take_6 (by decide) ?_
  refine m_iald C (hR.nrow hn ha) (by unfold vp_in; decide) dX8_take_7 ?_
  refine m_i (y := B n 1) (rfl) ?_
  refine m_i (y := nI u) (h1) ?_
  refine m_istore_n (L' := [(2, .int (nI u)), (0, .ref o), (1, .int (nI n))]) C dX8_take_8 rfl (by decide) rfl ?_
  refine m_aload_n C dX8_take_9 rfl 1 rfl ?_
  refine m_iload_n C dX8_take_10 rfl 2 rfl ?_
  refine m_callVFi (As := [.int (nI n)]) (st := []) C hR.1 rfl (c_X8_place D A l hR hn hu ha h1 hl h40 hj h3 h4) (cwV 1 C.1.2.2.2.2 gX8_take_X8_place rfl rfl rfl (by decide +kernel) ⟨Nat.le_of_ble_eq_true rfl, Nat.le_of_ble_eq_true rfl⟩) rfl rfl (Nat.le_of_ble_eq_true rfl) dX8_take_11 ⟨Nat.le_of_ble_eq_true rfl, Nat.le_of_ble_eq_true rfl⟩ ?_
  refine m_istore_n (L' := [(3, .int (nI j)), (2, .int (nI u)), (0, .ref o), (1, .int (nI n))]) C dX8_take_14 rfl (by decide) rfl ?_
  refine m_aload_n C dX8_take_15 rfl 2 rfl ?_
  refine m_get (ref := "PaintLayersLaw$Hand") C hR.1 rfl i8 1 (by decide) (by decide +kernel) (fun x h => h) (v := .ref qc) rfl dX8_take_16 ?_
  refine m_iload_n C dX8_take_19 rfl 1 rfl ?_
  refine m_aaldA C hR.2.2.1 (vp_in_nI hu (by decide)) dX8_take_20 ?_
  rw [nI_clamp (show u < 2 ^ 31 by omega), hb]
  refine m_alen C hbM 0 rfl (v := nI (K u).length) rfl dX8_take_21 ?_
  refine m_iconst (v := 1) C dX8_take_22 (by decide) ?_
  refine m_isub C dX8_take_23 ?_
  refine m_i (y := nI ((K u).length - 1)) ((nI_sub1 (by omega)).symm) ?_
  refine m_newI C (by decide +kernel) (N := (K u).length - 1) (rfl) (by omega) (by decide) (by show 0 + ((K u).length - 1) ≤ 40; omega) dX8_take_24 (fun q hq0 => ?_)
  refine m_astore (L' := [(4, .ref q), (3, .int (nI j)), (2, .int (nI u)), (0, .ref o), (1, .int (nI n))]) C dX8_take_26 (by decide) rfl ?_
  refine m_iconst (v := 0) C dX8_take_28 (by decide) ?_
  refine m_istore (L' := [(5, .int 0), (4, .ref q), (3, .int (nI j)), (2, .int (nI u)), (0, .ref o), (1, .int (nI n))]) C dX8_take_29 (by decide) rfl ?_
  refine m_sub (L' := [(5, .int (nI 0)), (4, .ref q), (3, .int (nI j)), (2, .int (nI u)), (1, .int (nI n)), (0, .ref o)]) [0, 1, 2, 3, 5, 4] rfl ?_
  refine mV_kn (k := 1) (n := (K u).length - 1) rfl (by omega) ?_
  refine lp_X8_take hR hn hu hl hj hq0 C i8 (fun M1 f hX hq hf => ?_) _ 0 _ _ rfl (Nat.zero_le _) (mS.rf.new hq0) m_up_s (fun k hk => absurd hk (Nat.not_lt_zero k))
  have hR1 := hR.mono hX
  have hlen := outL_len9 hj
  rw [← hlen] at hq hf
  have hK1 := hK.sub (o := o) (qn := qn) (qc := qc) (nr := nr) (cr := cr) hX
  refine m_aload_n C dX8_take_72 rfl 5 rfl ?_
  refine m_get (ref := "PaintLayersLaw$Hand") C hR1.1 rfl i8 1 (by decide) (by decide +kernel) (fun x h => h) (v := .ref qc) rfl dX8_take_73 ?_
  refine m_iload_n C dX8_take_76 rfl 3 rfl ?_
  refine m_aload C dX8_take_77 1 rfl ?_
  refine m_aastA C hR1.2.2.1 hq (vp_in_nI hu (by decide)) dX8_take_79 ?_
  rw [nI_clamp (show u < 2 ^ 31 by omega)]
  have hR2 := hR1.setc (p := u) hq hf (hX.kp hq0 hR.2.2.2.1)
  have hK2 := (hK1.up (a := qc) (e := jAA D 40 (va_up cr u (some q))) (Or.inr (Or.inr (Or.inl rfl)))).crN (p := u) hq0
  exact m_vret C (Nat.le_of_ble_eq_true rfl) (by omega) dX8_take_80 (⟨_, hR2, hK2⟩)
