/-! ===== the class: what settle gives every node; its world with fewer nodes ===== -/
/-- what a node has from above, once all is settled -/
def q_fv (ar : rA) (n : Nat) : Nat → Int32
  | 0 => q_off ar 8 (chn ar n) 0
  | 1 => q_off ar 9 (chn ar n) 0
  | 2 => q_fn ar n
  | 3 => q_sn ar n
  | 4 => if ¬ ar 12 n = 0 then 1 else if q_hid ar (chn ar n).tail = true then 2 else 0
  | _ + 5 => 0
def FV (ar : rA) (cm : Nat) (fi : Nat → Nat → Int32) : Prop := ∀ n, cP ar cm n → ∀ i, i < 5 → fi i n = q_fv ar n i
theorem q_off_a (ar : rA) (f : Nat) : ∀ (l : List Nat) (x : Int32), q_off ar f l x = q_off ar f l 0 + x
  | [], x => (Int32.zero_add x).symm
  | a :: t, x => by
    show q_off ar f t (x + ar f a) = q_off ar f t (0 + ar f a) + x
    rw [q_off_a ar f t (x + ar f a), q_off_a ar f t (0 + ar f a), Int32.zero_add, Int32.add_assoc, Int32.add_comm x]
theorem q_off_c (ar : rA) (f a : Nat) (l : List Nat) : q_off ar f (a :: l) 0 = q_off ar f l 0 + ar f a := by
  show q_off ar f l (0 + ar f a) = _
  rw [q_off_a, Int32.zero_add]
theorem q_fv_inh {ar : rA} {cm n : Nat} {fi : Nat → Nat → Int32} (hw : wf ar cm) (hn : cP ar cm n) (hp : n ≠ 0 → ∀ i, i < 5 → fi i (par9 ar n) = q_fv ar (par9 ar n) i) : ∀ i, i < 5 → q_inh ar fi n i = q_fv ar n i := by
  by_cases h0 : n = 0
  · subst h0
    have e := wf_ch0 hw
    intro i hi
    match i, hi with
    | 0, _ =>
      show (if 0 = 0 then ar 8 0 else fi 0 (par9 ar 0) + ar 8 0) = q_off ar 8 (chn ar 0) 0
      rw [if_pos rfl, e, q_off_c]
      exact (Int32.zero_add _).symm
    | 1, _ =>
      show (if 0 = 0 then ar 9 0 else fi 1 (par9 ar 0) + ar 9 0) = q_off ar 9 (chn ar 0) 0
      rw [if_pos rfl, e, q_off_c]
      exact (Int32.zero_add _).symm
    | 2, _ =>
      show (if ar 10 0 = -1 then (if 0 = 0 then 255 else fi 2 (par9 ar 0)) else ar 10 0) = q_fill ar (chn ar 0)
      rw [if_pos rfl, e]
      rfl
    | 3, _ =>
      show (if 0 = 0 then 8 else fi 3 (par9 ar 0)) * ar 11 0 / 8 = q_str ar (chn ar 0)
      rw [if_pos rfl, e]
      rfl
    | 4, _ =>
      show (if ar 12 0 = 0 then (if 0 = 0 then 0 else if fi 4 (par9 ar 0) = 0 then 0 else 2) else 1) = (if ¬ ar 12 0 = 0 then 1 else if q_hid ar (chn ar 0).tail = true then 2 else 0)
      rw [if_pos rfl, e]
      by_cases h : ar 12 0 = 0
      · rw [if_pos h, if_neg (fun z => z h)]
        rfl
      · rw [if_neg h, if_pos h]
    | k + 5, h => omega
  · obtain ⟨c1, c2, c3⟩ := wf_chp hw hn.1 hn.2 h0
    have hp := hp h0
    intro i hi
    match i, hi with
    | 0, _ =>
      show (if n = 0 then ar 8 n else fi 0 (par9 ar n) + ar 8 n) = q_off ar 8 (chn ar n) 0
      rw [if_neg h0, c1, q_off_c, hp 0 (by decide)]
      rfl
    | 1, _ =>
      show (if n = 0 then ar 9 n else fi 1 (par9 ar n) + ar 9 n) = q_off ar 9 (chn ar n) 0
      rw [if_neg h0, c1, q_off_c, hp 1 (by decide)]
      rfl
    | 2, _ =>
      show (if ar 10 n = -1 then (if n = 0 then 255 else fi 2 (par9 ar n)) else ar 10 n) = q_fill ar (chn ar n)
      rw [if_neg h0, c1, hp 2 (by decide)]
      rfl
    | 3, _ =>
      show (if n = 0 then 8 else fi 3 (par9 ar n)) * ar 11 n / 8 = q_str ar (chn ar n)
      rw [if_neg h0, c1, hp 3 (by decide)]
      rfl
    | 4, _ =>
      show (if ar 12 n = 0 then (if n = 0 then 0 else if fi 4 (par9 ar n) = 0 then 0 else 2) else 1) = (if ¬ ar 12 n = 0 then 1 else if q_hid ar (chn ar n).tail = true then 2 else 0)
      rw [if_neg h0, c1, hp 4 (by decide), List.tail_cons]
      by_cases h : ar 12 n = 0
      · rw [if_pos h, if_neg (c := ¬ ar 12 n = 0) (fun z => z h)]
        obtain ⟨t, t1, -⟩ := wf_at hw c2 c3
        show (if (if ¬ ar 12 (par9 ar n) = 0 then (1 : Int32) else if q_hid ar (chn ar (par9 ar n)).tail = true then 2 else 0) = 0 then (0 : Int32) else 2) = _
        rw [t1, List.tail_cons]
        show _ = if (decide (¬ ar 12 (par9 ar n) = 0) || q_hid ar t) = true then 2 else 0
        by_cases h1 : ar 12 (par9 ar n) = 0
        · by_cases h2 : q_hid ar t = true
          · simp [h1, h2]
          · simp [h1, h2]
        · simp [h1]
      · rw [if_neg h, if_pos h]
    | k + 5, h => omega
section CL
variable {D : mD} {Z : Nat → Nat} {P : Nat → Prop} {fs : Nat → List Value} {ls : Nat → List Nat} {na : Nat → Option Nat} {cv rw : Nat → Int32} {mf : List Value} {F M : Mm}
theorem cW.cong (h : cW D Z P fs ls na cv rw mf F M) {fs' : Nat → List Value} {ls' : Nat → List Nat} (hf : ∀ n, P n → fs' n = fs n) (hl : ∀ i, cQ P i → ls' i = ls i) : cW D Z P fs' ls' na cv rw mf F M := by
  obtain ⟨bf, cp, el, mc, k, k5, k6, k7, k8⟩ := h
  exact ⟨bf, cp, el, mc, k, fun n hn => by rw [hf n hn]; exact k5 n hn, fun i hi => by rw [hl i hi]; exact k6 i hi, k7, k8⟩
theorem cW.less (h : cW D Z P fs ls na cv rw mf F M) {P' : Nat → Prop} (hP : ∀ n, P' n → P n) (hl : ∀ i, cQ P' i → ∀ n ∈ ls i, P' n) : cW D Z P' fs ls na cv rw mf F M := by
  obtain ⟨bf, cp, el, mc, k, k5, k6, ⟨k7, k7a, k7b, k7c⟩, k8⟩ := h
  have hQ : ∀ i, cQ P' i → cQ P i := fun i hi => hi.elim Or.inl (fun z => Or.inr (hP i z))
  exact ⟨bf, cp, el, mc, k, fun n hn => k5 n (hP n hn), fun i hi => ⟨(k6 i (hQ i hi)).1, hl i hi⟩, ⟨fun n m hn hm => k7 n m (hP n hn) (hP m hm), fun i j hi hj => k7a i j (hQ i hi) (hQ j hj), fun i j hi hj => k7b i j (hQ i hi) (hQ j hj), fun i hi => k7c i (hQ i hi)⟩, fun a x hx => by
    obtain ⟨z1, z2, z3, z4⟩ := k8 a x hx
    exact ⟨z1, z2, fun n hn => z3 n (hP n hn), fun i hi => z4 i (hQ i hi)⟩⟩
/-- the state before it is settled: the lists and fields of the nodes that count are right -/
def cR (D : mD) (Z : Nat → Nat) (F : Mm) (cm : Nat) (g : Int32) (ar : rA) (nl : Nat → Nat → Int64) (rw : Nat → Int32) (M : Mm) : Prop :=
  ∃ (P : Nat → Prop) (fs : Nat → List Value) (ls : Nat → List Nat) (fi : Nat → Nat → Int32), cW D Z P fs ls (naF Z cm ar) (ar 16) rw (mfF Z cm g) F M ∧ (∀ n, cP ar cm n → P n ∧ fs n = nF Z ar fi nl n ∧ ls n = kids ar n) ∧ ∀ n, cP ar cm n → sFx Z ar n F
theorem cS.toR {cm : Nat} {g : Int32} {ar : rA} {fi : Nat → Nat → Int32} {nl : Nat → Nat → Int64} {L : List Nat} (h : cS D Z F cm g ar fi nl L rw M) (hc : cm ≤ 40) : cR D Z F cm g ar nl rw M :=
  ⟨cP ar cm, nF Z ar fi nl, lsF ar L, fi, h.1, fun n hn => ⟨hn, rfl, if_neg (by have := hn.1; omega)⟩, h.2⟩
theorem cR.me {cm : Nat} {g : Int32} {ar : rA} {nl : Nat → Nat → Int64} (h : cR D Z F cm g ar nl rw M) : M (Z 0) = some (.inr (9, mfF Z cm g)) := by
  obtain ⟨P, fs, ls, fi, hW, -⟩ := h
  exact hW.me
theorem mem_kids {ar : rA} {n x : Nat} : x ∈ kids ar n ↔ ∃ k, k < mny ar n ∧ kid ar n k = x := by
  unfold kids
  simp only [List.mem_map, List.mem_range]
theorem cR.clr {cm : Nat} {g : Int32} {ar : rA} {nl : Nat → Nat → Int64} (h : cR D Z F cm g ar nl rw M) (hc : cm ≤ 40) (hK : ∀ n, cP ar cm n → ∀ k, k < mny ar n → cP ar cm (kid ar n k)) :
    ∃ (n b cap : Nat) (f : Nat → Option Nat) (mc : Int32), M (Z 240) = some (jLs mc b n) ∧ jB D b cap f M ∧ n ≤ cap ∧ n ≤ 60 ∧
      ∀ M' : Mm, (∃ mc9 : Int32, (cap = 0 → mX [Z 240] M M') ∧ mX [b, Z 240] M M' ∧ M' (Z 240) = some (jLs mc9 b 0) ∧ ∃ f, jB D b cap f M') → ∃ fi : Nat → Nat → Int32, cS D Z F cm g ar fi nl [] rw M' := by
  obtain ⟨P, fs, ls, fi, hW, hC, hX⟩ := h
  obtain ⟨b, cap, f, mc, ⟨h1, h2, h3, h4⟩, h5, h6⟩ := hW.lst (i := 40) (Or.inl rfl)
  refine ⟨(ls 40).length, b, cap, f, mc, h1, h2, h3, Nat.le_trans h3 h2.cap, fun M' hM => ?_⟩
  obtain ⟨mc9, z0, z1, z2, f', z3⟩ := hM
  have hc9 := h6 b cap f' mc9 [] M' (Or.inl ⟨rfl, by
    rcases Nat.eq_zero_or_pos cap with z | z
    · exact Or.inr ⟨rfl, z0 z⟩
    · exact Or.inl z⟩) z1 ⟨z2, z3, Nat.zero_le _, fun k hk => absurd hk (Nat.not_lt_zero k)⟩ (fun n hn => by cases hn)
  refine ⟨fi, (hc9.less (P' := cP ar cm) (fun n hn => (hC n hn).1) (fun i hi n hn => ?_)).cong (fun n hn => (hC n hn).2.1.symm) (fun i hi => ?_), hX⟩
  · rcases hi with z | z
    · rw [z, upA_s] at hn
      cases hn
    · have h40 : i ≠ 40 := by have := z.1; omega
      rw [upA_n h40, (hC i z).2.2] at hn
      obtain ⟨k, hk, rfl⟩ := mem_kids.mp hn
      exact hK i z k hk
  · rcases hi with z | z
    · rw [z, upA_s]
      exact if_pos rfl
    · have h40 : i ≠ 40 := by have := z.1; omega
      rw [upA_n h40, (hC i z).2.2]
      exact if_neg h40
end CL
theorem jA.imp {D : mD} {a b cap n : Nat} {P P' : (Nat → Option Nat) → Prop} {M M' : Mm} (h : jA D a b cap n P M M') (hP : ∀ g, P g → P' g) : jA D a b cap n P' M M' := by
  obtain ⟨q, cap', g, mc, k1, k2, k3, k4, k5, k6, k7, k8⟩ := h
  exact ⟨q, cap', g, mc, k1, k2, k3, k4, k5, k6, k7, hP g k8⟩
theorem od_fm {ar : rA} {cm : Nat} (hw : wf ar cm) : ∀ t : List Nat, (∀ n ∈ t, cP ar cm n) → t.length ≤ (t.flatMap (pre9 ar)).length
  | [], _ => Nat.le_refl _
  | a :: t, h => by
    have ha := h a List.mem_cons_self
    have ih := od_fm hw t (fun n hn => h n (List.mem_cons_of_mem _ hn))
    rw [List.flatMap_cons, List.length_append, wf_pre hw ha.1 ha.2, List.length_cons, List.length_cons]
    omega
theorem od_len {ar : rA} {cm : Nat} (hw : wf ar cm) {l t : List Nat} (h : l ++ t.flatMap (pre9 ar) = pre9 ar 0) (ht : ∀ n ∈ t, cP ar cm n) : l.length + t.length ≤ 40 := by
  have h1 := wf_pre40 hw (wf_root hw).1 (wf_root hw).2
  have h2 := od_fm hw t ht
  rw [← h, List.length_append] at h1
  omega
theorem od_kids (ar : rA) (n : Nat) : (kids ar n).flatMap (pre9 ar) = pks ar n (mny ar n) := rfl
theorem od_step {ar : rA} {cm : Nat} (hw : wf ar cm) {l t : List Nat} {n : Nat} (hn : cP ar cm n) (h : l ++ (n :: t).flatMap (pre9 ar) = pre9 ar 0) : (l ++ [n]) ++ (kids ar n ++ t).flatMap (pre9 ar) = pre9 ar 0 := by
  rw [← h, List.flatMap_cons, wf_pre hw hn.1 hn.2, List.flatMap_append, od_kids]
  simp
theorem od_new {ar : rA} {cm : Nat} (hw : wf ar cm) {l t : List Nat} {n : Nat} (hn : cP ar cm n) (h : l ++ (n :: t).flatMap (pre9 ar) = pre9 ar 0) : n ∉ l := by
  have h1 := wf_pre_nd hw 0 (wf_root hw).1 (wf_root hw).2
  rw [← h, List.nodup_append] at h1
  intro z
  refine h1.2.2 n z n ?_ rfl
  rw [List.flatMap_cons]
  exact List.mem_append_left _ (wf_pre_hd hw hn.1 hn.2)
theorem od_all {ar : rA} {cm n : Nat} (hw : wf ar cm) (hn : cP ar cm n) : n ∈ pre9 ar 0 := by
  have hr := wf_root hw
  refine wf_ch_pre hw hr.1 hr.2 n hn.1 hn.2 ?_
  refine wf_ind hw (P := fun x => 0 ∈ chn ar x) (wf_self hw hr.1 hr.2) (fun x hx hp h0 ih => ?_) n hn.1 hn.2
  rw [(wf_chp hw hx hp h0).1]
  exact List.mem_cons_of_mem _ ih
theorem od_ins {l ks t : List Nat} {n k : Nat} (hk : k < ks.length) : (l ++ n :: (ks.take k ++ t)).take (l.length + 1 + k) ++ ks.getD k 0 :: (l ++ n :: (ks.take k ++ t)).drop (l.length + 1 + k) = l ++ n :: (ks.take (k + 1) ++ t) := by
  have e : l ++ n :: (ks.take k ++ t) = (l ++ n :: ks.take k) ++ t := by simp
  have hl : (l ++ n :: ks.take k).length = l.length + 1 + k := by
    rw [List.length_append, List.length_cons, List.length_take]
    omega
  rw [e, List.take_left' hl, List.drop_left' hl, take_s hk]
  simp
theorem od_mid {l t : List Nat} {n : Nat} : (l ++ n :: t).getD l.length 0 = n := by
  rw [List.getD_eq_getElem?_getD, List.getElem?_append_right (Nat.le_refl _), Nat.sub_self]
  rfl

