/-! ===== the library: filling an array of ints ===== -/
def q_flF (f : Nat → Int32) (v : Int32) (i : Nat) : Nat → Int32 := fun k => if k < i then v else f k
theorem q_flF_s (f : Nat → Int32) (v : Int32) (i : Nat) : upd (q_flF f v i) i v = q_flF f v (i + 1) := by
  funext k
  unfold upd q_flF
  by_cases z : k = i
  · rw [if_pos z, if_pos (by omega)]
  · rw [if_neg z]
    by_cases y : k < i
    · rw [if_pos y, if_pos (by omega)]
    · rw [if_neg y, if_neg (by omega)]
theorem q_flF_0 (f : Nat → Int32) (v : Int32) : q_flF f v 0 = f := by
  funext k
  exact if_neg (Nat.not_lt_zero k)
set_option maxHeartbeats 4000000 in
set_option maxRecDepth 100000 in
theorem lp_J7_fill {p : Program} {l : Launch} {e : Env} {s : State} {m : MethodId} {args : Array Value} {below : List Frame} {meth : Method} {c : Code} {Q : State → Prop} {D : mD} {A : Nat → Prop} {b w9 : Nat} {v : Int32} {f : Nat → Int32} {M0 : Mm} (hN : w9 < 2 ^ 31) (C : mC p m meth c cJ7_fill_53178 4 s args wsJ7_fill_53178 yJ7_fill_53178.cls D A yJ7_fill_53178 none) (kx : ∀ M : Mm, M = m_up M0 b (jI D w9 (q_flF f v w9)) → mV p l e ({ frames := 0, cells := 0, slots := 0, locals := 0 } : Room) s m args below meth c 4 D A Q M 0 0 [(0, .ref b)] [] 20) : ∀ (N : Nat) (i9 : Nat) (M : Mm), w9 - i9 = N → (i9 ≤ w9) → (M = m_up M0 b (jI D w9 (q_flF f v i9))) → mV p l e ({ frames := 0, cells := 0, slots := 0, locals := 0 } : Room) s m args below meth c 4 D A Q M 0 0 [(2, .int (nI i9)), (3, .int (nI w9)), (0, .ref b), (1, .int v)] [] 5 := by
  intro N
  induction N using Nat.strongRecOn with
  | _ N ih =>
    intro i9 M hN hk hM
    refine m_iload_n C dJ7_fill_53178_5 rfl 0 rfl ?_
    refine m_iload_n C dJ7_fill_53178_6 rfl 1 rfl ?_
    refine m_icmp_ge (tgt := 20) C dJ7_fill_53178_7 (by decide) (fun h_1 => ?_) (fun h_1 => ?_)
    · refine m_sub (L' := [(0, .ref b)]) [2] rfl ?_
      have hit : i9 = w9 := by
        have := (nI_leI (a := w9) (b := i9) (by omega) (by omega)).mp h_1
        omega
      subst hit
      exact kx M hM
    · have hkm : i9 < w9 := by
        rcases Nat.lt_or_ge i9 w9 with z | z
        · exact z
        · exact absurd (nI_le (a := w9) (b := i9) z (by omega)) h_1
      have hb : M b = some (jI D w9 (q_flF f v i9)) := by rw [hM]; exact m_up_s
      refine m_aload_n C dJ7_fill_53178_10 rfl 2 rfl ?_
      refine m_iload_n C dJ7_fill_53178_11 rfl 0 rfl ?_
      refine m_iload_n C dJ7_fill_53178_12 rfl 3 rfl ?_
      refine m_iast C hb (vp_in_nI hkm (by omega)) dJ7_fill_53178_13 ?_
      rw [nI_clamp (show i9 < 2 ^ 31 by omega), q_flF_s, hM, m_up_up]
      clear hb
      obtain ⟨x_2, ex_2⟩ : ∃ z : Int32, z = nI i9 + 1 := ⟨_, rfl⟩
      refine m_iinc (q := 0) (v := x_2) (L' := [(2, .int x_2), (3, .int (nI w9)), (0, .ref b), (1, .int v)]) C dJ7_fill_53178_14 rfl (by rw [ex_2]; rfl) (by decide) rfl ?_
      refine m_goto (tgt := 5) C dJ7_fill_53178_17 (by decide) ?_
      rw [nI_1] at ex_2
      subst ex_2
      refine m_sub (L' := [(2, .int (nI (i9 + 1))), (3, .int (nI w9)), (0, .ref b), (1, .int v)]) [0, 1, 2, 3] rfl ?_
      exact ih (w9 - (i9 + 1)) (by omega) (i9 + 1) _ rfl (by omega) rfl
set_option maxHeartbeats 4000000 in
set_option maxRecDepth 100000 in
theorem c_J7_fill_53178 (D : mD) (A : Nat → Prop) (l : Launch) {b w9 : Nat} {v : Int32} {f : Nat → Int32} {M : Mm} (h_b : M b = some (jI D w9 f)) (hN : w9 < 2 ^ 31) : mMv D A l yJ7_fill_53178 wsJ7_fill_53178 ({ frames := 0, cells := 0, slots := 0, locals := 0 } : Room) [.ref b, .int v] M (fun M' => M' = m_up M b (jI D w9 (q_flF f v w9))) 0 0 := by
  refine m_start (cc := cJ7_fill_53178) (maxL := 4) (ret := none) (by decide) rfl (Nat.le_of_ble_eq_true rfl) ?_
  intro p e s m args below meth c C
  refine m_sub (L' := [(0, .ref b), (1, .int v)]) [0, 1] rfl ?_
  refine m_iconst (v := 0) C dJ7_fill_53178_0 (by decide) ?_
  refine m_istore_n (L' := [(2, .int 0), (0, .ref b), (1, .int v)]) C dJ7_fill_53178_1 rfl (by decide) rfl ?_
  refine m_aload_n C dJ7_fill_53178_2 rfl 1 rfl ?_
  refine m_alen C h_b 0 rfl (v := nI w9) rfl dJ7_fill_53178_3 ?_
  refine m_istore_n (L' := [(3, .int (nI w9)), (2, .int 0), (0, .ref b), (1, .int v)]) C dJ7_fill_53178_4 rfl (by decide) rfl ?_
  refine m_sub (L' := [(2, .int 0), (3, .int (nI w9)), (0, .ref b), (1, .int v)]) [1, 0, 2, 3] rfl ?_
  refine lp_J7_fill (v := v) (f := f) (M0 := M) hN C (fun M9 hM9 => ?_) _ 0 M rfl (Nat.zero_le _) (by rw [q_flF_0, m_up_eq h_b])
  exact m_vret C (Nat.le_of_ble_eq_true rfl) (Nat.le_of_ble_eq_true rfl) dJ7_fill_53178_20 (hM9)

