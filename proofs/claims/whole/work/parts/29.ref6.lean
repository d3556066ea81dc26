/-! ===== the reference: its own short arrays; masks, clips, shapes; removing and moving ===== -/
section REF2
variable {p : Program} {l : Launch} {e : Env} {R : Room} {s : State} {m : MethodId} {args : Array Value} {below : List Frame} {meth : Method} {c : Code} {nL : Nat} {D : mD} {A : Nat → Prop} {Q : State → Prop} {M : Mm} {k n : Nat} {L : List (Nat × Value)} {st : List Value} {pc : Nat} {cc : ByteArray} {Ts : List Cond} {own : String} {y0 : MethodName} {ret0 : Option FieldType} {G : Nat → Nat} {o : Nat} {F : Mm} {t cm g u : Int32} {ar : rA}
theorem r_newI (C : mC p m meth c cc nL s args Ts own D A y0 ret0) (hR : rW D G o F t cm g u ar M) (harr : Cond.arrayClass .int ∈ Ts) {x : Int32} (N : Nat) (hx : x = nI N) (hN : N ≤ 60000000) (hk : k + 1 ≤ R.cells) (hn : n + N ≤ R.slots) (d : decode cc pc = .ok (.newarray .int, 2)) (kk : ∀ (q : Nat) (M : Mm), F q = none → rW D G o (m_up F q (.inl (D.2.1 0, N, .inl (fun _ => 0)))) t cm g u ar M → mV p l e R s m args below meth c nL D A Q M (k + 1) (n + N) L (.ref q :: st) (pc + 2)) : mV p l e R s m args below meth c nL D A Q M k n L (.int x :: st) pc := by
  refine m_newI C harr hx hN hk hn d (fun q hq => kk q _ ?_ (hR.fresh _ hq))
  cases hz : F q with
  | none => rfl
  | some y =>
    have := (hR.2.2.2 q y hz).1
    rw [hq] at this
    cases this
theorem r_iastF (C : mC p m meth c cc nL s args Ts own D A y0 ret0) (hR : rW D G o F t cm g u ar M) {a w : Nat} {sh : Nat → Int32} (hF : F a = some (.inl (D.2.1 0, w, .inl sh))) {i x : Int32} (j : Nat) (hj : j < w) (hw : w < 2 ^ 31) (hi : i = nI j) (d : decode cc pc = .ok (.iastore, 1)) (kk : ∀ M : Mm, rW D G o (m_up F a (.inl (D.2.1 0, w, .inl (upd sh j x)))) t cm g u ar M → mV p l e R s m args below meth c nL D A Q M k n L st (pc + 1)) : mV p l e R s m args below meth c nL D A Q M k n L (.int x :: .int i :: .ref a :: st) pc := by
  subst hi
  refine m_iast C (hR.2.2.2 _ _ hF).1 (vp_in_nI hj hw) d (kk _ ?_)
  rw [nI_clamp (by omega)]
  exact hR.own hF _
theorem rW.back {q : Nat} {e : va_E} (h : rW D G o (m_up F q e) t cm g u ar M) (hq : F q = none) : rW D G o F t cm g u ar M := h.drop (fun a x hx => by
  rw [m_up_n]
  · exact hx
  · intro z
    rw [z, hq] at hx
    cases hx)
end REF2
set_option maxHeartbeats 4000000 in
set_option maxRecDepth 100000 in
theorem c_X8_setMask (D : mD) (A : Nat → Prop) (l : Launch) {G : Nat → Nat} {o : Nat} {F : Mm} {t g u : Int32} {cm : Nat} {ar : rA} {od : Nat → Int32} {M : Mm} (hR : rW D G o F t (nI cm) g u (upA ar 17 od) M) (hw : wf ar cm) (hz13 : ∀ n, ar 13 n = 0 ∨ ar 13 n = 1) (v : Int32) (h : Bool) : mMi D A l yX8_setMask wsX8_setMask ({ frames := 2, cells := 0, slots := 0, locals := 60 } : Room) [.ref o, .int v, .int (bI h)] M (fun r M' => rW D G o F (k_setMask cm ar v) (nI cm) g u (upA (if k_setMask cm ar v = 0 then s_setMask ar v h else ar) 17 od) M' ∧ (k_setMask cm ar v = 0 → r = ar 13 (jN v))) 0 0 := by
  have hcm := hw.1
  refine m_start (cc := cX8_setMask) (maxL := 4) (ret := (some .boolean)) (by decide) rfl (Nat.le_of_ble_eq_true rfl) ?_
  intro p e s m args below meth c C
  have i8 : ∀ w ∈ wsX80, w ∈ wsX8_setMask := by decide +kernel
  refine m_sub (L' := [(0, .ref o), (1, .int v), (2, .int (bI h))]) [0, 1, 2] rfl ?_
  refine m_aload_n C dX8_setMask_0 rfl 0 rfl ?_
  refine m_aload_n C dX8_setMask_1 rfl 0 rfl ?_
  refine m_iload_n C dX8_setMask_2 rfl 1 rfl ?_
  refine m_callVFi (As := [.int v]) (st := [.ref o]) C hR.1 rfl (c_X8_isNode D A l hR hw.1 v) (cwV 1 C.1.2.2.2.2 gX8_setMask_X8_isNode rfl rfl rfl (by decide +kernel) ⟨Nat.le_of_ble_eq_true rfl, Nat.le_of_ble_eq_true rfl⟩) rfl rfl (Nat.le_of_ble_eq_true rfl) dX8_setMask_3 ⟨Nat.le_of_ble_eq_true rfl, Nat.le_of_ble_eq_true rfl⟩ ?_
  refine m_if_ne (tgt := 13) C dX8_setMask_6 (by decide) (fun h1 => ?_) (fun h1 => ?_)
  · have h1 := bI_n h1
    obtain ⟨j, hj, hvj, hp⟩ := q_node_J hw.1 h1
    subst hvj
    have hjc : jN (nI j) = j := nI_clamp (by omega)
    refine m_aload_n C dX8_setMask_13 rfl 0 rfl ?_
    refine m_iload_n C dX8_setMask_14 rfl 1 rfl ?_
    refine m_callVFi (As := [.int (nI j)]) (st := [.ref o]) C hR.1 rfl (c_X8_isGroup D A l hR (j := j) (by omega)) (cwV 1 C.1.2.2.2.2 gX8_setMask_X8_isGroup rfl rfl rfl (by decide +kernel) ⟨Nat.le_of_ble_eq_true rfl, Nat.le_of_ble_eq_true rfl⟩) rfl rfl (Nat.le_of_ble_eq_true rfl) dX8_setMask_15 ⟨Nat.le_of_ble_eq_true rfl, Nat.le_of_ble_eq_true rfl⟩ ?_
    refine m_if_ne (tgt := 25) C dX8_setMask_18 (by decide) (fun h_1 => ?_) (fun h_1 => ?_)
    · have h_1 := bI_n h_1
      have h_1 := of_decide_eq_true h_1
      refine m_iconst (v := 0) C dX8_setMask_25 (by decide) ?_
      refine r_putT C hR i8 (by decide +kernel) dX8_setMask_26 (fun M hR => ?_)
      refine m_aload_n C dX8_setMask_29 rfl 0 rfl ?_
      refine r_get C hR i8 0 (by decide) (by decide +kernel) rfl rfl dX8_setMask_30 ?_
      refine m_if_eq (tgt := 38) C dX8_setMask_33 (by decide) (fun h_2 => ?_) (fun h_2 => ?_)
      · refine m_aload_n C dX8_setMask_38 rfl 0 rfl ?_
        refine r_get C hR i8 13 (by decide) (by decide +kernel) rfl rfl dX8_setMask_39 ?_
        refine m_iload_n C dX8_setMask_42 rfl 1 rfl ?_
        refine r_zald C hR 13 (by decide) rfl j (show j < 40 by omega) (rfl) dX8_setMask_43 ?_
        refine m_i (y := ar 13 j) (rfl) ?_
        refine m_istore_n (L' := [(3, .int (ar 13 j)), (0, .ref o), (1, .int (nI j)), (2, .int (bI h))]) C dX8_setMask_44 rfl (by decide) rfl ?_
        refine m_aload_n C dX8_setMask_45 rfl 1 rfl ?_
        refine r_get C hR i8 13 (by decide) (by decide +kernel) rfl rfl dX8_setMask_46 ?_
        refine m_iload_n C dX8_setMask_49 rfl 2 rfl ?_
        refine m_iload_n C dX8_setMask_50 rfl 3 rfl ?_
        refine r_zast C hR 13 (by decide) rfl j (show j < 40 by omega) (rfl) (bI_01 _) dX8_setMask_51 (fun M hR => ?_)
        have hR := r_c17 (f := 13) (v := upd (ar 13) j (bI h)) (by decide) hR
        refine m_iload_n C dX8_setMask_52 rfl 0 rfl ?_
        exact m_zret C (Nat.le_of_ble_eq_true rfl) (Nat.le_of_ble_eq_true rfl) dX8_setMask_53 (hz13 j) (by rw [show k_setMask cm ar (nI j) = 0 by simp [k_setMask, h1, hjc, h_1], if_pos rfl]; exact ⟨by rw [s_setMask, hjc]; exact hR, fun _ => by rw [hjc]⟩)
      · exact absurd h_2 (by decide)
    · have h_1 := bI_z h_1
      have h_1 := of_decide_eq_false h_1
      refine m_iconst (v := 2) C dX8_setMask_21 (by decide) ?_
      refine m_goto (tgt := 26) C dX8_setMask_22 (by decide) ?_
      refine r_putT C hR i8 (by decide +kernel) dX8_setMask_26 (fun M hR => ?_)
      refine m_aload_n C dX8_setMask_29 rfl 0 rfl ?_
      refine r_get C hR i8 0 (by decide) (by decide +kernel) rfl rfl dX8_setMask_30 ?_
      refine m_if_eq (tgt := 38) C dX8_setMask_33 (by decide) (fun h_3 => ?_) (fun h_3 => ?_)
      · exact absurd h_3 (by decide)
      · refine m_iconst (v := 0) C dX8_setMask_36 (by decide) ?_
        exact m_zret C (Nat.le_of_ble_eq_true rfl) (Nat.le_of_ble_eq_true rfl) dX8_setMask_37 (Or.inl rfl) (by rw [show k_setMask cm ar (nI j) = 2 by simp [k_setMask, h1, hjc, h_1], if_neg (by decide)]; exact ⟨hR, fun z => absurd z (by decide)⟩)
  · have h1 := bI_z h1
    refine m_iconst (v := 1) C dX8_setMask_9 (by decide) ?_
    refine m_goto (tgt := 26) C dX8_setMask_10 (by decide) ?_
    refine r_putT C hR i8 (by decide +kernel) dX8_setMask_26 (fun M hR => ?_)
    refine m_aload_n C dX8_setMask_29 rfl 0 rfl ?_
    refine r_get C hR i8 0 (by decide) (by decide +kernel) rfl rfl dX8_setMask_30 ?_
    refine m_if_eq (tgt := 38) C dX8_setMask_33 (by decide) (fun h_4 => ?_) (fun h_4 => ?_)
    · exact absurd h_4 (by decide)
    · refine m_iconst (v := 0) C dX8_setMask_36 (by decide) ?_
      exact m_zret C (Nat.le_of_ble_eq_true rfl) (Nat.le_of_ble_eq_true rfl) dX8_setMask_37 (Or.inl rfl) (by rw [show k_setMask cm ar v = 1 by simp [k_setMask, h1], if_neg (by decide)]; exact ⟨hR, fun z => absurd z (by decide)⟩)
set_option maxHeartbeats 4000000 in
set_option maxRecDepth 100000 in
theorem c_X8_setClip (D : mD) (A : Nat → Prop) (l : Launch) {G : Nat → Nat} {o : Nat} {F : Mm} {t g u : Int32} {cm : Nat} {ar : rA} {od : Nat → Int32} {M : Mm} (hR : rW D G o F t (nI cm) g u (upA ar 17 od) M) (hw : wf ar cm) (v a b w h : Int32) : mMi D A l yX8_setClip wsX8_setClip ({ frames := 2, cells := 1, slots := 4, locals := 60 } : Room) [.ref o, .int v, .int a, .int b, .int w, .int h] M (fun r M' => rW D G o F (k_setClip cm ar v a b w h) (nI cm) g u (upA (if k_setClip cm ar v a b w h = 0 then s_setClip ar v a b w h else ar) 17 od) M' ∧ (k_setClip cm ar v a b w h = 0 → r = (if 0 < ar 14 (4 * jN v + 2) then 1 else 0))) 1 4 := by
  have hcm := hw.1
  refine m_start (cc := cX8_setClip) (maxL := 8) (ret := (some .boolean)) (by decide) rfl (Nat.le_of_ble_eq_true rfl) ?_
  intro p e s m args below meth c C
  have i8 : ∀ w ∈ wsX80, w ∈ wsX8_setClip := by decide +kernel
  refine m_sub (L' := [(0, .ref o), (1, .int v), (2, .int a), (3, .int b), (4, .int w), (5, .int h)]) [0, 1, 2, 3, 4, 5] rfl ?_
  refine m_aload_n C dX8_setClip_0 rfl 0 rfl ?_
  refine m_aload_n C dX8_setClip_1 rfl 0 rfl ?_
  refine m_iload_n C dX8_setClip_2 rfl 1 rfl ?_
  refine m_callVFi (As := [.int v]) (st := [.ref o]) C hR.1 rfl (c_X8_isNode D A l hR hw.1 v) (cwV 1 C.1.2.2.2.2 gX8_setClip_X8_isNode rfl rfl rfl (by decide +kernel) ⟨Nat.le_of_ble_eq_true rfl, Nat.le_of_ble_eq_true rfl⟩) rfl rfl (Nat.le_of_ble_eq_true rfl) dX8_setClip_3 ⟨Nat.le_of_ble_eq_true rfl, Nat.le_of_ble_eq_true rfl⟩ ?_
  refine m_if_ne (tgt := 13) C dX8_setClip_6 (by decide) (fun h1 => ?_) (fun h1 => ?_)
  · have h1 := bI_n h1
    obtain ⟨j, hj, hvj, hp⟩ := q_node_J hw.1 h1
    subst hvj
    have hjc : jN (nI j) = j := nI_clamp (by omega)
    refine m_iload_n C dX8_setClip_13 rfl 2 rfl ?_
    refine m_callSFi (As := [.int a]) (st := [.ref o]) C (c_X8_isFar D A l M a) (va_cwS 1 C.1.2.2.2.2 gX8_setClip_X8_isFar rfl rfl rfl (by decide +kernel) ⟨Nat.le_of_ble_eq_true rfl, Nat.le_of_ble_eq_true rfl⟩) rfl rfl (Nat.le_of_ble_eq_true rfl) dX8_setClip_14 ⟨Nat.le_of_ble_eq_true rfl, Nat.le_of_ble_eq_true rfl⟩ ?_
    refine m_if_ne (tgt := 49) C dX8_setClip_17 (by decide) (fun h_1 => ?_) (fun h_1 => ?_)
    · have h_1 := bI_n h_1
      refine m_iconst (v := 2) C dX8_setClip_49 (by decide) ?_
      refine m_goto (tgt := 54) C dX8_setClip_50 (by decide) ?_
      refine r_putT C hR i8 (by decide +kernel) dX8_setClip_54 (fun M hR => ?_)
      refine m_aload_n C dX8_setClip_57 rfl 0 rfl ?_
      refine r_get C hR i8 0 (by decide) (by decide +kernel) rfl rfl dX8_setClip_58 ?_
      refine m_if_eq (tgt := 66) C dX8_setClip_61 (by decide) (fun h_2 => ?_) (fun h_2 => ?_)
      · exact absurd h_2 (by decide)
      · refine m_iconst (v := 0) C dX8_setClip_64 (by decide) ?_
        exact m_zret C (by decide) (by decide) dX8_setClip_65 (Or.inl rfl) (by rw [show k_setClip cm ar (nI j) a b w h = 2 by simp [k_setClip, h1, hjc, h_1], if_neg (by decide)]; exact ⟨hR, fun z => absurd z (by decide)⟩)
    · have h_1 := bI_z h_1
      refine m_iload_n C dX8_setClip_20 rfl 3 rfl ?_
      refine m_callSFi (As := [.int b]) (st := [.ref o]) C (c_X8_isFar D A l M b) (va_cwS 1 C.1.2.2.2.2 gX8_setClip_X8_isFar rfl rfl rfl (by decide +kernel) ⟨Nat.le_of_ble_eq_true rfl, Nat.le_of_ble_eq_true rfl⟩) rfl rfl (Nat.le_of_ble_eq_true rfl) dX8_setClip_21 ⟨Nat.le_of_ble_eq_true rfl, Nat.le_of_ble_eq_true rfl⟩ ?_
      refine m_if_ne (tgt := 49) C dX8_setClip_24 (by decide) (fun h_3 => ?_) (fun h_3 => ?_)
      · have h_3 := bI_n h_3
        refine m_iconst (v := 2) C dX8_setClip_49 (by decide) ?_
        refine m_goto (tgt := 54) C dX8_setClip_50 (by decide) ?_
        refine r_putT C hR i8 (by decide +kernel) dX8_setClip_54 (fun M hR => ?_)
        refine m_aload_n C dX8_setClip_57 rfl 0 rfl ?_
        refine r_get C hR i8 0 (by decide) (by decide +kernel) rfl rfl dX8_setClip_58 ?_
        refine m_if_eq (tgt := 66) C dX8_setClip_61 (by decide) (fun h_4 => ?_) (fun h_4 => ?_)
        · exact absurd h_4 (by decide)
        · refine m_iconst (v := 0) C dX8_setClip_64 (by decide) ?_
          exact m_zret C (by decide) (by decide) dX8_setClip_65 (Or.inl rfl) (by rw [show k_setClip cm ar (nI j) a b w h = 2 by simp [k_setClip, h1, hjc, h_1, h_3], if_neg (by decide)]; exact ⟨hR, fun z => absurd z (by decide)⟩)
      · have h_3 := bI_z h_3
        refine m_iload C dX8_setClip_27 4 rfl ?_
        refine m_iconst (v := 0) C dX8_setClip_29 (by decide) ?_
        refine m_bipush (v := 100) C dX8_setClip_30 (by decide) ?_
        refine m_callSFi (As := [.int w, .int 0, .int 100]) (st := [.ref o]) C (c_X8_isIn D A l M w 0 100) (va_cwS 3 C.1.2.2.2.2 gX8_setClip_X8_isIn rfl rfl rfl (by decide +kernel) ⟨Nat.le_of_ble_eq_true rfl, Nat.le_of_ble_eq_true rfl⟩) rfl rfl (Nat.le_of_ble_eq_true rfl) dX8_setClip_32 ⟨Nat.le_of_ble_eq_true rfl, Nat.le_of_ble_eq_true rfl⟩ ?_
        refine m_if_eq (tgt := 49) C dX8_setClip_35 (by decide) (fun h_5 => ?_) (fun h_5 => ?_)
        · have h_5 := bI_z h_5
          refine m_iconst (v := 2) C dX8_setClip_49 (by decide) ?_
          refine m_goto (tgt := 54) C dX8_setClip_50 (by decide) ?_
          refine r_putT C hR i8 (by decide +kernel) dX8_setClip_54 (fun M hR => ?_)
          refine m_aload_n C dX8_setClip_57 rfl 0 rfl ?_
          refine r_get C hR i8 0 (by decide) (by decide +kernel) rfl rfl dX8_setClip_58 ?_
          refine m_if_eq (tgt := 66) C dX8_setClip_61 (by decide) (fun h_6 => ?_) (fun h_6 => ?_)
          · exact absurd h_6 (by decide)
          · refine m_iconst (v := 0) C dX8_setClip_64 (by decide) ?_
            exact m_zret C (by decide) (by decide) dX8_setClip_65 (Or.inl rfl) (by rw [show k_setClip cm ar (nI j) a b w h = 2 by simp [k_setClip, h1, hjc, h_1, h_3, h_5], if_neg (by decide)]; exact ⟨hR, fun z => absurd z (by decide)⟩)
        · have h_5 := bI_n h_5
          refine m_iload C dX8_setClip_38 5 rfl ?_
          refine m_iconst (v := 0) C dX8_setClip_40 (by decide) ?_
          refine m_bipush (v := 100) C dX8_setClip_41 (by decide) ?_
          refine m_callSFi (As := [.int h, .int 0, .int 100]) (st := [.ref o]) C (c_X8_isIn D A l M h 0 100) (va_cwS 3 C.1.2.2.2.2 gX8_setClip_X8_isIn rfl rfl rfl (by decide +kernel) ⟨Nat.le_of_ble_eq_true rfl, Nat.le_of_ble_eq_true rfl⟩) rfl rfl (Nat.le_of_ble_eq_true rfl) dX8_setClip_43 ⟨Nat.le_of_ble_eq_true rfl, Nat.le_of_ble_eq_true rfl⟩ ?_
          refine m_if_ne (tgt := 53) C dX8_setClip_46 (by decide) (fun h_7 => ?_) (fun h_7 => ?_)
          · have h_7 := bI_n h_7
            refine m_iconst (v := 0) C dX8_setClip_53 (by decide) ?_
            refine r_putT C hR i8 (by decide +kernel) dX8_setClip_54 (fun M hR => ?_)
            refine m_aload_n C dX8_setClip_57 rfl 0 rfl ?_
            refine r_get C hR i8 0 (by decide) (by decide +kernel) rfl rfl dX8_setClip_58 ?_
            refine m_if_eq (tgt := 66) C dX8_setClip_61 (by decide) (fun h_8 => ?_) (fun h_8 => ?_)
            · refine m_aload_n C dX8_setClip_66 rfl 0 rfl ?_
              refine r_get C hR i8 14 (by decide) (by decide +kernel) rfl rfl dX8_setClip_67 ?_
              refine m_iconst (v := 4) C dX8_setClip_70 (by decide) ?_
              refine m_iload_n C dX8_setClip_71 rfl 1 rfl ?_
              refine m_imul C dX8_setClip_72 ?_
              refine m_iconst (v := 2) C dX8_setClip_73 (by decide) ?_
              refine m_iadd C dX8_setClip_74 ?_
              refine r_iald C hR 14 (by decide) rfl (4 * j + 2) (show (4 * j + 2) < 160 by omega) (by rw [show (4 : Int32) = nI 4 from rfl, show (2 : Int32) = nI 2 from rfl, pk_mul, nI_add]) dX8_setClip_75 ?_
              refine m_i (y := ar 14 (4 * j + 2)) (rfl) ?_
              refine m_if_le (tgt := 83) C dX8_setClip_76 (by decide) (fun h_9 => ?_) (fun h_9 => ?_)
              · refine m_iconst (v := 0) C dX8_setClip_83 (by decide) ?_
                refine m_istore (L' := [(6, .int 0), (0, .ref o), (1, .int (nI j)), (2, .int a), (3, .int b), (4, .int w), (5, .int h)]) C dX8_setClip_84 (by decide) rfl ?_
                refine m_iconst (v := 4) C dX8_setClip_86 (by decide) ?_
                refine r_newI C hR (by decide +kernel) 4 rfl (by decide) (by decide) (by decide) dX8_setClip_87 (fun q_10 M hqq_10 hR => ?_)
                have hF : m_up F q_10 (.inl (D.2.1 0, 4, .inl (fun _ => 0))) q_10 = some (.inl (D.2.1 0, 4, .inl (fun _ => 0))) := m_up_s
                refine m_dup C dX8_setClip_89 rfl ?_
                refine m_iconst (v := 0) C dX8_setClip_90 (by decide) ?_
                refine m_iload_n C dX8_setClip_91 rfl 3 rfl ?_
                refine r_iastF C hR hF 0 (by decide) (by decide) rfl dX8_setClip_92 (fun M hR => ?_)
                rw [m_up_up] at hR
                have hF : m_up F q_10 (.inl (D.2.1 0, 4, .inl (upd (fun _ => 0) 0 a))) q_10 = some (.inl (D.2.1 0, 4, .inl (upd (fun _ => 0) 0 a))) := m_up_s
                refine m_dup C dX8_setClip_93 rfl ?_
                refine m_iconst (v := 1) C dX8_setClip_94 (by decide) ?_
                refine m_iload_n C dX8_setClip_95 rfl 4 rfl ?_
                refine r_iastF C hR hF 1 (by decide) (by decide) rfl dX8_setClip_96 (fun M hR => ?_)
                rw [m_up_up] at hR
                have hF : m_up F q_10 (.inl (D.2.1 0, 4, .inl (upd (upd (fun _ => 0) 0 a) 1 b))) q_10 = some (.inl (D.2.1 0, 4, .inl (upd (upd (fun _ => 0) 0 a) 1 b))) := m_up_s
                refine m_dup C dX8_setClip_97 rfl ?_
                refine m_iconst (v := 2) C dX8_setClip_98 (by decide) ?_
                refine m_iload C dX8_setClip_99 5 rfl ?_
                refine r_iastF C hR hF 2 (by decide) (by decide) rfl dX8_setClip_101 (fun M hR => ?_)
                rw [m_up_up] at hR
                have hF : m_up F q_10 (.inl (D.2.1 0, 4, .inl (upd (upd (upd (fun _ => 0) 0 a) 1 b) 2 w))) q_10 = some (.inl (D.2.1 0, 4, .inl (upd (upd (upd (fun _ => 0) 0 a) 1 b) 2 w))) := m_up_s
                refine m_dup C dX8_setClip_102 rfl ?_
                refine m_iconst (v := 3) C dX8_setClip_103 (by decide) ?_
                refine m_iload C dX8_setClip_104 6 rfl ?_
                refine r_iastF C hR hF 3 (by decide) (by decide) rfl dX8_setClip_106 (fun M hR => ?_)
                rw [m_up_up] at hR
                have hF : m_up F q_10 (.inl (D.2.1 0, 4, .inl (upd (upd (upd (upd (fun _ => 0) 0 a) 1 b) 2 w) 3 h))) q_10 = some (.inl (D.2.1 0, 4, .inl (upd (upd (upd (upd (fun _ => 0) 0 a) 1 b) 2 w) 3 h))) := m_up_s
                refine m_astore (L' := [(7, .ref q_10), (6, .int 0), (0, .ref o), (1, .int (nI j)), (2, .int a), (3, .int b), (4, .int w), (5, .int h)]) C dX8_setClip_107 (by decide) rfl ?_
                refine m_aload C dX8_setClip_109 0 rfl ?_
                refine m_iconst (v := 0) C dX8_setClip_111 (by decide) ?_
                refine m_aload_n C dX8_setClip_112 rfl 2 rfl ?_
                refine r_get C hR i8 14 (by decide) (by decide +kernel) rfl rfl dX8_setClip_113 ?_
                refine m_iconst (v := 4) C dX8_setClip_116 (by decide) ?_
                refine m_iload_n C dX8_setClip_117 rfl 3 rfl ?_
                refine m_imul C dX8_setClip_118 ?_
                refine m_iconst (v := 4) C dX8_setClip_119 (by decide) ?_
                refine r_copyF C hR (by decide +kernel) (by decide +kernel) (by decide +kernel) (by decide +kernel) hF (by decide) 14 (by decide) rfl 0 (4 * j) 4 rfl (by rw [show (4 : Int32) = nI 4 from rfl, pk_mul]) rfl (by decide) (show _ ≤ 160 by omega) (by decide) (by decide) dX8_setClip_120 (fun M hR => ?_)
                have hR := r_c17 (f := 14) (v := va_cpy (upd (upd (upd (upd (fun _ => 0) 0 a) 1 b) 2 w) 3 h) (ar 14) 0 (4 * j) 4) (by decide) hR
                have hR := hR.back hqq_10
                refine m_iload C dX8_setClip_123 1 rfl ?_
                exact m_zret C (by decide) (by decide) dX8_setClip_125 (Or.inl rfl) (by rw [show k_setClip cm ar (nI j) a b w h = 0 by simp [k_setClip, h1, hjc, h_1, h_3, h_5, h_7, h_9], if_pos rfl]; exact ⟨by rw [s_setClip, hjc]; exact hR, fun _ => by simp [h1, hjc, h_1, h_3, h_5, h_7, h_9, Int32.not_lt]⟩)
              · refine m_iconst (v := 1) C dX8_setClip_79 (by decide) ?_
                refine m_goto (tgt := 84) C dX8_setClip_80 (by decide) ?_
                refine m_istore (L' := [(6, .int 1), (0, .ref o), (1, .int (nI j)), (2, .int a), (3, .int b), (4, .int w), (5, .int h)]) C dX8_setClip_84 (by decide) rfl ?_
                refine m_iconst (v := 4) C dX8_setClip_86 (by decide) ?_
                refine r_newI C hR (by decide +kernel) 4 rfl (by decide) (by decide) (by decide) dX8_setClip_87 (fun q_11 M hqq_11 hR => ?_)
                have hF : m_up F q_11 (.inl (D.2.1 0, 4, .inl (fun _ => 0))) q_11 = some (.inl (D.2.1 0, 4, .inl (fun _ => 0))) := m_up_s
                refine m_dup C dX8_setClip_89 rfl ?_
                refine m_iconst (v := 0) C dX8_setClip_90 (by decide) ?_
                refine m_iload_n C dX8_setClip_91 rfl 3 rfl ?_
                refine r_iastF C hR hF 0 (by decide) (by decide) rfl dX8_setClip_92 (fun M hR => ?_)
                rw [m_up_up] at hR
                have hF : m_up F q_11 (.inl (D.2.1 0, 4, .inl (upd (fun _ => 0) 0 a))) q_11 = some (.inl (D.2.1 0, 4, .inl (upd (fun _ => 0) 0 a))) := m_up_s
                refine m_dup C dX8_setClip_93 rfl ?_
                refine m_iconst (v := 1) C dX8_setClip_94 (by decide) ?_
                refine m_iload_n C dX8_setClip_95 rfl 4 rfl ?_
                refine r_iastF C hR hF 1 (by decide) (by decide) rfl dX8_setClip_96 (fun M hR => ?_)
                rw [m_up_up] at hR
                have hF : m_up F q_11 (.inl (D.2.1 0, 4, .inl (upd (upd (fun _ => 0) 0 a) 1 b))) q_11 = some (.inl (D.2.1 0, 4, .inl (upd (upd (fun _ => 0) 0 a) 1 b))) := m_up_s
                refine m_dup C dX8_setClip_97 rfl ?_
                refine m_iconst (v := 2) C dX8_setClip_98 (by decide) ?_
                refine m_iload C dX8_setClip_99 5 rfl ?_
                refine r_iastF C hR hF 2 (by decide) (by decide) rfl dX8_setClip_101 (fun M hR => ?_)
                rw [m_up_up] at hR
                have hF : m_up F q_11 (.inl (D.2.1 0, 4, .inl (upd (upd (upd (fun _ => 0) 0 a) 1 b) 2 w))) q_11 = some (.inl (D.2.1 0, 4, .inl (upd (upd (upd (fun _ => 0) 0 a) 1 b) 2 w))) := m_up_s
                refine m_dup C dX8_setClip_102 rfl ?_
                refine m_iconst (v := 3) C dX8_setClip_103 (by decide) ?_
                refine m_iload C dX8_setClip_104 6 rfl ?_
                refine r_iastF C hR hF 3 (by decide) (by decide) rfl dX8_setClip_106 (fun M hR => ?_)
                rw [m_up_up] at hR
                have hF : m_up F q_11 (.inl (D.2.1 0, 4, .inl (upd (upd (upd (upd (fun _ => 0) 0 a) 1 b) 2 w) 3 h))) q_11 = some (.inl (D.2.1 0, 4, .inl (upd (upd (upd (upd (fun _ => 0) 0 a) 1 b) 2 w) 3 h))) := m_up_s
                refine m_astore (L' := [(7, .ref q_11), (6, .int 1), (0, .ref o), (1, .int (nI j)), (2, .int a), (3, .int b), (4, .int w), (5, .int h)]) C dX8_setClip_107 (by decide) rfl ?_
                refine m_aload C dX8_setClip_109 0 rfl ?_
                refine m_iconst (v := 0) C dX8_setClip_111 (by decide) ?_
                refine m_aload_n C dX8_setClip_112 rfl 2 rfl ?_
                refine r_get C hR i8 14 (by decide) (by decide +kernel) rfl rfl dX8_setClip_113 ?_
                refine m_iconst (v := 4) C dX8_setClip_116 (by decide) ?_
                refine m_iload_n C dX8_setClip_117 rfl 3 rfl ?_
                refine m_imul C dX8_setClip_118 ?_
                refine m_iconst (v := 4) C dX8_setClip_119 (by decide) ?_
                refine r_copyF C hR (by decide +kernel) (by decide +kernel) (by decide +kernel) (by decide +kernel) hF (by decide) 14 (by decide) rfl 0 (4 * j) 4 rfl (by rw [show (4 : Int32) = nI 4 from rfl, pk_mul]) rfl (by decide) (show _ ≤ 160 by omega) (by decide) (by decide) dX8_setClip_120 (fun M hR => ?_)
                have hR := r_c17 (f := 14) (v := va_cpy (upd (upd (upd (upd (fun _ => 0) 0 a) 1 b) 2 w) 3 h) (ar 14) 0 (4 * j) 4) (by decide) hR
                have hR := hR.back hqq_11
                refine m_iload C dX8_setClip_123 1 rfl ?_
                exact m_zret C (by decide) (by decide) dX8_setClip_125 (Or.inr rfl) (by rw [show k_setClip cm ar (nI j) a b w h = 0 by simp [k_setClip, h1, hjc, h_1, h_3, h_5, h_7, Int32.not_le.mp h_9, h_9], if_pos rfl]; exact ⟨by rw [s_setClip, hjc]; exact hR, fun _ => by simp [h1, hjc, h_1, h_3, h_5, h_7, Int32.not_le.mp h_9, h_9, Int32.not_lt]⟩)
            · exact absurd h_8 (by decide)
          · have h_7 := bI_z h_7
            refine m_iconst (v := 2) C dX8_setClip_49 (by decide) ?_
            refine m_goto (tgt := 54) C dX8_setClip_50 (by decide) ?_
            refine r_putT C hR i8 (by decide +kernel) dX8_setClip_54 (fun M hR => ?_)
            refine m_aload_n C dX8_setClip_57 rfl 0 rfl ?_
            refine r_get C hR i8 0 (by decide) (by decide +kernel) rfl rfl dX8_setClip_58 ?_
            refine m_if_eq (tgt := 66) C dX8_setClip_61 (by decide) (fun h_12 => ?_) (fun h_12 => ?_)
            · exact absurd h_12 (by decide)
            · refine m_iconst (v := 0) C dX8_setClip_64 (by decide) ?_
              exact m_zret C (by decide) (by decide) dX8_setClip_65 (Or.inl rfl) (by rw [show k_setClip cm ar (nI j) a b w h = 2 by simp [k_setClip, h1, hjc, h_1, h_3, h_5, h_7], if_neg (by decide)]; exact ⟨hR, fun z => absurd z (by decide)⟩)
  · have h1 := bI_z h1
    refine m_iconst (v := 1) C dX8_setClip_9 (by decide) ?_
    refine m_goto (tgt := 54) C dX8_setClip_10 (by decide) ?_
    refine r_putT C hR i8 (by decide +kernel) dX8_setClip_54 (fun M hR => ?_)
    refine m_aload_n C dX8_setClip_57 rfl 0 rfl ?_
    refine r_get C hR i8 0 (by decide) (by decide +kernel) rfl rfl dX8_setClip_58 ?_
    refine m_if_eq (tgt := 66) C dX8_setClip_61 (by decide) (fun h_13 => ?_) (fun h_13 => ?_)
    · exact absurd h_13 (by decide)
    · refine m_iconst (v := 0) C dX8_setClip_64 (by decide) ?_
      exact m_zret C (by decide) (by decide) dX8_setClip_65 (Or.inl rfl) (by rw [show k_setClip cm ar v a b w h = 1 by simp [k_setClip, h1], if_neg (by decide)]; exact ⟨hR, fun z => absurd z (by decide)⟩)
theorem q_sh3 (a b c : Int32) : q_sh [a, b, c] = (upd (upd (upd (fun _ => 0) 0 a) 1 b) 2 c) := by
  funext i
  match i with
  | 0 => rfl
  | 1 => rfl
  | 2 => rfl
  | n + 3 => simp [q_sh, upd]
theorem q_sh4 (a b c d : Int32) : q_sh [a, b, c, d] = (upd (upd (upd (upd (fun _ => 0) 0 a) 1 b) 2 c) 3 d) := by
  funext i
  match i with
  | 0 => rfl
  | 1 => rfl
  | 2 => rfl
  | 3 => rfl
  | n + 4 => simp [q_sh, upd]
theorem q_sh6 (a b c d e f : Int32) : q_sh [a, b, c, d, e, f] = (upd (upd (upd (upd (upd (upd (fun _ => 0) 0 a) 1 b) 2 c) 3 d) 4 e) 5 f) := by
  funext i
  match i with
  | 0 => rfl
  | 1 => rfl
  | 2 => rfl
  | 3 => rfl
  | 4 => rfl
  | 5 => rfl
  | n + 6 => simp [q_sh, upd]
theorem q_sh0 : q_sh [] = fun _ => 0 := rfl
set_option maxHeartbeats 4000000 in
set_option maxRecDepth 100000 in
theorem c_X8_addGroup (D : mD) (A : Nat → Prop) (l : Launch) {G : Nat → Nat} {o : Nat} {F : Mm} {t g u : Int32} {cm : Nat} {ar : rA} {od : Nat → Int32} {M : Mm} (hR : rW D G o F t (nI cm) g u (upA ar 17 od) M) (hw : wf ar cm) (v : Int32) : mMi D A l yX8_addGroup wsX8_addGroup ({ frames := 3, cells := 1, slots := 0, locals := 160 } : Room) [.ref o, .int v] M (fun r M' => (¬ q_addk cm ar v 0 true = 0 → r = 0 ∧ rW D G o F (q_addk cm ar v 0 true) (nI cm) g u (upA ar 17 od) M') ∧ (q_addk cm ar v 0 true = 0 → r = nI cm ∧ rW D G o F 0 (nI (cm + 1)) g u (upA (q_addS cm ar v 0 (q_sh []) 0) 17 od) M')) 1 0 := by
  have hcm := hw.1
  refine m_start (cc := cX8_addGroup) (maxL := 2) (ret := (some .int)) (by decide) rfl (Nat.le_of_ble_eq_true rfl) ?_
  intro p e s m args below meth c C
  have i8 : ∀ w ∈ wsX80, w ∈ wsX8_addGroup := by decide +kernel
  refine m_sub (L' := [(0, .ref o), (1, .int v)]) [0, 1] rfl ?_
  refine m_aload_n C dX8_addGroup_0 rfl 0 rfl ?_
  refine m_iload_n C dX8_addGroup_1 rfl 1 rfl ?_
  refine m_iconst (v := 0) C dX8_addGroup_2 (by decide) ?_
  refine m_iconst (v := 1) C dX8_addGroup_3 (by decide) ?_
  refine m_iconst (v := 0) C dX8_addGroup_4 (by decide) ?_
  refine r_newI C hR (by decide +kernel) 0 rfl (by decide) (by decide) (by decide) dX8_addGroup_5 (fun q_1 M hqq_1 hR => ?_)
  have hF : m_up F q_1 (.inl (D.2.1 0, 0, .inl (fun _ => 0))) q_1 = some (.inl (D.2.1 0, 0, .inl (fun _ => 0))) := m_up_s
  refine m_callVi (As := [.int v, .int 0, .int 1, .ref q_1]) (st := []) C hR.1 rfl (c_X8_add D A l hR hw.1 (wf_hmn hw) (v := v) (so := 0) (ok := true) hF (by decide)) (cwV 4 C.1.2.2.2.2 gX8_addGroup_X8_add rfl rfl rfl (by decide +kernel) ⟨Nat.le_of_ble_eq_true rfl, Nat.le_of_ble_eq_true rfl⟩) rfl rfl (Nat.le_of_ble_eq_true rfl) dX8_addGroup_7 ⟨by decide, by decide⟩ (fun r M hq9 => ?_)
  exact m_iret C (by decide) (by decide) dX8_addGroup_10 (by exact ⟨fun z => ⟨(hq9.1 z).1, (hq9.1 z).2.back hqq_1⟩, fun z => ⟨(hq9.2 z).1, by rw [q_sh0]; exact (hq9.2 z).2.back hqq_1⟩⟩)
set_option maxHeartbeats 4000000 in
set_option maxRecDepth 100000 in
theorem c_X8_addRectangle (D : mD) (A : Nat → Prop) (l : Launch) {G : Nat → Nat} {o : Nat} {F : Mm} {t g u : Int32} {cm : Nat} {ar : rA} {od : Nat → Int32} {M : Mm} (hR : rW D G o F t (nI cm) g u (upA ar 17 od) M) (hw : wf ar cm) (v a b w h : Int32) : mMi D A l yX8_addRectangle wsX8_addRectangle ({ frames := 3, cells := 1, slots := 4, locals := 160 } : Room) [.ref o, .int v, .int a, .int b, .int w, .int h] M (fun r M' => (¬ q_addk cm ar v 1 (q_okR a b w h) = 0 → r = 0 ∧ rW D G o F (q_addk cm ar v 1 (q_okR a b w h)) (nI cm) g u (upA ar 17 od) M') ∧ (q_addk cm ar v 1 (q_okR a b w h) = 0 → r = nI cm ∧ rW D G o F 0 (nI (cm + 1)) g u (upA (q_addS cm ar v 1 (q_sh [a, b, w, h]) 4) 17 od) M')) 1 4 := by
  have hcm := hw.1
  refine m_start (cc := cX8_addRectangle) (maxL := 6) (ret := (some .int)) (by decide) rfl (Nat.le_of_ble_eq_true rfl) ?_
  intro p e s m args below meth c C
  have i8 : ∀ w ∈ wsX80, w ∈ wsX8_addRectangle := by decide +kernel
  refine m_sub (L' := [(0, .ref o), (1, .int v), (2, .int a), (3, .int b), (4, .int w), (5, .int h)]) [0, 1, 2, 3, 4, 5] rfl ?_
  refine m_aload_n C dX8_addRectangle_0 rfl 0 rfl ?_
  refine m_iload_n C dX8_addRectangle_1 rfl 1 rfl ?_
  refine m_iconst (v := 1) C dX8_addRectangle_2 (by decide) ?_
  refine m_iload_n C dX8_addRectangle_3 rfl 2 rfl ?_
  refine m_callSFi (As := [.int a]) (st := [.int 1, .int v, .ref o]) C (c_X8_isFar D A l M a) (va_cwS 1 C.1.2.2.2.2 gX8_addRectangle_X8_isFar rfl rfl rfl (by decide +kernel) ⟨Nat.le_of_ble_eq_true rfl, Nat.le_of_ble_eq_true rfl⟩) rfl rfl (Nat.le_of_ble_eq_true rfl) dX8_addRectangle_4 ⟨Nat.le_of_ble_eq_true rfl, Nat.le_of_ble_eq_true rfl⟩ ?_
  refine m_if_ne (tgt := 43) C dX8_addRectangle_7 (by decide) (fun h_1 => ?_) (fun h_1 => ?_)
  · have h_1 := bI_n h_1
    refine m_iconst (v := 0) C dX8_addRectangle_43 (by decide) ?_
    refine m_iconst (v := 4) C dX8_addRectangle_44 (by decide) ?_
    refine r_newI C hR (by decide +kernel) 4 rfl (by decide) (by decide) (by decide) dX8_addRectangle_45 (fun q_2 M hqq_2 hR => ?_)
    have hF : m_up F q_2 (.inl (D.2.1 0, 4, .inl (fun _ => 0))) q_2 = some (.inl (D.2.1 0, 4, .inl (fun _ => 0))) := m_up_s
    refine m_dup C dX8_addRectangle_47 rfl ?_
    refine m_iconst (v := 0) C dX8_addRectangle_48 (by decide) ?_
    refine m_iload_n C dX8_addRectangle_49 rfl 2 rfl ?_
    refine r_iastF C hR hF 0 (by decide) (by decide) rfl dX8_addRectangle_50 (fun M hR => ?_)
    rw [m_up_up] at hR
    have hF : m_up F q_2 (.inl (D.2.1 0, 4, .inl (upd (fun _ => 0) 0 a))) q_2 = some (.inl (D.2.1 0, 4, .inl (upd (fun _ => 0) 0 a))) := m_up_s
    refine m_dup C dX8_addRectangle_51 rfl ?_
    refine m_iconst (v := 1) C dX8_addRectangle_52 (by decide) ?_
    refine m_iload_n C dX8_addRectangle_53 rfl 3 rfl ?_
    refine r_iastF C hR hF 1 (by decide) (by decide) rfl dX8_addRectangle_54 (fun M hR => ?_)
    rw [m_up_up] at hR
    have hF : m_up F q_2 (.inl (D.2.1 0, 4, .inl (upd (upd (fun _ => 0) 0 a) 1 b))) q_2 = some (.inl (D.2.1 0, 4, .inl (upd (upd (fun _ => 0) 0 a) 1 b))) := m_up_s
    refine m_dup C dX8_addRectangle_55 rfl ?_
    refine m_iconst (v := 2) C dX8_addRectangle_56 (by decide) ?_
    refine m_iload C dX8_addRectangle_57 4 rfl ?_
    refine r_iastF C hR hF 2 (by decide) (by decide) rfl dX8_addRectangle_59 (fun M hR => ?_)
    rw [m_up_up] at hR
    have hF : m_up F q_2 (.inl (D.2.1 0, 4, .inl (upd (upd (upd (fun _ => 0) 0 a) 1 b) 2 w))) q_2 = some (.inl (D.2.1 0, 4, .inl (upd (upd (upd (fun _ => 0) 0 a) 1 b) 2 w))) := m_up_s
    refine m_dup C dX8_addRectangle_60 rfl ?_
    refine m_iconst (v := 3) C dX8_addRectangle_61 (by decide) ?_
    refine m_iload C dX8_addRectangle_62 5 rfl ?_
    refine r_iastF C hR hF 3 (by decide) (by decide) rfl dX8_addRectangle_64 (fun M hR => ?_)
    rw [m_up_up] at hR
    have hF : m_up F q_2 (.inl (D.2.1 0, 4, .inl (upd (upd (upd (upd (fun _ => 0) 0 a) 1 b) 2 w) 3 h))) q_2 = some (.inl (D.2.1 0, 4, .inl (upd (upd (upd (upd (fun _ => 0) 0 a) 1 b) 2 w) 3 h))) := m_up_s
    refine m_callVi (As := [.int v, .int 1, .int 0, .ref q_2]) (st := []) C hR.1 rfl (c_X8_add D A l hR hw.1 (wf_hmn hw) (v := v) (so := 1) (ok := false) hF (by decide)) (cwV 4 C.1.2.2.2.2 gX8_addRectangle_X8_add rfl rfl rfl (by decide +kernel) ⟨Nat.le_of_ble_eq_true rfl, Nat.le_of_ble_eq_true rfl⟩) rfl rfl (Nat.le_of_ble_eq_true rfl) dX8_addRectangle_65 ⟨by decide, by decide⟩ (fun r M hq9 => ?_)
    exact m_iret C (by decide) (by decide) dX8_addRectangle_68 (by have hok : q_okR a b w h = false := (by simp [q_okR, h_1]); rw [hok]; exact ⟨fun z => ⟨(hq9.1 z).1, (hq9.1 z).2.back hqq_2⟩, fun z => ⟨(hq9.2 z).1, by rw [q_sh4]; exact (hq9.2 z).2.back hqq_2⟩⟩)
  · have h_1 := bI_z h_1
    refine m_iload_n C dX8_addRectangle_10 rfl 3 rfl ?_
    refine m_callSFi (As := [.int b]) (st := [.int 1, .int v, .ref o]) C (c_X8_isFar D A l M b) (va_cwS 1 C.1.2.2.2.2 gX8_addRectangle_X8_isFar rfl rfl rfl (by decide +kernel) ⟨Nat.le_of_ble_eq_true rfl, Nat.le_of_ble_eq_true rfl⟩) rfl rfl (Nat.le_of_ble_eq_true rfl) dX8_addRectangle_11 ⟨Nat.le_of_ble_eq_true rfl, Nat.le_of_ble_eq_true rfl⟩ ?_
    refine m_if_ne (tgt := 43) C dX8_addRectangle_14 (by decide) (fun h_3 => ?_) (fun h_3 => ?_)
    · have h_3 := bI_n h_3
      refine m_iconst (v := 0) C dX8_addRectangle_43 (by decide) ?_
      refine m_iconst (v := 4) C dX8_addRectangle_44 (by decide) ?_
      refine r_newI C hR (by decide +kernel) 4 rfl (by decide) (by decide) (by decide) dX8_addRectangle_45 (fun q_4 M hqq_4 hR => ?_)
      have hF : m_up F q_4 (.inl (D.2.1 0, 4, .inl (fun _ => 0))) q_4 = some (.inl (D.2.1 0, 4, .inl (fun _ => 0))) := m_up_s
      refine m_dup C dX8_addRectangle_47 rfl ?_
      refine m_iconst (v := 0) C dX8_addRectangle_48 (by decide) ?_
      refine m_iload_n C dX8_addRectangle_49 rfl 2 rfl ?_
      refine r_iastF C hR hF 0 (by decide) (by decide) rfl dX8_addRectangle_50 (fun M hR => ?_)
      rw [m_up_up] at hR
      have hF : m_up F q_4 (.inl (D.2.1 0, 4, .inl (upd (fun _ => 0) 0 a))) q_4 = some (.inl (D.2.1 0, 4, .inl (upd (fun _ => 0) 0 a))) := m_up_s
      refine m_dup C dX8_addRectangle_51 rfl ?_
      refine m_iconst (v := 1) C dX8_addRectangle_52 (by decide) ?_
      refine m_iload_n C dX8_addRectangle_53 rfl 3 rfl ?_
      refine r_iastF C hR hF 1 (by decide) (by decide) rfl dX8_addRectangle_54 (fun M hR => ?_)
      rw [m_up_up] at hR
      have hF : m_up F q_4 (.inl (D.2.1 0, 4, .inl (upd (upd (fun _ => 0) 0 a) 1 b))) q_4 = some (.inl (D.2.1 0, 4, .inl (upd (upd (fun _ => 0) 0 a) 1 b))) := m_up_s
      refine m_dup C dX8_addRectangle_55 rfl ?_
      refine m_iconst (v := 2) C dX8_addRectangle_56 (by decide) ?_
      refine m_iload C dX8_addRectangle_57 4 rfl ?_
      refine r_iastF C hR hF 2 (by decide) (by decide) rfl dX8_addRectangle_59 (fun M hR => ?_)
      rw [m_up_up] at hR
      have hF : m_up F q_4 (.inl (D.2.1 0, 4, .inl (upd (upd (upd (fun _ => 0) 0 a) 1 b) 2 w))) q_4 = some (.inl (D.2.1 0, 4, .inl (upd (upd (upd (fun _ => 0) 0 a) 1 b) 2 w))) := m_up_s
      refine m_dup C dX8_addRectangle_60 rfl ?_
      refine m_iconst (v := 3) C dX8_addRectangle_61 (by decide) ?_
      refine m_iload C dX8_addRectangle_62 5 rfl ?_
      refine r_iastF C hR hF 3 (by decide) (by decide) rfl dX8_addRectangle_64 (fun M hR => ?_)
      rw [m_up_up] at hR
      have hF : m_up F q_4 (.inl (D.2.1 0, 4, .inl (upd (upd (upd (upd (fun _ => 0) 0 a) 1 b) 2 w) 3 h))) q_4 = some (.inl (D.2.1 0, 4, .inl (upd (upd (upd (upd (fun _ => 0) 0 a) 1 b) 2 w) 3 h))) := m_up_s
      refine m_callVi (As := [.int v, .int 1, .int 0, .ref q_4]) (st := []) C hR.1 rfl (c_X8_add D A l hR hw.1 (wf_hmn hw) (v := v) (so := 1) (ok := false) hF (by decide)) (cwV 4 C.1.2.2.2.2 gX8_addRectangle_X8_add rfl rfl rfl (by decide +kernel) ⟨Nat.le_of_ble_eq_true rfl, Nat.le_of_ble_eq_true rfl⟩) rfl rfl (Nat.le_of_ble_eq_true rfl) dX8_addRectangle_65 ⟨by decide, by decide⟩ (fun r M hq9 => ?_)
      exact m_iret C (by decide) (by decide) dX8_addRectangle_68 (by have hok : q_okR a b w h = false := (by simp [q_okR, h_1, h_3]); rw [hok]; exact ⟨fun z => ⟨(hq9.1 z).1, (hq9.1 z).2.back hqq_4⟩, fun z => ⟨(hq9.2 z).1, by rw [q_sh4]; exact (hq9.2 z).2.back hqq_4⟩⟩)
    · have h_3 := bI_z h_3
      refine m_iload C dX8_addRectangle_17 4 rfl ?_
      refine m_iconst (v := 1) C dX8_addRectangle_19 (by decide) ?_
      refine m_bipush (v := 100) C dX8_addRectangle_20 (by decide) ?_
      refine m_callSFi (As := [.int w, .int 1, .int 100]) (st := [.int 1, .int v, .ref o]) C (c_X8_isIn D A l M w 1 100) (va_cwS 3 C.1.2.2.2.2 gX8_addRectangle_X8_isIn rfl rfl rfl (by decide +kernel) ⟨Nat.le_of_ble_eq_true rfl, Nat.le_of_ble_eq_true rfl⟩) rfl rfl (Nat.le_of_ble_eq_true rfl) dX8_addRectangle_22 ⟨Nat.le_of_ble_eq_true rfl, Nat.le_of_ble_eq_true rfl⟩ ?_
      refine m_if_eq (tgt := 43) C dX8_addRectangle_25 (by decide) (fun h_5 => ?_) (fun h_5 => ?_)
      · have h_5 := bI_z h_5
        refine m_iconst (v := 0) C dX8_addRectangle_43 (by decide) ?_
        refine m_iconst (v := 4) C dX8_addRectangle_44 (by decide) ?_
        refine r_newI C hR (by decide +kernel) 4 rfl (by decide) (by decide) (by decide) dX8_addRectangle_45 (fun q_6 M hqq_6 hR => ?_)
        have hF : m_up F q_6 (.inl (D.2.1 0, 4, .inl (fun _ => 0))) q_6 = some (.inl (D.2.1 0, 4, .inl (fun _ => 0))) := m_up_s
        refine m_dup C dX8_addRectangle_47 rfl ?_
        refine m_iconst (v := 0) C dX8_addRectangle_48 (by decide) ?_
        refine m_iload_n C dX8_addRectangle_49 rfl 2 rfl ?_
        refine r_iastF C hR hF 0 (by decide) (by decide) rfl dX8_addRectangle_50 (fun M hR => ?_)
        rw [m_up_up] at hR
        have hF : m_up F q_6 (.inl (D.2.1 0, 4, .inl (upd (fun _ => 0) 0 a))) q_6 = some (.inl (D.2.1 0, 4, .inl (upd (fun _ => 0) 0 a))) := m_up_s
        refine m_dup C dX8_addRectangle_51 rfl ?_
        refine m_iconst (v := 1) C dX8_addRectangle_52 (by decide) ?_
        refine m_iload_n C dX8_addRectangle_53 rfl 3 rfl ?_
        refine r_iastF C hR hF 1 (by decide) (by decide) rfl dX8_addRectangle_54 (fun M hR => ?_)
        rw [m_up_up] at hR
        have hF : m_up F q_6 (.inl (D.2.1 0, 4, .inl (upd (upd (fun _ => 0) 0 a) 1 b))) q_6 = some (.inl (D.2.1 0, 4, .inl (upd (upd (fun _ => 0) 0 a) 1 b))) := m_up_s
        refine m_dup C dX8_addRectangle_55 rfl ?_
        refine m_iconst (v := 2) C dX8_addRectangle_56 (by decide) ?_
        refine m_iload C dX8_addRectangle_57 4 rfl ?_
        refine r_iastF C hR hF 2 (by decide) (by decide) rfl dX8_addRectangle_59 (fun M hR => ?_)
        rw [m_up_up] at hR
        have hF : m_up F q_6 (.inl (D.2.1 0, 4, .inl (upd (upd (upd (fun _ => 0) 0 a) 1 b) 2 w))) q_6 = some (.inl (D.2.1 0, 4, .inl (upd (upd (upd (fun _ => 0) 0 a) 1 b) 2 w))) := m_up_s
        refine m_dup C dX8_addRectangle_60 rfl ?_
        refine m_iconst (v := 3) C dX8_addRectangle_61 (by decide) ?_
        refine m_iload C dX8_addRectangle_62 5 rfl ?_
        refine r_iastF C hR hF 3 (by decide) (by decide) rfl dX8_addRectangle_64 (fun M hR => ?_)
        rw [m_up_up] at hR
        have hF : m_up F q_6 (.inl (D.2.1 0, 4, .inl (upd (upd (upd (upd (fun _ => 0) 0 a) 1 b) 2 w) 3 h))) q_6 = some (.inl (D.2.1 0, 4, .inl (upd (upd (upd (upd (fun _ => 0) 0 a) 1 b) 2 w) 3 h))) := m_up_s
        refine m_callVi (As := [.int v, .int 1, .int 0, .ref q_6]) (st := []) C hR.1 rfl (c_X8_add D A l hR hw.1 (wf_hmn hw) (v := v) (so := 1) (ok := false) hF (by decide)) (cwV 4 C.1.2.2.2.2 gX8_addRectangle_X8_add rfl rfl rfl (by decide +kernel) ⟨Nat.le_of_ble_eq_true rfl, Nat.le_of_ble_eq_true rfl⟩) rfl rfl (Nat.le_of_ble_eq_true rfl) dX8_addRectangle_65 ⟨by decide, by decide⟩ (fun r M hq9 => ?_)
        exact m_iret C (by decide) (by decide) dX8_addRectangle_68 (by have hok : q_okR a b w h = false := (by simp [q_okR, h_1, h_3, h_5]); rw [hok]; exact ⟨fun z => ⟨(hq9.1 z).1, (hq9.1 z).2.back hqq_6⟩, fun z => ⟨(hq9.2 z).1, by rw [q_sh4]; exact (hq9.2 z).2.back hqq_6⟩⟩)
      · have h_5 := bI_n h_5
        refine m_iload C dX8_addRectangle_28 5 rfl ?_
        refine m_iconst (v := 1) C dX8_addRectangle_30 (by decide) ?_
        refine m_bipush (v := 100) C dX8_addRectangle_31 (by decide) ?_
        refine m_callSFi (As := [.int h, .int 1, .int 100]) (st := [.int 1, .int v, .ref o]) C (c_X8_isIn D A l M h 1 100) (va_cwS 3 C.1.2.2.2.2 gX8_addRectangle_X8_isIn rfl rfl rfl (by decide +kernel) ⟨Nat.le_of_ble_eq_true rfl, Nat.le_of_ble_eq_true rfl⟩) rfl rfl (Nat.le_of_ble_eq_true rfl) dX8_addRectangle_33 ⟨Nat.le_of_ble_eq_true rfl, Nat.le_of_ble_eq_true rfl⟩ ?_
        refine m_if_eq (tgt := 43) C dX8_addRectangle_36 (by decide) (fun h_7 => ?_) (fun h_7 => ?_)
        · have h_7 := bI_z h_7
          refine m_iconst (v := 0) C dX8_addRectangle_43 (by decide) ?_
          refine m_iconst (v := 4) C dX8_addRectangle_44 (by decide) ?_
          refine r_newI C hR (by decide +kernel) 4 rfl (by decide) (by decide) (by decide) dX8_addRectangle_45 (fun q_8 M hqq_8 hR => ?_)
          have hF : m_up F q_8 (.inl (D.2.1 0, 4, .inl (fun _ => 0))) q_8 = some (.inl (D.2.1 0, 4, .inl (fun _ => 0))) := m_up_s
          refine m_dup C dX8_addRectangle_47 rfl ?_
          refine m_iconst (v := 0) C dX8_addRectangle_48 (by decide) ?_
          refine m_iload_n C dX8_addRectangle_49 rfl 2 rfl ?_
          refine r_iastF C hR hF 0 (by decide) (by decide) rfl dX8_addRectangle_50 (fun M hR => ?_)
          rw [m_up_up] at hR
          have hF : m_up F q_8 (.inl (D.2.1 0, 4, .inl (upd (fun _ => 0) 0 a))) q_8 = some (.inl (D.2.1 0, 4, .inl (upd (fun _ => 0) 0 a))) := m_up_s
          refine m_dup C dX8_addRectangle_51 rfl ?_
          refine m_iconst (v := 1) C dX8_addRectangle_52 (by decide) ?_
          refine m_iload_n C dX8_addRectangle_53 rfl 3 rfl ?_
          refine r_iastF C hR hF 1 (by decide) (by decide) rfl dX8_addRectangle_54 (fun M hR => ?_)
          rw [m_up_up] at hR
          have hF : m_up F q_8 (.inl (D.2.1 0, 4, .inl (upd (upd (fun _ => 0) 0 a) 1 b))) q_8 = some (.inl (D.2.1 0, 4, .inl (upd (upd (fun _ => 0) 0 a) 1 b))) := m_up_s
          refine m_dup C dX8_addRectangle_55 rfl ?_
          refine m_iconst (v := 2) C dX8_addRectangle_56 (by decide) ?_
          refine m_iload C dX8_addRectangle_57 4 rfl ?_
          refine r_iastF C hR hF 2 (by decide) (by decide) rfl dX8_addRectangle_59 (fun M hR => ?_)
          rw [m_up_up] at hR
          have hF : m_up F q_8 (.inl (D.2.1 0, 4, .inl (upd (upd (upd (fun _ => 0) 0 a) 1 b) 2 w))) q_8 = some (.inl (D.2.1 0, 4, .inl (upd (upd (upd (fun _ => 0) 0 a) 1 b) 2 w))) := m_up_s
          refine m_dup C dX8_addRectangle_60 rfl ?_
          refine m_iconst (v := 3) C dX8_addRectangle_61 (by decide) ?_
          refine m_iload C dX8_addRectangle_62 5 rfl ?_
          refine r_iastF C hR hF 3 (by decide) (by decide) rfl dX8_addRectangle_64 (fun M hR => ?_)
          rw [m_up_up] at hR
          have hF : m_up F q_8 (.inl (D.2.1 0, 4, .inl (upd (upd (upd (upd (fun _ => 0) 0 a) 1 b) 2 w) 3 h))) q_8 = some (.inl (D.2.1 0, 4, .inl (upd (upd (upd (upd (fun _ => 0) 0 a) 1 b) 2 w) 3 h))) := m_up_s
          refine m_callVi (As := [.int v, .int 1, .int 0, .ref q_8]) (st := []) C hR.1 rfl (c_X8_add D A l hR hw.1 (wf_hmn hw) (v := v) (so := 1) (ok := false) hF (by decide)) (cwV 4 C.1.2.2.2.2 gX8_addRectangle_X8_add rfl rfl rfl (by decide +kernel) ⟨Nat.le_of_ble_eq_true rfl, Nat.le_of_ble_eq_true rfl⟩) rfl rfl (Nat.le_of_ble_eq_true rfl) dX8_addRectangle_65 ⟨by decide, by decide⟩ (fun r M hq9 => ?_)
          exact m_iret C (by decide) (by decide) dX8_addRectangle_68 (by have hok : q_okR a b w h = false := (by simp [q_okR, h_1, h_3, h_5, h_7]); rw [hok]; exact ⟨fun z => ⟨(hq9.1 z).1, (hq9.1 z).2.back hqq_8⟩, fun z => ⟨(hq9.2 z).1, by rw [q_sh4]; exact (hq9.2 z).2.back hqq_8⟩⟩)
        · have h_7 := bI_n h_7
          refine m_iconst (v := 1) C dX8_addRectangle_39 (by decide) ?_
          refine m_goto (tgt := 44) C dX8_addRectangle_40 (by decide) ?_
          refine m_iconst (v := 4) C dX8_addRectangle_44 (by decide) ?_
          refine r_newI C hR (by decide +kernel) 4 rfl (by decide) (by decide) (by decide) dX8_addRectangle_45 (fun q_9 M hqq_9 hR => ?_)
          have hF : m_up F q_9 (.inl (D.2.1 0, 4, .inl (fun _ => 0))) q_9 = some (.inl (D.2.1 0, 4, .inl (fun _ => 0))) := m_up_s
          refine m_dup C dX8_addRectangle_47 rfl ?_
          refine m_iconst (v := 0) C dX8_addRectangle_48 (by decide) ?_
          refine m_iload_n C dX8_addRectangle_49 rfl 2 rfl ?_
          refine r_iastF C hR hF 0 (by decide) (by decide) rfl dX8_addRectangle_50 (fun M hR => ?_)
          rw [m_up_up] at hR
          have hF : m_up F q_9 (.inl (D.2.1 0, 4, .inl (upd (fun _ => 0) 0 a))) q_9 = some (.inl (D.2.1 0, 4, .inl (upd (fun _ => 0) 0 a))) := m_up_s
          refine m_dup C dX8_addRectangle_51 rfl ?_
          refine m_iconst (v := 1) C dX8_addRectangle_52 (by decide) ?_
          refine m_iload_n C dX8_addRectangle_53 rfl 3 rfl ?_
          refine r_iastF C hR hF 1 (by decide) (by decide) rfl dX8_addRectangle_54 (fun M hR => ?_)
          rw [m_up_up] at hR
          have hF : m_up F q_9 (.inl (D.2.1 0, 4, .inl (upd (upd (fun _ => 0) 0 a) 1 b))) q_9 = some (.inl (D.2.1 0, 4, .inl (upd (upd (fun _ => 0) 0 a) 1 b))) := m_up_s
          refine m_dup C dX8_addRectangle_55 rfl ?_
          refine m_iconst (v := 2) C dX8_addRectangle_56 (by decide) ?_
          refine m_iload C dX8_addRectangle_57 4 rfl ?_
          refine r_iastF C hR hF 2 (by decide) (by decide) rfl dX8_addRectangle_59 (fun M hR => ?_)
          rw [m_up_up] at hR
          have hF : m_up F q_9 (.inl (D.2.1 0, 4, .inl (upd (upd (upd (fun _ => 0) 0 a) 1 b) 2 w))) q_9 = some (.inl (D.2.1 0, 4, .inl (upd (upd (upd (fun _ => 0) 0 a) 1 b) 2 w))) := m_up_s
          refine m_dup C dX8_addRectangle_60 rfl ?_
          refine m_iconst (v := 3) C dX8_addRectangle_61 (by decide) ?_
          refine m_iload C dX8_addRectangle_62 5 rfl ?_
          refine r_iastF C hR hF 3 (by decide) (by decide) rfl dX8_addRectangle_64 (fun M hR => ?_)
          rw [m_up_up] at hR
          have hF : m_up F q_9 (.inl (D.2.1 0, 4, .inl (upd (upd (upd (upd (fun _ => 0) 0 a) 1 b) 2 w) 3 h))) q_9 = some (.inl (D.2.1 0, 4, .inl (upd (upd (upd (upd (fun _ => 0) 0 a) 1 b) 2 w) 3 h))) := m_up_s
          refine m_callVi (As := [.int v, .int 1, .int 1, .ref q_9]) (st := []) C hR.1 rfl (c_X8_add D A l hR hw.1 (wf_hmn hw) (v := v) (so := 1) (ok := true) hF (by decide)) (cwV 4 C.1.2.2.2.2 gX8_addRectangle_X8_add rfl rfl rfl (by decide +kernel) ⟨Nat.le_of_ble_eq_true rfl, Nat.le_of_ble_eq_true rfl⟩) rfl rfl (Nat.le_of_ble_eq_true rfl) dX8_addRectangle_65 ⟨by decide, by decide⟩ (fun r M hq9 => ?_)
          exact m_iret C (by decide) (by decide) dX8_addRectangle_68 (by have hok : q_okR a b w h = true := (by simp [q_okR, h_1, h_3, h_5, h_7]); rw [hok]; exact ⟨fun z => ⟨(hq9.1 z).1, (hq9.1 z).2.back hqq_9⟩, fun z => ⟨(hq9.2 z).1, by rw [q_sh4]; exact (hq9.2 z).2.back hqq_9⟩⟩)
set_option maxHeartbeats 4000000 in
set_option maxRecDepth 100000 in
theorem c_X8_addDisc (D : mD) (A : Nat → Prop) (l : Launch) {G : Nat → Nat} {o : Nat} {F : Mm} {t g u : Int32} {cm : Nat} {ar : rA} {od : Nat → Int32} {M : Mm} (hR : rW D G o F t (nI cm) g u (upA ar 17 od) M) (hw : wf ar cm) (v a b w : Int32) : mMi D A l yX8_addDisc wsX8_addDisc ({ frames := 3, cells := 1, slots := 3, locals := 160 } : Room) [.ref o, .int v, .int a, .int b, .int w] M (fun r M' => (¬ q_addk cm ar v 2 (q_okD a b w) = 0 → r = 0 ∧ rW D G o F (q_addk cm ar v 2 (q_okD a b w)) (nI cm) g u (upA ar 17 od) M') ∧ (q_addk cm ar v 2 (q_okD a b w) = 0 → r = nI cm ∧ rW D G o F 0 (nI (cm + 1)) g u (upA (q_addS cm ar v 2 (q_sh [a, b, w]) 3) 17 od) M')) 1 3 := by
  have hcm := hw.1
  refine m_start (cc := cX8_addDisc) (maxL := 5) (ret := (some .int)) (by decide) rfl (Nat.le_of_ble_eq_true rfl) ?_
  intro p e s m args below meth c C
  have i8 : ∀ w ∈ wsX80, w ∈ wsX8_addDisc := by decide +kernel
  refine m_sub (L' := [(0, .ref o), (1, .int v), (2, .int a), (3, .int b), (4, .int w)]) [0, 1, 2, 3, 4] rfl ?_
  refine m_aload_n C dX8_addDisc_0 rfl 0 rfl ?_
  refine m_iload_n C dX8_addDisc_1 rfl 1 rfl ?_
  refine m_iconst (v := 2) C dX8_addDisc_2 (by decide) ?_
  refine m_iload_n C dX8_addDisc_3 rfl 2 rfl ?_
  refine m_callSFi (As := [.int a]) (st := [.int 2, .int v, .ref o]) C (c_X8_isFar D A l M a) (va_cwS 1 C.1.2.2.2.2 gX8_addDisc_X8_isFar rfl rfl rfl (by decide +kernel) ⟨Nat.le_of_ble_eq_true rfl, Nat.le_of_ble_eq_true rfl⟩) rfl rfl (Nat.le_of_ble_eq_true rfl) dX8_addDisc_4 ⟨Nat.le_of_ble_eq_true rfl, Nat.le_of_ble_eq_true rfl⟩ ?_
  refine m_if_ne (tgt := 32) C dX8_addDisc_7 (by decide) (fun h_1 => ?_) (fun h_1 => ?_)
  · have h_1 := bI_n h_1
    refine m_iconst (v := 0) C dX8_addDisc_32 (by decide) ?_
    refine m_iconst (v := 3) C dX8_addDisc_33 (by decide) ?_
    refine r_newI C hR (by decide +kernel) 3 rfl (by decide) (by decide) (by decide) dX8_addDisc_34 (fun q_2 M hqq_2 hR => ?_)
    have hF : m_up F q_2 (.inl (D.2.1 0, 3, .inl (fun _ => 0))) q_2 = some (.inl (D.2.1 0, 3, .inl (fun _ => 0))) := m_up_s
    refine m_dup C dX8_addDisc_36 rfl ?_
    refine m_iconst (v := 0) C dX8_addDisc_37 (by decide) ?_
    refine m_iload_n C dX8_addDisc_38 rfl 2 rfl ?_
    refine r_iastF C hR hF 0 (by decide) (by decide) rfl dX8_addDisc_39 (fun M hR => ?_)
    rw [m_up_up] at hR
    have hF : m_up F q_2 (.inl (D.2.1 0, 3, .inl (upd (fun _ => 0) 0 a))) q_2 = some (.inl (D.2.1 0, 3, .inl (upd (fun _ => 0) 0 a))) := m_up_s
    refine m_dup C dX8_addDisc_40 rfl ?_
    refine m_iconst (v := 1) C dX8_addDisc_41 (by decide) ?_
    refine m_iload_n C dX8_addDisc_42 rfl 3 rfl ?_
    refine r_iastF C hR hF 1 (by decide) (by decide) rfl dX8_addDisc_43 (fun M hR => ?_)
    rw [m_up_up] at hR
    have hF : m_up F q_2 (.inl (D.2.1 0, 3, .inl (upd (upd (fun _ => 0) 0 a) 1 b))) q_2 = some (.inl (D.2.1 0, 3, .inl (upd (upd (fun _ => 0) 0 a) 1 b))) := m_up_s
    refine m_dup C dX8_addDisc_44 rfl ?_
    refine m_iconst (v := 2) C dX8_addDisc_45 (by decide) ?_
    refine m_iload C dX8_addDisc_46 4 rfl ?_
    refine r_iastF C hR hF 2 (by decide) (by decide) rfl dX8_addDisc_48 (fun M hR => ?_)
    rw [m_up_up] at hR
    have hF : m_up F q_2 (.inl (D.2.1 0, 3, .inl (upd (upd (upd (fun _ => 0) 0 a) 1 b) 2 w))) q_2 = some (.inl (D.2.1 0, 3, .inl (upd (upd (upd (fun _ => 0) 0 a) 1 b) 2 w))) := m_up_s
    refine m_callVi (As := [.int v, .int 2, .int 0, .ref q_2]) (st := []) C hR.1 rfl (c_X8_add D A l hR hw.1 (wf_hmn hw) (v := v) (so := 2) (ok := false) hF (by decide)) (cwV 4 C.1.2.2.2.2 gX8_addDisc_X8_add rfl rfl rfl (by decide +kernel) ⟨Nat.le_of_ble_eq_true rfl, Nat.le_of_ble_eq_true rfl⟩) rfl rfl (Nat.le_of_ble_eq_true rfl) dX8_addDisc_49 ⟨by decide, by decide⟩ (fun r M hq9 => ?_)
    exact m_iret C (by decide) (by decide) dX8_addDisc_52 (by have hok : q_okD a b w = false := (by simp [q_okD, h_1]); rw [hok]; exact ⟨fun z => ⟨(hq9.1 z).1, (hq9.1 z).2.back hqq_2⟩, fun z => ⟨(hq9.2 z).1, by rw [q_sh3]; exact (hq9.2 z).2.back hqq_2⟩⟩)
  · have h_1 := bI_z h_1
    refine m_iload_n C dX8_addDisc_10 rfl 3 rfl ?_
    refine m_callSFi (As := [.int b]) (st := [.int 2, .int v, .ref o]) C (c_X8_isFar D A l M b) (va_cwS 1 C.1.2.2.2.2 gX8_addDisc_X8_isFar rfl rfl rfl (by decide +kernel) ⟨Nat.le_of_ble_eq_true rfl, Nat.le_of_ble_eq_true rfl⟩) rfl rfl (Nat.le_of_ble_eq_true rfl) dX8_addDisc_11 ⟨Nat.le_of_ble_eq_true rfl, Nat.le_of_ble_eq_true rfl⟩ ?_
    refine m_if_ne (tgt := 32) C dX8_addDisc_14 (by decide) (fun h_3 => ?_) (fun h_3 => ?_)
    · have h_3 := bI_n h_3
      refine m_iconst (v := 0) C dX8_addDisc_32 (by decide) ?_
      refine m_iconst (v := 3) C dX8_addDisc_33 (by decide) ?_
      refine r_newI C hR (by decide +kernel) 3 rfl (by decide) (by decide) (by decide) dX8_addDisc_34 (fun q_4 M hqq_4 hR => ?_)
      have hF : m_up F q_4 (.inl (D.2.1 0, 3, .inl (fun _ => 0))) q_4 = some (.inl (D.2.1 0, 3, .inl (fun _ => 0))) := m_up_s
      refine m_dup C dX8_addDisc_36 rfl ?_
      refine m_iconst (v := 0) C dX8_addDisc_37 (by decide) ?_
      refine m_iload_n C dX8_addDisc_38 rfl 2 rfl ?_
      refine r_iastF C hR hF 0 (by decide) (by decide) rfl dX8_addDisc_39 (fun M hR => ?_)
      rw [m_up_up] at hR
      have hF : m_up F q_4 (.inl (D.2.1 0, 3, .inl (upd (fun _ => 0) 0 a))) q_4 = some (.inl (D.2.1 0, 3, .inl (upd (fun _ => 0) 0 a))) := m_up_s
      refine m_dup C dX8_addDisc_40 rfl ?_
      refine m_iconst (v := 1) C dX8_addDisc_41 (by decide) ?_
      refine m_iload_n C dX8_addDisc_42 rfl 3 rfl ?_
      refine r_iastF C hR hF 1 (by decide) (by decide) rfl dX8_addDisc_43 (fun M hR => ?_)
      rw [m_up_up] at hR
      have hF : m_up F q_4 (.inl (D.2.1 0, 3, .inl (upd (upd (fun _ => 0) 0 a) 1 b))) q_4 = some (.inl (D.2.1 0, 3, .inl (upd (upd (fun _ => 0) 0 a) 1 b))) := m_up_s
      refine m_dup C dX8_addDisc_44 rfl ?_
      refine m_iconst (v := 2) C dX8_addDisc_45 (by decide) ?_
      refine m_iload C dX8_addDisc_46 4 rfl ?_
      refine r_iastF C hR hF 2 (by decide) (by decide) rfl dX8_addDisc_48 (fun M hR => ?_)
      rw [m_up_up] at hR
      have hF : m_up F q_4 (.inl (D.2.1 0, 3, .inl (upd (upd (upd (fun _ => 0) 0 a) 1 b) 2 w))) q_4 = some (.inl (D.2.1 0, 3, .inl (upd (upd (upd (fun _ => 0) 0 a) 1 b) 2 w))) := m_up_s
      refine m_callVi (As := [.int v, .int 2, .int 0, .ref q_4]) (st := []) C hR.1 rfl (c_X8_add D A l hR hw.1 (wf_hmn hw) (v := v) (so := 2) (ok := false) hF (by decide)) (cwV 4 C.1.2.2.2.2 gX8_addDisc_X8_add rfl rfl rfl (by decide +kernel) ⟨Nat.le_of_ble_eq_true rfl, Nat.le_of_ble_eq_true rfl⟩) rfl rfl (Nat.le_of_ble_eq_true rfl) dX8_addDisc_49 ⟨by decide, by decide⟩ (fun r M hq9 => ?_)
      exact m_iret C (by decide) (by decide) dX8_addDisc_52 (by have hok : q_okD a b w = false := (by simp [q_okD, h_1, h_3]); rw [hok]; exact ⟨fun z => ⟨(hq9.1 z).1, (hq9.1 z).2.back hqq_4⟩, fun z => ⟨(hq9.2 z).1, by rw [q_sh3]; exact (hq9.2 z).2.back hqq_4⟩⟩)
    · have h_3 := bI_z h_3
      refine m_iload C dX8_addDisc_17 4 rfl ?_
      refine m_iconst (v := 1) C dX8_addDisc_19 (by decide) ?_
      refine m_bipush (v := 60) C dX8_addDisc_20 (by decide) ?_
      refine m_callSFi (As := [.int w, .int 1, .int 60]) (st := [.int 2, .int v, .ref o]) C (c_X8_isIn D A l M w 1 60) (va_cwS 3 C.1.2.2.2.2 gX8_addDisc_X8_isIn rfl rfl rfl (by decide +kernel) ⟨Nat.le_of_ble_eq_true rfl, Nat.le_of_ble_eq_true rfl⟩) rfl rfl (Nat.le_of_ble_eq_true rfl) dX8_addDisc_22 ⟨Nat.le_of_ble_eq_true rfl, Nat.le_of_ble_eq_true rfl⟩ ?_
      refine m_if_eq (tgt := 32) C dX8_addDisc_25 (by decide) (fun h_5 => ?_) (fun h_5 => ?_)
      · have h_5 := bI_z h_5
        refine m_iconst (v := 0) C dX8_addDisc_32 (by decide) ?_
        refine m_iconst (v := 3) C dX8_addDisc_33 (by decide) ?_
        refine r_newI C hR (by decide +kernel) 3 rfl (by decide) (by decide) (by decide) dX8_addDisc_34 (fun q_6 M hqq_6 hR => ?_)
        have hF : m_up F q_6 (.inl (D.2.1 0, 3, .inl (fun _ => 0))) q_6 = some (.inl (D.2.1 0, 3, .inl (fun _ => 0))) := m_up_s
        refine m_dup C dX8_addDisc_36 rfl ?_
        refine m_iconst (v := 0) C dX8_addDisc_37 (by decide) ?_
        refine m_iload_n C dX8_addDisc_38 rfl 2 rfl ?_
        refine r_iastF C hR hF 0 (by decide) (by decide) rfl dX8_addDisc_39 (fun M hR => ?_)
        rw [m_up_up] at hR
        have hF : m_up F q_6 (.inl (D.2.1 0, 3, .inl (upd (fun _ => 0) 0 a))) q_6 = some (.inl (D.2.1 0, 3, .inl (upd (fun _ => 0) 0 a))) := m_up_s
        refine m_dup C dX8_addDisc_40 rfl ?_
        refine m_iconst (v := 1) C dX8_addDisc_41 (by decide) ?_
        refine m_iload_n C dX8_addDisc_42 rfl 3 rfl ?_
        refine r_iastF C hR hF 1 (by decide) (by decide) rfl dX8_addDisc_43 (fun M hR => ?_)
        rw [m_up_up] at hR
        have hF : m_up F q_6 (.inl (D.2.1 0, 3, .inl (upd (upd (fun _ => 0) 0 a) 1 b))) q_6 = some (.inl (D.2.1 0, 3, .inl (upd (upd (fun _ => 0) 0 a) 1 b))) := m_up_s
        refine m_dup C dX8_addDisc_44 rfl ?_
        refine m_iconst (v := 2) C dX8_addDisc_45 (by decide) ?_
        refine m_iload C dX8_addDisc_46 4 rfl ?_
        refine r_iastF C hR hF 2 (by decide) (by decide) rfl dX8_addDisc_48 (fun M hR => ?_)
        rw [m_up_up] at hR
        have hF : m_up F q_6 (.inl (D.2.1 0, 3, .inl (upd (upd (upd (fun _ => 0) 0 a) 1 b) 2 w))) q_6 = some (.inl (D.2.1 0, 3, .inl (upd (upd (upd (fun _ => 0) 0 a) 1 b) 2 w))) := m_up_s
        refine m_callVi (As := [.int v, .int 2, .int 0, .ref q_6]) (st := []) C hR.1 rfl (c_X8_add D A l hR hw.1 (wf_hmn hw) (v := v) (so := 2) (ok := false) hF (by decide)) (cwV 4 C.1.2.2.2.2 gX8_addDisc_X8_add rfl rfl rfl (by decide +kernel) ⟨Nat.le_of_ble_eq_true rfl, Nat.le_of_ble_eq_true rfl⟩) rfl rfl (Nat.le_of_ble_eq_true rfl) dX8_addDisc_49 ⟨by decide, by decide⟩ (fun r M hq9 => ?_)
        exact m_iret C (by decide) (by decide) dX8_addDisc_52 (by have hok : q_okD a b w = false := (by simp [q_okD, h_1, h_3, h_5]); rw [hok]; exact ⟨fun z => ⟨(hq9.1 z).1, (hq9.1 z).2.back hqq_6⟩, fun z => ⟨(hq9.2 z).1, by rw [q_sh3]; exact (hq9.2 z).2.back hqq_6⟩⟩)
      · have h_5 := bI_n h_5
        refine m_iconst (v := 1) C dX8_addDisc_28 (by decide) ?_
        refine m_goto (tgt := 33) C dX8_addDisc_29 (by decide) ?_
        refine m_iconst (v := 3) C dX8_addDisc_33 (by decide) ?_
        refine r_newI C hR (by decide +kernel) 3 rfl (by decide) (by decide) (by decide) dX8_addDisc_34 (fun q_7 M hqq_7 hR => ?_)
        have hF : m_up F q_7 (.inl (D.2.1 0, 3, .inl (fun _ => 0))) q_7 = some (.inl (D.2.1 0, 3, .inl (fun _ => 0))) := m_up_s
        refine m_dup C dX8_addDisc_36 rfl ?_
        refine m_iconst (v := 0) C dX8_addDisc_37 (by decide) ?_
        refine m_iload_n C dX8_addDisc_38 rfl 2 rfl ?_
        refine r_iastF C hR hF 0 (by decide) (by decide) rfl dX8_addDisc_39 (fun M hR => ?_)
        rw [m_up_up] at hR
        have hF : m_up F q_7 (.inl (D.2.1 0, 3, .inl (upd (fun _ => 0) 0 a))) q_7 = some (.inl (D.2.1 0, 3, .inl (upd (fun _ => 0) 0 a))) := m_up_s
        refine m_dup C dX8_addDisc_40 rfl ?_
        refine m_iconst (v := 1) C dX8_addDisc_41 (by decide) ?_
        refine m_iload_n C dX8_addDisc_42 rfl 3 rfl ?_
        refine r_iastF C hR hF 1 (by decide) (by decide) rfl dX8_addDisc_43 (fun M hR => ?_)
        rw [m_up_up] at hR
        have hF : m_up F q_7 (.inl (D.2.1 0, 3, .inl (upd (upd (fun _ => 0) 0 a) 1 b))) q_7 = some (.inl (D.2.1 0, 3, .inl (upd (upd (fun _ => 0) 0 a) 1 b))) := m_up_s
        refine m_dup C dX8_addDisc_44 rfl ?_
        refine m_iconst (v := 2) C dX8_addDisc_45 (by decide) ?_
        refine m_iload C dX8_addDisc_46 4 rfl ?_
        refine r_iastF C hR hF 2 (by decide) (by decide) rfl dX8_addDisc_48 (fun M hR => ?_)
        rw [m_up_up] at hR
        have hF : m_up F q_7 (.inl (D.2.1 0, 3, .inl (upd (upd (upd (fun _ => 0) 0 a) 1 b) 2 w))) q_7 = some (.inl (D.2.1 0, 3, .inl (upd (upd (upd (fun _ => 0) 0 a) 1 b) 2 w))) := m_up_s
        refine m_callVi (As := [.int v, .int 2, .int 1, .ref q_7]) (st := []) C hR.1 rfl (c_X8_add D A l hR hw.1 (wf_hmn hw) (v := v) (so := 2) (ok := true) hF (by decide)) (cwV 4 C.1.2.2.2.2 gX8_addDisc_X8_add rfl rfl rfl (by decide +kernel) ⟨Nat.le_of_ble_eq_true rfl, Nat.le_of_ble_eq_true rfl⟩) rfl rfl (Nat.le_of_ble_eq_true rfl) dX8_addDisc_49 ⟨by decide, by decide⟩ (fun r M hq9 => ?_)
        exact m_iret C (by decide) (by decide) dX8_addDisc_52 (by have hok : q_okD a b w = true := (by simp [q_okD, h_1, h_3, h_5]); rw [hok]; exact ⟨fun z => ⟨(hq9.1 z).1, (hq9.1 z).2.back hqq_7⟩, fun z => ⟨(hq9.2 z).1, by rw [q_sh3]; exact (hq9.2 z).2.back hqq_7⟩⟩)
set_option maxHeartbeats 4000000 in
set_option maxRecDepth 100000 in
theorem c_X8_addTriangle (D : mD) (A : Nat → Prop) (l : Launch) {G : Nat → Nat} {o : Nat} {F : Mm} {t g u : Int32} {cm : Nat} {ar : rA} {od : Nat → Int32} {M : Mm} (hR : rW D G o F t (nI cm) g u (upA ar 17 od) M) (hw : wf ar cm) (v a b a2 b2 a3 b3 : Int32) : mMi D A l yX8_addTriangle wsX8_addTriangle ({ frames := 3, cells := 1, slots := 6, locals := 160 } : Room) [.ref o, .int v, .int a, .int b, .int a2, .int b2, .int a3, .int b3] M (fun r M' => (¬ q_addk cm ar v 3 (q_okT a b a2 b2 a3 b3) = 0 → r = 0 ∧ rW D G o F (q_addk cm ar v 3 (q_okT a b a2 b2 a3 b3)) (nI cm) g u (upA ar 17 od) M') ∧ (q_addk cm ar v 3 (q_okT a b a2 b2 a3 b3) = 0 → r = nI cm ∧ rW D G o F 0 (nI (cm + 1)) g u (upA (q_addS cm ar v 3 (q_sh [a, b, a2, b2, a3, b3]) 6) 17 od) M')) 1 6 := by
  have hcm := hw.1
  refine m_start (cc := cX8_addTriangle) (maxL := 8) (ret := (some .int)) (by decide) rfl (Nat.le_of_ble_eq_true rfl) ?_
  intro p e s m args below meth c C
  have i8 : ∀ w ∈ wsX80, w ∈ wsX8_addTriangle := by decide +kernel
  refine m_sub (L' := [(0, .ref o), (1, .int v), (2, .int a), (3, .int b), (4, .int a2), (5, .int b2), (6, .int a3), (7, .int b3)]) [0, 1, 2, 3, 4, 5, 6, 7] rfl ?_
  refine m_aload_n C dX8_addTriangle_0 rfl 0 rfl ?_
  refine m_iload_n C dX8_addTriangle_1 rfl 1 rfl ?_
  refine m_iconst (v := 3) C dX8_addTriangle_2 (by decide) ?_
  refine m_iload_n C dX8_addTriangle_3 rfl 2 rfl ?_
  refine m_callSFi (As := [.int a]) (st := [.int 3, .int v, .ref o]) C (c_X8_isFar D A l M a) (va_cwS 1 C.1.2.2.2.2 gX8_addTriangle_X8_isFar rfl rfl rfl (by decide +kernel) ⟨Nat.le_of_ble_eq_true rfl, Nat.le_of_ble_eq_true rfl⟩) rfl rfl (Nat.le_of_ble_eq_true rfl) dX8_addTriangle_4 ⟨Nat.le_of_ble_eq_true rfl, Nat.le_of_ble_eq_true rfl⟩ ?_
  refine m_if_ne (tgt := 53) C dX8_addTriangle_7 (by decide) (fun h_1 => ?_) (fun h_1 => ?_)
  · have h_1 := bI_n h_1
    refine m_iconst (v := 0) C dX8_addTriangle_53 (by decide) ?_
    refine m_bipush (v := 6) C dX8_addTriangle_54 (by decide) ?_
    refine r_newI C hR (by decide +kernel) 6 rfl (by decide) (by decide) (by decide) dX8_addTriangle_56 (fun q_2 M hqq_2 hR => ?_)
    have hF : m_up F q_2 (.inl (D.2.1 0, 6, .inl (fun _ => 0))) q_2 = some (.inl (D.2.1 0, 6, .inl (fun _ => 0))) := m_up_s
    refine m_dup C dX8_addTriangle_58 rfl ?_
    refine m_iconst (v := 0) C dX8_addTriangle_59 (by decide) ?_
    refine m_iload_n C dX8_addTriangle_60 rfl 2 rfl ?_
    refine r_iastF C hR hF 0 (by decide) (by decide) rfl dX8_addTriangle_61 (fun M hR => ?_)
    rw [m_up_up] at hR
    have hF : m_up F q_2 (.inl (D.2.1 0, 6, .inl (upd (fun _ => 0) 0 a))) q_2 = some (.inl (D.2.1 0, 6, .inl (upd (fun _ => 0) 0 a))) := m_up_s
    refine m_dup C dX8_addTriangle_62 rfl ?_
    refine m_iconst (v := 1) C dX8_addTriangle_63 (by decide) ?_
    refine m_iload_n C dX8_addTriangle_64 rfl 3 rfl ?_
    refine r_iastF C hR hF 1 (by decide) (by decide) rfl dX8_addTriangle_65 (fun M hR => ?_)
    rw [m_up_up] at hR
    have hF : m_up F q_2 (.inl (D.2.1 0, 6, .inl (upd (upd (fun _ => 0) 0 a) 1 b))) q_2 = some (.inl (D.2.1 0, 6, .inl (upd (upd (fun _ => 0) 0 a) 1 b))) := m_up_s
    refine m_dup C dX8_addTriangle_66 rfl ?_
    refine m_iconst (v := 2) C dX8_addTriangle_67 (by decide) ?_
    refine m_iload C dX8_addTriangle_68 4 rfl ?_
    refine r_iastF C hR hF 2 (by decide) (by decide) rfl dX8_addTriangle_70 (fun M hR => ?_)
    rw [m_up_up] at hR
    have hF : m_up F q_2 (.inl (D.2.1 0, 6, .inl (upd (upd (upd (fun _ => 0) 0 a) 1 b) 2 a2))) q_2 = some (.inl (D.2.1 0, 6, .inl (upd (upd (upd (fun _ => 0) 0 a) 1 b) 2 a2))) := m_up_s
    refine m_dup C dX8_addTriangle_71 rfl ?_
    refine m_iconst (v := 3) C dX8_addTriangle_72 (by decide) ?_
    refine m_iload C dX8_addTriangle_73 5 rfl ?_
    refine r_iastF C hR hF 3 (by decide) (by decide) rfl dX8_addTriangle_75 (fun M hR => ?_)
    rw [m_up_up] at hR
    have hF : m_up F q_2 (.inl (D.2.1 0, 6, .inl (upd (upd (upd (upd (fun _ => 0) 0 a) 1 b) 2 a2) 3 b2))) q_2 = some (.inl (D.2.1 0, 6, .inl (upd (upd (upd (upd (fun _ => 0) 0 a) 1 b) 2 a2) 3 b2))) := m_up_s
    refine m_dup C dX8_addTriangle_76 rfl ?_
    refine m_iconst (v := 4) C dX8_addTriangle_77 (by decide) ?_
    refine m_iload C dX8_addTriangle_78 6 rfl ?_
    refine r_iastF C hR hF 4 (by decide) (by decide) rfl dX8_addTriangle_80 (fun M hR => ?_)
    rw [m_up_up] at hR
    have hF : m_up F q_2 (.inl (D.2.1 0, 6, .inl (upd (upd (upd (upd (upd (fun _ => 0) 0 a) 1 b) 2 a2) 3 b2) 4 a3))) q_2 = some (.inl (D.2.1 0, 6, .inl (upd (upd (upd (upd (upd (fun _ => 0) 0 a) 1 b) 2 a2) 3 b2) 4 a3))) := m_up_s
    refine m_dup C dX8_addTriangle_81 rfl ?_
    refine m_iconst (v := 5) C dX8_addTriangle_82 (by decide) ?_
    refine m_iload C dX8_addTriangle_83 7 rfl ?_
    refine r_iastF C hR hF 5 (by decide) (by decide) rfl dX8_addTriangle_85 (fun M hR => ?_)
    rw [m_up_up] at hR
    have hF : m_up F q_2 (.inl (D.2.1 0, 6, .inl (upd (upd (upd (upd (upd (upd (fun _ => 0) 0 a) 1 b) 2 a2) 3 b2) 4 a3) 5 b3))) q_2 = some (.inl (D.2.1 0, 6, .inl (upd (upd (upd (upd (upd (upd (fun _ => 0) 0 a) 1 b) 2 a2) 3 b2) 4 a3) 5 b3))) := m_up_s
    refine m_callVi (As := [.int v, .int 3, .int 0, .ref q_2]) (st := []) C hR.1 rfl (c_X8_add D A l hR hw.1 (wf_hmn hw) (v := v) (so := 3) (ok := false) hF (by decide)) (cwV 4 C.1.2.2.2.2 gX8_addTriangle_X8_add rfl rfl rfl (by decide +kernel) ⟨Nat.le_of_ble_eq_true rfl, Nat.le_of_ble_eq_true rfl⟩) rfl rfl (Nat.le_of_ble_eq_true rfl) dX8_addTriangle_86 ⟨by decide, by decide⟩ (fun r M hq9 => ?_)
    exact m_iret C (by decide) (by decide) dX8_addTriangle_89 (by have hok : q_okT a b a2 b2 a3 b3 = false := (by simp [q_okT, h_1]); rw [hok]; exact ⟨fun z => ⟨(hq9.1 z).1, (hq9.1 z).2.back hqq_2⟩, fun z => ⟨(hq9.2 z).1, by rw [q_sh6]; exact (hq9.2 z).2.back hqq_2⟩⟩)
  · have h_1 := bI_z h_1
    refine m_iload_n C dX8_addTriangle_10 rfl 3 rfl ?_
    refine m_callSFi (As := [.int b]) (st := [.int 3, .int v, .ref o]) C (c_X8_isFar D A l M b) (va_cwS 1 C.1.2.2.2.2 gX8_addTriangle_X8_isFar rfl rfl rfl (by decide +kernel) ⟨Nat.le_of_ble_eq_true rfl, Nat.le_of_ble_eq_true rfl⟩) rfl rfl (Nat.le_of_ble_eq_true rfl) dX8_addTriangle_11 ⟨Nat.le_of_ble_eq_true rfl, Nat.le_of_ble_eq_true rfl⟩ ?_
    refine m_if_ne (tgt := 53) C dX8_addTriangle_14 (by decide) (fun h_3 => ?_) (fun h_3 => ?_)
    · have h_3 := bI_n h_3
      refine m_iconst (v := 0) C dX8_addTriangle_53 (by decide) ?_
      refine m_bipush (v := 6) C dX8_addTriangle_54 (by decide) ?_
      refine r_newI C hR (by decide +kernel) 6 rfl (by decide) (by decide) (by decide) dX8_addTriangle_56 (fun q_4 M hqq_4 hR => ?_)
      have hF : m_up F q_4 (.inl (D.2.1 0, 6, .inl (fun _ => 0))) q_4 = some (.inl (D.2.1 0, 6, .inl (fun _ => 0))) := m_up_s
      refine m_dup C dX8_addTriangle_58 rfl ?_
      refine m_iconst (v := 0) C dX8_addTriangle_59 (by decide) ?_
      refine m_iload_n C dX8_addTriangle_60 rfl 2 rfl ?_
      refine r_iastF C hR hF 0 (by decide) (by decide) rfl dX8_addTriangle_61 (fun M hR => ?_)
      rw [m_up_up] at hR
      have hF : m_up F q_4 (.inl (D.2.1 0, 6, .inl (upd (fun _ => 0) 0 a))) q_4 = some (.inl (D.2.1 0, 6, .inl (upd (fun _ => 0) 0 a))) := m_up_s
      refine m_dup C dX8_addTriangle_62 rfl ?_
      refine m_iconst (v := 1) C dX8_addTriangle_63 (by decide) ?_
      refine m_iload_n C dX8_addTriangle_64 rfl 3 rfl ?_
      refine r_iastF C hR hF 1 (by decide) (by decide) rfl dX8_addTriangle_65 (fun M hR => ?_)
      rw [m_up_up] at hR
      have hF : m_up F q_4 (.inl (D.2.1 0, 6, .inl (upd (upd (fun _ => 0) 0 a) 1 b))) q_4 = some (.inl (D.2.1 0, 6, .inl (upd (upd (fun _ => 0) 0 a) 1 b))) := m_up_s
      refine m_dup C dX8_addTriangle_66 rfl ?_
      refine m_iconst (v := 2) C dX8_addTriangle_67 (by decide) ?_
      refine m_iload C dX8_addTriangle_68 4 rfl ?_
      refine r_iastF C hR hF 2 (by decide) (by decide) rfl dX8_addTriangle_70 (fun M hR => ?_)
      rw [m_up_up] at hR
      have hF : m_up F q_4 (.inl (D.2.1 0, 6, .inl (upd (upd (upd (fun _ => 0) 0 a) 1 b) 2 a2))) q_4 = some (.inl (D.2.1 0, 6, .inl (upd (upd (upd (fun _ => 0) 0 a) 1 b) 2 a2))) := m_up_s
      refine m_dup C dX8_addTriangle_71 rfl ?_
      refine m_iconst (v := 3) C dX8_addTriangle_72 (by decide) ?_
      refine m_iload C dX8_addTriangle_73 5 rfl ?_
      refine r_iastF C hR hF 3 (by decide) (by decide) rfl dX8_addTriangle_75 (fun M hR => ?_)
      rw [m_up_up] at hR
      have hF : m_up F q_4 (.inl (D.2.1 0, 6, .inl (upd (upd (upd (upd (fun _ => 0) 0 a) 1 b) 2 a2) 3 b2))) q_4 = some (.inl (D.2.1 0, 6, .inl (upd (upd (upd (upd (fun _ => 0) 0 a) 1 b) 2 a2) 3 b2))) := m_up_s
      refine m_dup C dX8_addTriangle_76 rfl ?_
      refine m_iconst (v := 4) C dX8_addTriangle_77 (by decide) ?_
      refine m_iload C dX8_addTriangle_78 6 rfl ?_
      refine r_iastF C hR hF 4 (by decide) (by decide) rfl dX8_addTriangle_80 (fun M hR => ?_)
      rw [m_up_up] at hR
      have hF : m_up F q_4 (.inl (D.2.1 0, 6, .inl (upd (upd (upd (upd (upd (fun _ => 0) 0 a) 1 b) 2 a2) 3 b2) 4 a3))) q_4 = some (.inl (D.2.1 0, 6, .inl (upd (upd (upd (upd (upd (fun _ => 0) 0 a) 1 b) 2 a2) 3 b2) 4 a3))) := m_up_s
      refine m_dup C dX8_addTriangle_81 rfl ?_
      refine m_iconst (v := 5) C dX8_addTriangle_82 (by decide) ?_
      refine m_iload C dX8_addTriangle_83 7 rfl ?_
      refine r_iastF C hR hF 5 (by decide) (by decide) rfl dX8_addTriangle_85 (fun M hR => ?_)
      rw [m_up_up] at hR
      have hF : m_up F q_4 (.inl (D.2.1 0, 6, .inl (upd (upd (upd (upd (upd (upd (fun _ => 0) 0 a) 1 b) 2 a2) 3 b2) 4 a3) 5 b3))) q_4 = some (.inl (D.2.1 0, 6, .inl (upd (upd (upd (upd (upd (upd (fun _ => 0) 0 a) 1 b) 2 a2) 3 b2) 4 a3) 5 b3))) := m_up_s
      refine m_callVi (As := [.int v, .int 3, .int 0, .ref q_4]) (st := []) C hR.1 rfl (c_X8_add D A l hR hw.1 (wf_hmn hw) (v := v) (so := 3) (ok := false) hF (by decide)) (cwV 4 C.1.2.2.2.2 gX8_addTriangle_X8_add rfl rfl rfl (by decide +kernel) ⟨Nat.le_of_ble_eq_true rfl, Nat.le_of_ble_eq_true rfl⟩) rfl rfl (Nat.le_of_ble_eq_true rfl) dX8_addTriangle_86 ⟨by decide, by decide⟩ (fun r M hq9 => ?_)
      exact m_iret C (by decide) (by decide) dX8_addTriangle_89 (by have hok : q_okT a b a2 b2 a3 b3 = false := (by simp [q_okT, h_1, h_3]); rw [hok]; exact ⟨fun z => ⟨(hq9.1 z).1, (hq9.1 z).2.back hqq_4⟩, fun z => ⟨(hq9.2 z).1, by rw [q_sh6]; exact (hq9.2 z).2.back hqq_4⟩⟩)
    · have h_3 := bI_z h_3
      refine m_iload C dX8_addTriangle_17 4 rfl ?_
      refine m_callSFi (As := [.int a2]) (st := [.int 3, .int v, .ref o]) C (c_X8_isFar D A l M a2) (va_cwS 1 C.1.2.2.2.2 gX8_addTriangle_X8_isFar rfl rfl rfl (by decide +kernel) ⟨Nat.le_of_ble_eq_true rfl, Nat.le_of_ble_eq_true rfl⟩) rfl rfl (Nat.le_of_ble_eq_true rfl) dX8_addTriangle_19 ⟨Nat.le_of_ble_eq_true rfl, Nat.le_of_ble_eq_true rfl⟩ ?_
      refine m_if_ne (tgt := 53) C dX8_addTriangle_22 (by decide) (fun h_5 => ?_) (fun h_5 => ?_)
      · have h_5 := bI_n h_5
        refine m_iconst (v := 0) C dX8_addTriangle_53 (by decide) ?_
        refine m_bipush (v := 6) C dX8_addTriangle_54 (by decide) ?_
        refine r_newI C hR (by decide +kernel) 6 rfl (by decide) (by decide) (by decide) dX8_addTriangle_56 (fun q_6 M hqq_6 hR => ?_)
        have hF : m_up F q_6 (.inl (D.2.1 0, 6, .inl (fun _ => 0))) q_6 = some (.inl (D.2.1 0, 6, .inl (fun _ => 0))) := m_up_s
        refine m_dup C dX8_addTriangle_58 rfl ?_
        refine m_iconst (v := 0) C dX8_addTriangle_59 (by decide) ?_
        refine m_iload_n C dX8_addTriangle_60 rfl 2 rfl ?_
        refine r_iastF C hR hF 0 (by decide) (by decide) rfl dX8_addTriangle_61 (fun M hR => ?_)
        rw [m_up_up] at hR
        have hF : m_up F q_6 (.inl (D.2.1 0, 6, .inl (upd (fun _ => 0) 0 a))) q_6 = some (.inl (D.2.1 0, 6, .inl (upd (fun _ => 0) 0 a))) := m_up_s
        refine m_dup C dX8_addTriangle_62 rfl ?_
        refine m_iconst (v := 1) C dX8_addTriangle_63 (by decide) ?_
        refine m_iload_n C dX8_addTriangle_64 rfl 3 rfl ?_
        refine r_iastF C hR hF 1 (by decide) (by decide) rfl dX8_addTriangle_65 (fun M hR => ?_)
        rw [m_up_up] at hR
        have hF : m_up F q_6 (.inl (D.2.1 0, 6, .inl (upd (upd (fun _ => 0) 0 a) 1 b))) q_6 = some (.inl (D.2.1 0, 6, .inl (upd (upd (fun _ => 0) 0 a) 1 b))) := m_up_s
        refine m_dup C dX8_addTriangle_66 rfl ?_
        refine m_iconst (v := 2) C dX8_addTriangle_67 (by decide) ?_
        refine m_iload C dX8_addTriangle_68 4 rfl ?_
        refine r_iastF C hR hF 2 (by decide) (by decide) rfl dX8_addTriangle_70 (fun M hR => ?_)
        rw [m_up_up] at hR
        have hF : m_up F q_6 (.inl (D.2.1 0, 6, .inl (upd (upd (upd (fun _ => 0) 0 a) 1 b) 2 a2))) q_6 = some (.inl (D.2.1 0, 6, .inl (upd (upd (upd (fun _ => 0) 0 a) 1 b) 2 a2))) := m_up_s
        refine m_dup C dX8_addTriangle_71 rfl ?_
        refine m_iconst (v := 3) C dX8_addTriangle_72 (by decide) ?_
        refine m_iload C dX8_addTriangle_73 5 rfl ?_
        refine r_iastF C hR hF 3 (by decide) (by decide) rfl dX8_addTriangle_75 (fun M hR => ?_)
        rw [m_up_up] at hR
        have hF : m_up F q_6 (.inl (D.2.1 0, 6, .inl (upd (upd (upd (upd (fun _ => 0) 0 a) 1 b) 2 a2) 3 b2))) q_6 = some (.inl (D.2.1 0, 6, .inl (upd (upd (upd (upd (fun _ => 0) 0 a) 1 b) 2 a2) 3 b2))) := m_up_s
        refine m_dup C dX8_addTriangle_76 rfl ?_
        refine m_iconst (v := 4) C dX8_addTriangle_77 (by decide) ?_
        refine m_iload C dX8_addTriangle_78 6 rfl ?_
        refine r_iastF C hR hF 4 (by decide) (by decide) rfl dX8_addTriangle_80 (fun M hR => ?_)
        rw [m_up_up] at hR
        have hF : m_up F q_6 (.inl (D.2.1 0, 6, .inl (upd (upd (upd (upd (upd (fun _ => 0) 0 a) 1 b) 2 a2) 3 b2) 4 a3))) q_6 = some (.inl (D.2.1 0, 6, .inl (upd (upd (upd (upd (upd (fun _ => 0) 0 a) 1 b) 2 a2) 3 b2) 4 a3))) := m_up_s
        refine m_dup C dX8_addTriangle_81 rfl ?_
        refine m_iconst (v := 5) C dX8_addTriangle_82 (by decide) ?_
        refine m_iload C dX8_addTriangle_83 7 rfl ?_
        refine r_iastF C hR hF 5 (by decide) (by decide) rfl dX8_addTriangle_85 (fun M hR => ?_)
        rw [m_up_up] at hR
        have hF : m_up F q_6 (.inl (D.2.1 0, 6, .inl (upd (upd (upd (upd (upd (upd (fun _ => 0) 0 a) 1 b) 2 a2) 3 b2) 4 a3) 5 b3))) q_6 = some (.inl (D.2.1 0, 6, .inl (upd (upd (upd (upd (upd (upd (fun _ => 0) 0 a) 1 b) 2 a2) 3 b2) 4 a3) 5 b3))) := m_up_s
        refine m_callVi (As := [.int v, .int 3, .int 0, .ref q_6]) (st := []) C hR.1 rfl (c_X8_add D A l hR hw.1 (wf_hmn hw) (v := v) (so := 3) (ok := false) hF (by decide)) (cwV 4 C.1.2.2.2.2 gX8_addTriangle_X8_add rfl rfl rfl (by decide +kernel) ⟨Nat.le_of_ble_eq_true rfl, Nat.le_of_ble_eq_true rfl⟩) rfl rfl (Nat.le_of_ble_eq_true rfl) dX8_addTriangle_86 ⟨by decide, by decide⟩ (fun r M hq9 => ?_)
        exact m_iret C (by decide) (by decide) dX8_addTriangle_89 (by have hok : q_okT a b a2 b2 a3 b3 = false := (by simp [q_okT, h_1, h_3, h_5]); rw [hok]; exact ⟨fun z => ⟨(hq9.1 z).1, (hq9.1 z).2.back hqq_6⟩, fun z => ⟨(hq9.2 z).1, by rw [q_sh6]; exact (hq9.2 z).2.back hqq_6⟩⟩)
      · have h_5 := bI_z h_5
        refine m_iload C dX8_addTriangle_25 5 rfl ?_
        refine m_callSFi (As := [.int b2]) (st := [.int 3, .int v, .ref o]) C (c_X8_isFar D A l M b2) (va_cwS 1 C.1.2.2.2.2 gX8_addTriangle_X8_isFar rfl rfl rfl (by decide +kernel) ⟨Nat.le_of_ble_eq_true rfl, Nat.le_of_ble_eq_true rfl⟩) rfl rfl (Nat.le_of_ble_eq_true rfl) dX8_addTriangle_27 ⟨Nat.le_of_ble_eq_true rfl, Nat.le_of_ble_eq_true rfl⟩ ?_
        refine m_if_ne (tgt := 53) C dX8_addTriangle_30 (by decide) (fun h_7 => ?_) (fun h_7 => ?_)
        · have h_7 := bI_n h_7
          refine m_iconst (v := 0) C dX8_addTriangle_53 (by decide) ?_
          refine m_bipush (v := 6) C dX8_addTriangle_54 (by decide) ?_
          refine r_newI C hR (by decide +kernel) 6 rfl (by decide) (by decide) (by decide) dX8_addTriangle_56 (fun q_8 M hqq_8 hR => ?_)
          have hF : m_up F q_8 (.inl (D.2.1 0, 6, .inl (fun _ => 0))) q_8 = some (.inl (D.2.1 0, 6, .inl (fun _ => 0))) := m_up_s
          refine m_dup C dX8_addTriangle_58 rfl ?_
          refine m_iconst (v := 0) C dX8_addTriangle_59 (by decide) ?_
          refine m_iload_n C dX8_addTriangle_60 rfl 2 rfl ?_
          refine r_iastF C hR hF 0 (by decide) (by decide) rfl dX8_addTriangle_61 (fun M hR => ?_)
          rw [m_up_up] at hR
          have hF : m_up F q_8 (.inl (D.2.1 0, 6, .inl (upd (fun _ => 0) 0 a))) q_8 = some (.inl (D.2.1 0, 6, .inl (upd (fun _ => 0) 0 a))) := m_up_s
          refine m_dup C dX8_addTriangle_62 rfl ?_
          refine m_iconst (v := 1) C dX8_addTriangle_63 (by decide) ?_
          refine m_iload_n C dX8_addTriangle_64 rfl 3 rfl ?_
          refine r_iastF C hR hF 1 (by decide) (by decide) rfl dX8_addTriangle_65 (fun M hR => ?_)
          rw [m_up_up] at hR
          have hF : m_up F q_8 (.inl (D.2.1 0, 6, .inl (upd (upd (fun _ => 0) 0 a) 1 b))) q_8 = some (.inl (D.2.1 0, 6, .inl (upd (upd (fun _ => 0) 0 a) 1 b))) := m_up_s
          refine m_dup C dX8_addTriangle_66 rfl ?_
          refine m_iconst (v := 2) C dX8_addTriangle_67 (by decide) ?_
          refine m_iload C dX8_addTriangle_68 4 rfl ?_
          refine r_iastF C hR hF 2 (by decide) (by decide) rfl dX8_addTriangle_70 (fun M hR => ?_)
          rw [m_up_up] at hR
          have hF : m_up F q_8 (.inl (D.2.1 0, 6, .inl (upd (upd (upd (fun _ => 0) 0 a) 1 b) 2 a2))) q_8 = some (.inl (D.2.1 0, 6, .inl (upd (upd (upd (fun _ => 0) 0 a) 1 b) 2 a2))) := m_up_s
          refine m_dup C dX8_addTriangle_71 rfl ?_
          refine m_iconst (v := 3) C dX8_addTriangle_72 (by decide) ?_
          refine m_iload C dX8_addTriangle_73 5 rfl ?_
          refine r_iastF C hR hF 3 (by decide) (by decide) rfl dX8_addTriangle_75 (fun M hR => ?_)
          rw [m_up_up] at hR
          have hF : m_up F q_8 (.inl (D.2.1 0, 6, .inl (upd (upd (upd (upd (fun _ => 0) 0 a) 1 b) 2 a2) 3 b2))) q_8 = some (.inl (D.2.1 0, 6, .inl (upd (upd (upd (upd (fun _ => 0) 0 a) 1 b) 2 a2) 3 b2))) := m_up_s
          refine m_dup C dX8_addTriangle_76 rfl ?_
          refine m_iconst (v := 4) C dX8_addTriangle_77 (by decide) ?_
          refine m_iload C dX8_addTriangle_78 6 rfl ?_
          refine r_iastF C hR hF 4 (by decide) (by decide) rfl dX8_addTriangle_80 (fun M hR => ?_)
          rw [m_up_up] at hR
          have hF : m_up F q_8 (.inl (D.2.1 0, 6, .inl (upd (upd (upd (upd (upd (fun _ => 0) 0 a) 1 b) 2 a2) 3 b2) 4 a3))) q_8 = some (.inl (D.2.1 0, 6, .inl (upd (upd (upd (upd (upd (fun _ => 0) 0 a) 1 b) 2 a2) 3 b2) 4 a3))) := m_up_s
          refine m_dup C dX8_addTriangle_81 rfl ?_
          refine m_iconst (v := 5) C dX8_addTriangle_82 (by decide) ?_
          refine m_iload C dX8_addTriangle_83 7 rfl ?_
          refine r_iastF C hR hF 5 (by decide) (by decide) rfl dX8_addTriangle_85 (fun M hR => ?_)
          rw [m_up_up] at hR
          have hF : m_up F q_8 (.inl (D.2.1 0, 6, .inl (upd (upd (upd (upd (upd (upd (fun _ => 0) 0 a) 1 b) 2 a2) 3 b2) 4 a3) 5 b3))) q_8 = some (.inl (D.2.1 0, 6, .inl (upd (upd (upd (upd (upd (upd (fun _ => 0) 0 a) 1 b) 2 a2) 3 b2) 4 a3) 5 b3))) := m_up_s
          refine m_callVi (As := [.int v, .int 3, .int 0, .ref q_8]) (st := []) C hR.1 rfl (c_X8_add D A l hR hw.1 (wf_hmn hw) (v := v) (so := 3) (ok := false) hF (by decide)) (cwV 4 C.1.2.2.2.2 gX8_addTriangle_X8_add rfl rfl rfl (by decide +kernel) ⟨Nat.le_of_ble_eq_true rfl, Nat.le_of_ble_eq_true rfl⟩) rfl rfl (Nat.le_of_ble_eq_true rfl) dX8_addTriangle_86 ⟨by decide, by decide⟩ (fun r M hq9 => ?_)
          exact m_iret C (by decide) (by decide) dX8_addTriangle_89 (by have hok : q_okT a b a2 b2 a3 b3 = false := (by simp [q_okT, h_1, h_3, h_5, h_7]); rw [hok]; exact ⟨fun z => ⟨(hq9.1 z).1, (hq9.1 z).2.back hqq_8⟩, fun z => ⟨(hq9.2 z).1, by rw [q_sh6]; exact (hq9.2 z).2.back hqq_8⟩⟩)
        · have h_7 := bI_z h_7
          refine m_iload C dX8_addTriangle_33 6 rfl ?_
          refine m_callSFi (As := [.int a3]) (st := [.int 3, .int v, .ref o]) C (c_X8_isFar D A l M a3) (va_cwS 1 C.1.2.2.2.2 gX8_addTriangle_X8_isFar rfl rfl rfl (by decide +kernel) ⟨Nat.le_of_ble_eq_true rfl, Nat.le_of_ble_eq_true rfl⟩) rfl rfl (Nat.le_of_ble_eq_true rfl) dX8_addTriangle_35 ⟨Nat.le_of_ble_eq_true rfl, Nat.le_of_ble_eq_true rfl⟩ ?_
          refine m_if_ne (tgt := 53) C dX8_addTriangle_38 (by decide) (fun h_9 => ?_) (fun h_9 => ?_)
          · have h_9 := bI_n h_9
            refine m_iconst (v := 0) C dX8_addTriangle_53 (by decide) ?_
            refine m_bipush (v := 6) C dX8_addTriangle_54 (by decide) ?_
            refine r_newI C hR (by decide +kernel) 6 rfl (by decide) (by decide) (by decide) dX8_addTriangle_56 (fun q_10 M hqq_10 hR => ?_)
            have hF : m_up F q_10 (.inl (D.2.1 0, 6, .inl (fun _ => 0))) q_10 = some (.inl (D.2.1 0, 6, .inl (fun _ => 0))) := m_up_s
            refine m_dup C dX8_addTriangle_58 rfl ?_
            refine m_iconst (v := 0) C dX8_addTriangle_59 (by decide) ?_
            refine m_iload_n C dX8_addTriangle_60 rfl 2 rfl ?_
            refine r_iastF C hR hF 0 (by decide) (by decide) rfl dX8_addTriangle_61 (fun M hR => ?_)
            rw [m_up_up] at hR
            have hF : m_up F q_10 (.inl (D.2.1 0, 6, .inl (upd (fun _ => 0) 0 a))) q_10 = some (.inl (D.2.1 0, 6, .inl (upd (fun _ => 0) 0 a))) := m_up_s
            refine m_dup C dX8_addTriangle_62 rfl ?_
            refine m_iconst (v := 1) C dX8_addTriangle_63 (by decide) ?_
            refine m_iload_n C dX8_addTriangle_64 rfl 3 rfl ?_
            refine r_iastF C hR hF 1 (by decide) (by decide) rfl dX8_addTriangle_65 (fun M hR => ?_)
            rw [m_up_up] at hR
            have hF : m_up F q_10 (.inl (D.2.1 0, 6, .inl (upd (upd (fun _ => 0) 0 a) 1 b))) q_10 = some (.inl (D.2.1 0, 6, .inl (upd (upd (fun _ => 0) 0 a) 1 b))) := m_up_s
            refine m_dup C dX8_addTriangle_66 rfl ?_
            refine m_iconst (v := 2) C dX8_addTriangle_67 (by decide) ?_
            refine m_iload C dX8_addTriangle_68 4 rfl ?_
            refine r_iastF C hR hF 2 (by decide) (by decide) rfl dX8_addTriangle_70 (fun M hR => ?_)
            rw [m_up_up] at hR
            have hF : m_up F q_10 (.inl (D.2.1 0, 6, .inl (upd (upd (upd (fun _ => 0) 0 a) 1 b) 2 a2))) q_10 = some (.inl (D.2.1 0, 6, .inl (upd (upd (upd (fun _ => 0) 0 a) 1 b) 2 a2))) := m_up_s
            refine m_dup C dX8_addTriangle_71 rfl ?_
            refine m_iconst (v := 3) C dX8_addTriangle_72 (by decide) ?_
            refine m_iload C dX8_addTriangle_73 5 rfl ?_
            refine r_iastF C hR hF 3 (by decide) (by decide) rfl dX8_addTriangle_75 (fun M hR => ?_)
            rw [m_up_up] at hR
            have hF : m_up F q_10 (.inl (D.2.1 0, 6, .inl (upd (upd (upd (upd (fun _ => 0) 0 a) 1 b) 2 a2) 3 b2))) q_10 = some (.inl (D.2.1 0, 6, .inl (upd (upd (upd (upd (fun _ => 0) 0 a) 1 b) 2 a2) 3 b2))) := m_up_s
            refine m_dup C dX8_addTriangle_76 rfl ?_
            refine m_iconst (v := 4) C dX8_addTriangle_77 (by decide) ?_
            refine m_iload C dX8_addTriangle_78 6 rfl ?_
            refine r_iastF C hR hF 4 (by decide) (by decide) rfl dX8_addTriangle_80 (fun M hR => ?_)
            rw [m_up_up] at hR
            have hF : m_up F q_10 (.inl (D.2.1 0, 6, .inl (upd (upd (upd (upd (upd (fun _ => 0) 0 a) 1 b) 2 a2) 3 b2) 4 a3))) q_10 = some (.inl (D.2.1 0, 6, .inl (upd (upd (upd (upd (upd (fun _ => 0) 0 a) 1 b) 2 a2) 3 b2) 4 a3))) := m_up_s
            refine m_dup C dX8_addTriangle_81 rfl ?_
            refine m_iconst (v := 5) C dX8_addTriangle_82 (by decide) ?_
            refine m_iload C dX8_addTriangle_83 7 rfl ?_
            refine r_iastF C hR hF 5 (by decide) (by decide) rfl dX8_addTriangle_85 (fun M hR => ?_)
            rw [m_up_up] at hR
            have hF : m_up F q_10 (.inl (D.2.1 0, 6, .inl (upd (upd (upd (upd (upd (upd (fun _ => 0) 0 a) 1 b) 2 a2) 3 b2) 4 a3) 5 b3))) q_10 = some (.inl (D.2.1 0, 6, .inl (upd (upd (upd (upd (upd (upd (fun _ => 0) 0 a) 1 b) 2 a2) 3 b2) 4 a3) 5 b3))) := m_up_s
            refine m_callVi (As := [.int v, .int 3, .int 0, .ref q_10]) (st := []) C hR.1 rfl (c_X8_add D A l hR hw.1 (wf_hmn hw) (v := v) (so := 3) (ok := false) hF (by decide)) (cwV 4 C.1.2.2.2.2 gX8_addTriangle_X8_add rfl rfl rfl (by decide +kernel) ⟨Nat.le_of_ble_eq_true rfl, Nat.le_of_ble_eq_true rfl⟩) rfl rfl (Nat.le_of_ble_eq_true rfl) dX8_addTriangle_86 ⟨by decide, by decide⟩ (fun r M hq9 => ?_)
            exact m_iret C (by decide) (by decide) dX8_addTriangle_89 (by have hok : q_okT a b a2 b2 a3 b3 = false := (by simp [q_okT, h_1, h_3, h_5, h_7, h_9]); rw [hok]; exact ⟨fun z => ⟨(hq9.1 z).1, (hq9.1 z).2.back hqq_10⟩, fun z => ⟨(hq9.2 z).1, by rw [q_sh6]; exact (hq9.2 z).2.back hqq_10⟩⟩)
          · have h_9 := bI_z h_9
            refine m_iload C dX8_addTriangle_41 7 rfl ?_
            refine m_callSFi (As := [.int b3]) (st := [.int 3, .int v, .ref o]) C (c_X8_isFar D A l M b3) (va_cwS 1 C.1.2.2.2.2 gX8_addTriangle_X8_isFar rfl rfl rfl (by decide +kernel) ⟨Nat.le_of_ble_eq_true rfl, Nat.le_of_ble_eq_true rfl⟩) rfl rfl (Nat.le_of_ble_eq_true rfl) dX8_addTriangle_43 ⟨Nat.le_of_ble_eq_true rfl, Nat.le_of_ble_eq_true rfl⟩ ?_
            refine m_if_ne (tgt := 53) C dX8_addTriangle_46 (by decide) (fun h_11 => ?_) (fun h_11 => ?_)
            · have h_11 := bI_n h_11
              refine m_iconst (v := 0) C dX8_addTriangle_53 (by decide) ?_
              refine m_bipush (v := 6) C dX8_addTriangle_54 (by decide) ?_
              refine r_newI C hR (by decide +kernel) 6 rfl (by decide) (by decide) (by decide) dX8_addTriangle_56 (fun q_12 M hqq_12 hR => ?_)
              have hF : m_up F q_12 (.inl (D.2.1 0, 6, .inl (fun _ => 0))) q_12 = some (.inl (D.2.1 0, 6, .inl (fun _ => 0))) := m_up_s
              refine m_dup C dX8_addTriangle_58 rfl ?_
              refine m_iconst (v := 0) C dX8_addTriangle_59 (by decide) ?_
              refine m_iload_n C dX8_addTriangle_60 rfl 2 rfl ?_
              refine r_iastF C hR hF 0 (by decide) (by decide) rfl dX8_addTriangle_61 (fun M hR => ?_)
              rw [m_up_up] at hR
              have hF : m_up F q_12 (.inl (D.2.1 0, 6, .inl (upd (fun _ => 0) 0 a))) q_12 = some (.inl (D.2.1 0, 6, .inl (upd (fun _ => 0) 0 a))) := m_up_s
              refine m_dup C dX8_addTriangle_62 rfl ?_
              refine m_iconst (v := 1) C dX8_addTriangle_63 (by decide) ?_
              refine m_iload_n C dX8_addTriangle_64 rfl 3 rfl ?_
              refine r_iastF C hR hF 1 (by decide) (by decide) rfl dX8_addTriangle_65 (fun M hR => ?_)
              rw [m_up_up] at hR
              have hF : m_up F q_12 (.inl (D.2.1 0, 6, .inl (upd (upd (fun _ => 0) 0 a) 1 b))) q_12 = some (.inl (D.2.1 0, 6, .inl (upd (upd (fun _ => 0) 0 a) 1 b))) := m_up_s
              refine m_dup C dX8_addTriangle_66 rfl ?_
              refine m_iconst (v := 2) C dX8_addTriangle_67 (by decide) ?_
              refine m_iload C dX8_addTriangle_68 4 rfl ?_
              refine r_iastF C hR hF 2 (by decide) (by decide) rfl dX8_addTriangle_70 (fun M hR => ?_)
              rw [m_up_up] at hR
              have hF : m_up F q_12 (.inl (D.2.1 0, 6, .inl (upd (upd (upd (fun _ => 0) 0 a) 1 b) 2 a2))) q_12 = some (.inl (D.2.1 0, 6, .inl (upd (upd (upd (fun _ => 0) 0 a) 1 b) 2 a2))) := m_up_s
              refine m_dup C dX8_addTriangle_71 rfl ?_
              refine m_iconst (v := 3) C dX8_addTriangle_72 (by decide) ?_
              refine m_iload C dX8_addTriangle_73 5 rfl ?_
              refine r_iastF C hR hF 3 (by decide) (by decide) rfl dX8_addTriangle_75 (fun M hR => ?_)
              rw [m_up_up] at hR
              have hF : m_up F q_12 (.inl (D.2.1 0, 6, .inl (upd (upd (upd (upd (fun _ => 0) 0 a) 1 b) 2 a2) 3 b2))) q_12 = some (.inl (D.2.1 0, 6, .inl (upd (upd (upd (upd (fun _ => 0) 0 a) 1 b) 2 a2) 3 b2))) := m_up_s
              refine m_dup C dX8_addTriangle_76 rfl ?_
              refine m_iconst (v := 4) C dX8_addTriangle_77 (by decide) ?_
              refine m_iload C dX8_addTriangle_78 6 rfl ?_
              refine r_iastF C hR hF 4 (by decide) (by decide) rfl dX8_addTriangle_80 (fun M hR => ?_)
              rw [m_up_up] at hR
              have hF : m_up F q_12 (.inl (D.2.1 0, 6, .inl (upd (upd (upd (upd (upd (fun _ => 0) 0 a) 1 b) 2 a2) 3 b2) 4 a3))) q_12 = some (.inl (D.2.1 0, 6, .inl (upd (upd (upd (upd (upd (fun _ => 0) 0 a) 1 b) 2 a2) 3 b2) 4 a3))) := m_up_s
              refine m_dup C dX8_addTriangle_81 rfl ?_
              refine m_iconst (v := 5) C dX8_addTriangle_82 (by decide) ?_
              refine m_iload C dX8_addTriangle_83 7 rfl ?_
              refine r_iastF C hR hF 5 (by decide) (by decide) rfl dX8_addTriangle_85 (fun M hR => ?_)
              rw [m_up_up] at hR
              have hF : m_up F q_12 (.inl (D.2.1 0, 6, .inl (upd (upd (upd (upd (upd (upd (fun _ => 0) 0 a) 1 b) 2 a2) 3 b2) 4 a3) 5 b3))) q_12 = some (.inl (D.2.1 0, 6, .inl (upd (upd (upd (upd (upd (upd (fun _ => 0) 0 a) 1 b) 2 a2) 3 b2) 4 a3) 5 b3))) := m_up_s
              refine m_callVi (As := [.int v, .int 3, .int 0, .ref q_12]) (st := []) C hR.1 rfl (c_X8_add D A l hR hw.1 (wf_hmn hw) (v := v) (so := 3) (ok := false) hF (by decide)) (cwV 4 C.1.2.2.2.2 gX8_addTriangle_X8_add rfl rfl rfl (by decide +kernel) ⟨Nat.le_of_ble_eq_true rfl, Nat.le_of_ble_eq_true rfl⟩) rfl rfl (Nat.le_of_ble_eq_true rfl) dX8_addTriangle_86 ⟨by decide, by decide⟩ (fun r M hq9 => ?_)
              exact m_iret C (by decide) (by decide) dX8_addTriangle_89 (by have hok : q_okT a b a2 b2 a3 b3 = false := (by simp [q_okT, h_1, h_3, h_5, h_7, h_9, h_11]); rw [hok]; exact ⟨fun z => ⟨(hq9.1 z).1, (hq9.1 z).2.back hqq_12⟩, fun z => ⟨(hq9.2 z).1, by rw [q_sh6]; exact (hq9.2 z).2.back hqq_12⟩⟩)
            · have h_11 := bI_z h_11
              refine m_iconst (v := 1) C dX8_addTriangle_49 (by decide) ?_
              refine m_goto (tgt := 54) C dX8_addTriangle_50 (by decide) ?_
              refine m_bipush (v := 6) C dX8_addTriangle_54 (by decide) ?_
              refine r_newI C hR (by decide +kernel) 6 rfl (by decide) (by decide) (by decide) dX8_addTriangle_56 (fun q_13 M hqq_13 hR => ?_)
              have hF : m_up F q_13 (.inl (D.2.1 0, 6, .inl (fun _ => 0))) q_13 = some (.inl (D.2.1 0, 6, .inl (fun _ => 0))) := m_up_s
              refine m_dup C dX8_addTriangle_58 rfl ?_
              refine m_iconst (v := 0) C dX8_addTriangle_59 (by decide) ?_
              refine m_iload_n C dX8_addTriangle_60 rfl 2 rfl ?_
              refine r_iastF C hR hF 0 (by decide) (by decide) rfl dX8_addTriangle_61 (fun M hR => ?_)
              rw [m_up_up] at hR
              have hF : m_up F q_13 (.inl (D.2.1 0, 6, .inl (upd (fun _ => 0) 0 a))) q_13 = some (.inl (D.2.1 0, 6, .inl (upd (fun _ => 0) 0 a))) := m_up_s
              refine m_dup C dX8_addTriangle_62 rfl ?_
              refine m_iconst (v := 1) C dX8_addTriangle_63 (by decide) ?_
              refine m_iload_n C dX8_addTriangle_64 rfl 3 rfl ?_
              refine r_iastF C hR hF 1 (by decide) (by decide) rfl dX8_addTriangle_65 (fun M hR => ?_)
              rw [m_up_up] at hR
              have hF : m_up F q_13 (.inl (D.2.1 0, 6, .inl (upd (upd (fun _ => 0) 0 a) 1 b))) q_13 = some (.inl (D.2.1 0, 6, .inl (upd (upd (fun _ => 0) 0 a) 1 b))) := m_up_s
              refine m_dup C dX8_addTriangle_66 rfl ?_
              refine m_iconst (v := 2) C dX8_addTriangle_67 (by decide) ?_
              refine m_iload C dX8_addTriangle_68 4 rfl ?_
              refine r_iastF C hR hF 2 (by decide) (by decide) rfl dX8_addTriangle_70 (fun M hR => ?_)
              rw [m_up_up] at hR
              have hF : m_up F q_13 (.inl (D.2.1 0, 6, .inl (upd (upd (upd (fun _ => 0) 0 a) 1 b) 2 a2))) q_13 = some (.inl (D.2.1 0, 6, .inl (upd (upd (upd (fun _ => 0) 0 a) 1 b) 2 a2))) := m_up_s
              refine m_dup C dX8_addTriangle_71 rfl ?_
              refine m_iconst (v := 3) C dX8_addTriangle_72 (by decide) ?_
              refine m_iload C dX8_addTriangle_73 5 rfl ?_
              refine r_iastF C hR hF 3 (by decide) (by decide) rfl dX8_addTriangle_75 (fun M hR => ?_)
              rw [m_up_up] at hR
              have hF : m_up F q_13 (.inl (D.2.1 0, 6, .inl (upd (upd (upd (upd (fun _ => 0) 0 a) 1 b) 2 a2) 3 b2))) q_13 = some (.inl (D.2.1 0, 6, .inl (upd (upd (upd (upd (fun _ => 0) 0 a) 1 b) 2 a2) 3 b2))) := m_up_s
              refine m_dup C dX8_addTriangle_76 rfl ?_
              refine m_iconst (v := 4) C dX8_addTriangle_77 (by decide) ?_
              refine m_iload C dX8_addTriangle_78 6 rfl ?_
              refine r_iastF C hR hF 4 (by decide) (by decide) rfl dX8_addTriangle_80 (fun M hR => ?_)
              rw [m_up_up] at hR
              have hF : m_up F q_13 (.inl (D.2.1 0, 6, .inl (upd (upd (upd (upd (upd (fun _ => 0) 0 a) 1 b) 2 a2) 3 b2) 4 a3))) q_13 = some (.inl (D.2.1 0, 6, .inl (upd (upd (upd (upd (upd (fun _ => 0) 0 a) 1 b) 2 a2) 3 b2) 4 a3))) := m_up_s
              refine m_dup C dX8_addTriangle_81 rfl ?_
              refine m_iconst (v := 5) C dX8_addTriangle_82 (by decide) ?_
              refine m_iload C dX8_addTriangle_83 7 rfl ?_
              refine r_iastF C hR hF 5 (by decide) (by decide) rfl dX8_addTriangle_85 (fun M hR => ?_)
              rw [m_up_up] at hR
              have hF : m_up F q_13 (.inl (D.2.1 0, 6, .inl (upd (upd (upd (upd (upd (upd (fun _ => 0) 0 a) 1 b) 2 a2) 3 b2) 4 a3) 5 b3))) q_13 = some (.inl (D.2.1 0, 6, .inl (upd (upd (upd (upd (upd (upd (fun _ => 0) 0 a) 1 b) 2 a2) 3 b2) 4 a3) 5 b3))) := m_up_s
              refine m_callVi (As := [.int v, .int 3, .int 1, .ref q_13]) (st := []) C hR.1 rfl (c_X8_add D A l hR hw.1 (wf_hmn hw) (v := v) (so := 3) (ok := true) hF (by decide)) (cwV 4 C.1.2.2.2.2 gX8_addTriangle_X8_add rfl rfl rfl (by decide +kernel) ⟨Nat.le_of_ble_eq_true rfl, Nat.le_of_ble_eq_true rfl⟩) rfl rfl (Nat.le_of_ble_eq_true rfl) dX8_addTriangle_86 ⟨by decide, by decide⟩ (fun r M hq9 => ?_)
              exact m_iret C (by decide) (by decide) dX8_addTriangle_89 (by have hok : q_okT a b a2 b2 a3 b3 = true := (by simp [q_okT, h_1, h_3, h_5, h_7, h_9, h_11]); rw [hok]; exact ⟨fun z => ⟨(hq9.1 z).1, (hq9.1 z).2.back hqq_13⟩, fun z => ⟨(hq9.2 z).1, by rw [q_sh6]; exact (hq9.2 z).2.back hqq_13⟩⟩)
