/-! ===== the reference: pixels ===== -/
set_option maxHeartbeats 4000000 in
set_option maxRecDepth 100000 in
theorem c_X8_isWithin_ (D : mD) (A : Nat → Prop) (l : Launch) {G : Nat → Nat} {o : Nat} {F : Mm} {t c0 g u : Int32} {arx : rA} {M : Mm} (hR : rW D G o F t c0 g u arx M) {f a : Nat} (hfA : r_isA f = true) (hfT : r_ty f = 0) (ha : a + 3 < r_len f) (x y : Int32) : mMi D A l yX8_isWithin_ wsX8_isWithin_ ({ frames := 1, cells := 0, slots := 0, locals := 30 } : Room) [.ref (G f), .int (nI a), .int x, .int y] M (fun r M' => M' = M ∧ r = bI (q_box (arx f) a x y)) 0 0 := by
  refine m_start (cc := cX8_isWithin_) (maxL := 4) (ret := (some .boolean)) (by decide) rfl (Nat.le_of_ble_eq_true rfl) ?_
  intro p e s m args below meth c C
  refine m_sub (L' := [(0, .ref (G f)), (1, .int (nI a)), (2, .int x), (3, .int y)]) [0, 1, 2, 3] rfl ?_
  refine m_iload_n C dX8_isWithin__0 rfl 2 rfl ?_
  refine m_aload_n C dX8_isWithin__1 rfl 0 rfl ?_
  refine m_iload_n C dX8_isWithin__2 rfl 1 rfl ?_
  refine r_iald C hR f hfA hfT a (show a < r_len f by omega) (rfl) dX8_isWithin__3 ?_
  refine m_aload_n C dX8_isWithin__4 rfl 0 rfl ?_
  refine m_iload_n C dX8_isWithin__5 rfl 1 rfl ?_
  refine r_iald C hR f hfA hfT a (show a < r_len f by omega) (rfl) dX8_isWithin__6 ?_
  refine m_aload_n C dX8_isWithin__7 rfl 0 rfl ?_
  refine m_iload_n C dX8_isWithin__8 rfl 1 rfl ?_
  refine m_iconst (v := 2) C dX8_isWithin__9 (by decide) ?_
  refine m_iadd C dX8_isWithin__10 ?_
  refine r_iald C hR f hfA hfT (a + 2) (show a + 2 < r_len f by omega) (by rw [show (2 : Int32) = nI 2 from rfl, nI_add]) dX8_isWithin__11 ?_
  refine m_iadd C dX8_isWithin__12 ?_
  refine m_iconst (v := 1) C dX8_isWithin__13 (by decide) ?_
  refine m_isub C dX8_isWithin__14 ?_
  refine m_callSFi (As := [.int x, .int (arx f a), .int (((arx f a) + (arx f (a + 2))) - 1)]) (st := []) C (c_X8_isIn D A l M x (arx f a) (((arx f a) + (arx f (a + 2))) - 1)) (va_cwS 3 C.1.2.2.2.2 gX8_isWithin__X8_isIn rfl rfl rfl (by decide +kernel) ⟨Nat.le_of_ble_eq_true rfl, Nat.le_of_ble_eq_true rfl⟩) rfl rfl (Nat.le_of_ble_eq_true rfl) dX8_isWithin__15 ⟨Nat.le_of_ble_eq_true rfl, Nat.le_of_ble_eq_true rfl⟩ ?_
  refine m_if_eq (tgt := 50) C dX8_isWithin__18 (by decide) (fun h_1 => ?_) (fun h_1 => ?_)
  · have h_1 := bI_z h_1
    refine m_iconst (v := 0) C dX8_isWithin__50 (by decide) ?_
    exact m_zret C (Nat.le_of_ble_eq_true rfl) (Nat.le_of_ble_eq_true rfl) dX8_isWithin__51 (Or.inl rfl) (⟨rfl, by simp [q_box, bI, Int32.not_lt, Int32.not_le, h_1]⟩)
  · have h_1 := bI_n h_1
    refine m_iload_n C dX8_isWithin__21 rfl 3 rfl ?_
    refine m_aload_n C dX8_isWithin__22 rfl 0 rfl ?_
    refine m_iload_n C dX8_isWithin__23 rfl 1 rfl ?_
    refine m_iconst (v := 1) C dX8_isWithin__24 (by decide) ?_
    refine m_iadd C dX8_isWithin__25 ?_
    refine r_iald C hR f hfA hfT (a + 1) (show a + 1 < r_len f by omega) (by rw [show (1 : Int32) = nI 1 from rfl, nI_add]) dX8_isWithin__26 ?_
    refine m_aload_n C dX8_isWithin__27 rfl 0 rfl ?_
    refine m_iload_n C dX8_isWithin__28 rfl 1 rfl ?_
    refine m_iconst (v := 1) C dX8_isWithin__29 (by decide) ?_
    refine m_iadd C dX8_isWithin__30 ?_
    refine r_iald C hR f hfA hfT (a + 1) (show a + 1 < r_len f by omega) (by rw [show (1 : Int32) = nI 1 from rfl, nI_add]) dX8_isWithin__31 ?_
    refine m_aload_n C dX8_isWithin__32 rfl 0 rfl ?_
    refine m_iload_n C dX8_isWithin__33 rfl 1 rfl ?_
    refine m_iconst (v := 3) C dX8_isWithin__34 (by decide) ?_
    refine m_iadd C dX8_isWithin__35 ?_
    refine r_iald C hR f hfA hfT (a + 3) (show a + 3 < r_len f by omega) (by rw [show (3 : Int32) = nI 3 from rfl, nI_add]) dX8_isWithin__36 ?_
    refine m_iadd C dX8_isWithin__37 ?_
    refine m_iconst (v := 1) C dX8_isWithin__38 (by decide) ?_
    refine m_isub C dX8_isWithin__39 ?_
    refine m_callSFi (As := [.int y, .int (arx f (a + 1)), .int (((arx f (a + 1)) + (arx f (a + 3))) - 1)]) (st := []) C (c_X8_isIn D A l M y (arx f (a + 1)) (((arx f (a + 1)) + (arx f (a + 3))) - 1)) (va_cwS 3 C.1.2.2.2.2 gX8_isWithin__X8_isIn rfl rfl rfl (by decide +kernel) ⟨Nat.le_of_ble_eq_true rfl, Nat.le_of_ble_eq_true rfl⟩) rfl rfl (Nat.le_of_ble_eq_true rfl) dX8_isWithin__40 ⟨Nat.le_of_ble_eq_true rfl, Nat.le_of_ble_eq_true rfl⟩ ?_
    refine m_if_eq (tgt := 50) C dX8_isWithin__43 (by decide) (fun h_2 => ?_) (fun h_2 => ?_)
    · have h_2 := bI_z h_2
      refine m_iconst (v := 0) C dX8_isWithin__50 (by decide) ?_
      exact m_zret C (Nat.le_of_ble_eq_true rfl) (Nat.le_of_ble_eq_true rfl) dX8_isWithin__51 (Or.inl rfl) (⟨rfl, by simp [q_box, bI, Int32.not_lt, Int32.not_le, h_1, h_2]⟩)
    · have h_2 := bI_n h_2
      refine m_iconst (v := 1) C dX8_isWithin__46 (by decide) ?_
      refine m_goto (tgt := 51) C dX8_isWithin__47 (by decide) ?_
      exact m_zret C (Nat.le_of_ble_eq_true rfl) (Nat.le_of_ble_eq_true rfl) dX8_isWithin__51 (Or.inr rfl) (⟨rfl, by simp [q_box, bI, Int32.not_lt, Int32.not_le, h_1, h_2]⟩)
set_option maxHeartbeats 4000000 in
set_option maxRecDepth 100000 in
theorem c_X8_side (D : mD) (A : Nat → Prop) (l : Launch) (M : Mm) (ax ay bx bz px py : Int32) : mMl D A l yX8_side wsX8_side ({ frames := 0, cells := 0, slots := 0, locals := 0 } : Room) [.int ax, .int ay, .int bx, .int bz, .int px, .int py] M (fun r M' => M' = M ∧ r = q_side ax ay bx bz px py) 0 0 := by
  refine m_start (cc := cX8_side) (maxL := 6) (ret := (some .long)) (by decide) rfl (Nat.le_of_ble_eq_true rfl) ?_
  intro p e s m args below meth c C
  refine m_sub (L' := [(0, .int ax), (1, .int ay), (2, .int bx), (3, .int bz), (4, .int px), (5, .int py)]) [0, 1, 2, 3, 4, 5] rfl ?_
  refine m_iload_n C dX8_side_0 rfl 2 rfl ?_
  refine m_iload_n C dX8_side_1 rfl 0 rfl ?_
  refine m_isub C dX8_side_2 ?_
  refine m_i2l C dX8_side_3 rfl ?_
  refine m_ldc2 (v := 2) C (C.1.2.2.2.2 _ (by decide +kernel)) dX8_side_4 ?_
  refine m_lmul C dX8_side_7 ?_
  refine m_iload C dX8_side_8 5 rfl ?_
  refine m_iconst (v := 2) C dX8_side_10 (by decide) ?_
  refine m_iload_n C dX8_side_11 rfl 1 rfl ?_
  refine m_imul C dX8_side_12 ?_
  refine m_isub C dX8_side_13 ?_
  refine m_i2l C dX8_side_14 rfl ?_
  refine m_lmul C dX8_side_15 ?_
  refine m_iload_n C dX8_side_16 rfl 3 rfl ?_
  refine m_iload_n C dX8_side_17 rfl 1 rfl ?_
  refine m_isub C dX8_side_18 ?_
  refine m_i2l C dX8_side_19 rfl ?_
  refine m_ldc2 (v := 2) C (C.1.2.2.2.2 _ (by decide +kernel)) dX8_side_20 ?_
  refine m_lmul C dX8_side_23 ?_
  refine m_iload C dX8_side_24 4 rfl ?_
  refine m_iconst (v := 2) C dX8_side_26 (by decide) ?_
  refine m_iload_n C dX8_side_27 rfl 0 rfl ?_
  refine m_imul C dX8_side_28 ?_
  refine m_isub C dX8_side_29 ?_
  refine m_i2l C dX8_side_30 rfl ?_
  refine m_lmul C dX8_side_31 ?_
  refine m_lsub C dX8_side_32 ?_
  exact m_lret C (Nat.le_of_ble_eq_true rfl) (Nat.le_of_ble_eq_true rfl) dX8_side_33 (⟨rfl, rfl⟩)
set_option maxHeartbeats 4000000 in
set_option maxRecDepth 100000 in
theorem lp_X8_isInShape {p : Program} {l : Launch} {e : Env} {s : State} {m : MethodId} {args : Array Value} {below : List Frame} {meth : Method} {c : Code} {Q : State → Prop} {D : mD} {A : Nat → Prop} {G : Nat → Nat} {o : Nat} {F : Mm} {t g u : Int32} {cm : Nat} {ar : rA} {od : Nat → Int32} {M : Mm} (hR : rW D G o F t (nI cm) g u (upA ar 17 od) M) {n0 : Nat} (hn40 : n0 < 40) {px py x1 y1 u1 v1 : Int32} {A9 B9 : Bool} (C : mC p m meth c cX8_isInShape 16 s args wsX8_isInShape yX8_isInShape.cls D A yX8_isInShape (some .boolean)) (i8 : ∀ w ∈ wsX80, w ∈ wsX8_isInShape) (kx : mV p l e ({ frames := 2, cells := 0, slots := 0, locals := 80 } : Room) s m args below meth c 16 D A Q M 0 0 [(11, .int 3), (10, .int (bI B9)), (9, .int (bI A9)), (8, .int v1), (7, .int u1), (6, .int (nI (6 * n0))), (5, .int y1), (4, .int x1), (0, .ref o), (1, .int (nI n0)), (2, .int px), (3, .int py)] [] 269) : ∀ (N : Nat) (k9 : Nat) (a9 b9 : Bool), 3 - k9 = N → k9 ≤ 3 → (a9 || q_lss (ar 7) (6 * n0) u1 v1 (3 - k9)) = A9 → (b9 || q_mor (ar 7) (6 * n0) u1 v1 (3 - k9)) = B9 → mV p l e ({ frames := 2, cells := 0, slots := 0, locals := 80 } : Room) s m args below meth c 16 D A Q M 0 0 [(11, .int (nI k9)), (10, .int (bI b9)), (9, .int (bI a9)), (8, .int v1), (7, .int u1), (6, .int (nI (6 * n0))), (5, .int y1), (4, .int x1), (0, .ref o), (1, .int (nI n0)), (2, .int px), (3, .int py)] [] 156 := by
  intro N
  induction N using Nat.strongRecOn with
  | _ N ih =>
    intro k9 a9 b9 hN hk hA hB
    have hk3 : k9 = 0 ∨ k9 = 1 ∨ k9 = 2 ∨ k9 = 3 := by omega
    rcases hk3 with rfl | rfl | rfl | rfl
    · show mV p l e ({ frames := 2, cells := 0, slots := 0, locals := 80 } : Room) s m args below meth c 16 D A Q M 0 0 [(11, .int 0), (10, .int (bI b9)), (9, .int (bI a9)), (8, .int v1), (7, .int u1), (6, .int (nI (6 * n0))), (5, .int y1), (4, .int x1), (0, .ref o), (1, .int (nI n0)), (2, .int px), (3, .int py)] [] 156
      refine m_iload C dX8_isInShape_156 0 rfl ?_
      refine m_iconst (v := 3) C dX8_isInShape_158 (by decide) ?_
      refine m_icmp_ge (tgt := 269) C dX8_isInShape_159 (by decide) (fun h_1 => ?_) (fun h_1 => ?_)
      · exact absurd h_1 (by decide)
      · refine m_iload C dX8_isInShape_162 5 rfl ?_
        refine m_iconst (v := 2) C dX8_isInShape_164 (by decide) ?_
        refine m_iload C dX8_isInShape_165 0 rfl ?_
        refine m_imul C dX8_isInShape_167 ?_
        refine m_i (y := 0) (by decide) ?_
        refine m_iadd C dX8_isInShape_168 ?_
        refine m_i (y := nI (6 * n0 + 0)) (by rw [show (0 : Int32) = nI 0 from rfl, nI_add]) ?_
        refine m_istore (L' := [(12, .int (nI (6 * n0 + 0))), (11, .int 0), (10, .int (bI b9)), (9, .int (bI a9)), (8, .int v1), (7, .int u1), (6, .int (nI (6 * n0))), (5, .int y1), (4, .int x1), (0, .ref o), (1, .int (nI n0)), (2, .int px), (3, .int py)]) C dX8_isInShape_169 (by decide) rfl ?_
        refine m_iload C dX8_isInShape_171 6 rfl ?_
        refine m_iconst (v := 2) C dX8_isInShape_173 (by decide) ?_
        refine m_iload C dX8_isInShape_174 1 rfl ?_
        refine m_iconst (v := 1) C dX8_isInShape_176 (by decide) ?_
        refine m_iadd C dX8_isInShape_177 ?_
        refine m_i (y := 1) (by decide) ?_
        refine m_iconst (v := 3) C dX8_isInShape_178 (by decide) ?_
        refine m_irem C dX8_isInShape_179 (by decide) ?_
        refine m_i (y := 1) (by decide) ?_
        refine m_imul C dX8_isInShape_180 ?_
        refine m_i (y := 2) (by decide) ?_
        refine m_iadd C dX8_isInShape_181 ?_
        refine m_i (y := nI (6 * n0 + 2)) (by rw [show (2 : Int32) = nI 2 from rfl, nI_add]) ?_
        refine m_istore (L' := [(13, .int (nI (6 * n0 + 2))), (12, .int (nI (6 * n0 + 0))), (11, .int 0), (10, .int (bI b9)), (9, .int (bI a9)), (8, .int v1), (7, .int u1), (6, .int (nI (6 * n0))), (5, .int y1), (4, .int x1), (0, .ref o), (1, .int (nI n0)), (2, .int px), (3, .int py)]) C dX8_isInShape_182 (by decide) rfl ?_
        refine m_aload_n C dX8_isInShape_184 rfl 10 rfl ?_
        refine r_get C hR i8 7 (by decide) (by decide +kernel) rfl rfl dX8_isInShape_185 ?_
        refine m_iload C dX8_isInShape_188 1 rfl ?_
        refine r_iald C hR 7 (by decide) rfl (6 * n0 + 0) (show (6 * n0 + 0) < 240 by omega) (rfl) dX8_isInShape_190 ?_
        refine m_i (y := ar 7 (6 * n0 + 0)) (rfl) ?_
        refine m_aload_n C dX8_isInShape_191 rfl 10 rfl ?_
        refine r_get C hR i8 7 (by decide) (by decide +kernel) rfl rfl dX8_isInShape_192 ?_
        refine m_iload C dX8_isInShape_195 1 rfl ?_
        refine m_iconst (v := 1) C dX8_isInShape_197 (by decide) ?_
        refine m_iadd C dX8_isInShape_198 ?_
        refine r_iald C hR 7 (by decide) rfl (6 * n0 + 0 + 1) (show (6 * n0 + 0 + 1) < 240 by omega) (by rw [nI_1]) dX8_isInShape_199 ?_
        refine m_i (y := ar 7 (6 * n0 + 0 + 1)) (rfl) ?_
        refine m_aload_n C dX8_isInShape_200 rfl 10 rfl ?_
        refine r_get C hR i8 7 (by decide) (by decide +kernel) rfl rfl dX8_isInShape_201 ?_
        refine m_iload C dX8_isInShape_204 0 rfl ?_
        refine r_iald C hR 7 (by decide) rfl (6 * n0 + 2) (show (6 * n0 + 2) < 240 by omega) (rfl) dX8_isInShape_206 ?_
        refine m_i (y := ar 7 (6 * n0 + 2)) (rfl) ?_
        refine m_aload_n C dX8_isInShape_207 rfl 10 rfl ?_
        refine r_get C hR i8 7 (by decide) (by decide +kernel) rfl rfl dX8_isInShape_208 ?_
        refine m_iload C dX8_isInShape_211 0 rfl ?_
        refine m_iconst (v := 1) C dX8_isInShape_213 (by decide) ?_
        refine m_iadd C dX8_isInShape_214 ?_
        refine r_iald C hR 7 (by decide) rfl (6 * n0 + 2 + 1) (show (6 * n0 + 2 + 1) < 240 by omega) (by rw [nI_1]) dX8_isInShape_215 ?_
        refine m_i (y := ar 7 (6 * n0 + 2 + 1)) (rfl) ?_
        refine m_iload C dX8_isInShape_216 6 rfl ?_
        refine m_iload C dX8_isInShape_218 5 rfl ?_
        refine m_callSFl (As := [.int (ar 7 (6 * n0 + 0)), .int (ar 7 (6 * n0 + 0 + 1)), .int (ar 7 (6 * n0 + 2)), .int (ar 7 (6 * n0 + 2 + 1)), .int u1, .int v1]) (st := []) C (c_X8_side D A l M (ar 7 (6 * n0 + 0)) (ar 7 (6 * n0 + 0 + 1)) (ar 7 (6 * n0 + 2)) (ar 7 (6 * n0 + 2 + 1)) u1 v1) (va_cwS 6 C.1.2.2.2.2 gX8_isInShape_X8_side rfl rfl rfl (by decide +kernel) ⟨Nat.le_of_ble_eq_true rfl, Nat.le_of_ble_eq_true rfl⟩) rfl rfl (Nat.le_of_ble_eq_true rfl) dX8_isInShape_220 ⟨Nat.le_of_ble_eq_true rfl, Nat.le_of_ble_eq_true rfl⟩ ?_
        refine m_l (y := q_sd (ar 7) (6 * n0) 0 u1 v1) rfl ?_
        refine m_lstore (L' := [(14, .long (q_sd (ar 7) (6 * n0) 0 u1 v1)), (13, .int (nI (6 * n0 + 2))), (12, .int (nI (6 * n0 + 0))), (11, .int 0), (10, .int (bI b9)), (9, .int (bI a9)), (8, .int v1), (7, .int u1), (6, .int (nI (6 * n0))), (5, .int y1), (4, .int x1), (0, .ref o), (1, .int (nI n0)), (2, .int px), (3, .int py)]) C dX8_isInShape_223 (by decide) rfl ?_
        refine m_iload C dX8_isInShape_225 5 rfl ?_
        refine m_if_ne (tgt := 237) C dX8_isInShape_227 (by decide) (fun h_2 => ?_) (fun h_2 => ?_)
        · have h_2 := bI_n h_2
          refine m_iconst (v := 1) C dX8_isInShape_237 (by decide) ?_
          refine m_goto (tgt := 242) C dX8_isInShape_238 (by decide) ?_
          refine m_istore (L' := [(9, .int 1), (14, .long (q_sd (ar 7) (6 * n0) 0 u1 v1)), (13, .int (nI (6 * n0 + 2))), (12, .int (nI (6 * n0 + 0))), (11, .int 0), (10, .int (bI b9)), (8, .int v1), (7, .int u1), (6, .int (nI (6 * n0))), (5, .int y1), (4, .int x1), (0, .ref o), (1, .int (nI n0)), (2, .int px), (3, .int py)]) C dX8_isInShape_242 (by decide) rfl ?_
          refine m_iload C dX8_isInShape_244 5 rfl ?_
          refine m_if_ne (tgt := 256) C dX8_isInShape_246 (by decide) (fun h_3 => ?_) (fun h_3 => ?_)
          · have h_3 := bI_n h_3
            refine m_iconst (v := 1) C dX8_isInShape_256 (by decide) ?_
            refine m_goto (tgt := 261) C dX8_isInShape_257 (by decide) ?_
            refine m_istore (L' := [(10, .int 1), (9, .int 1), (14, .long (q_sd (ar 7) (6 * n0) 0 u1 v1)), (13, .int (nI (6 * n0 + 2))), (12, .int (nI (6 * n0 + 0))), (11, .int 0), (8, .int v1), (7, .int u1), (6, .int (nI (6 * n0))), (5, .int y1), (4, .int x1), (0, .ref o), (1, .int (nI n0)), (2, .int px), (3, .int py)]) C dX8_isInShape_261 (by decide) rfl ?_
            refine m_iinc (q := 5) (v := 1) (L' := [(11, .int 1), (10, .int 1), (9, .int 1), (14, .long (q_sd (ar 7) (6 * n0) 0 u1 v1)), (13, .int (nI (6 * n0 + 2))), (12, .int (nI (6 * n0 + 0))), (8, .int v1), (7, .int u1), (6, .int (nI (6 * n0))), (5, .int y1), (4, .int x1), (0, .ref o), (1, .int (nI n0)), (2, .int px), (3, .int py)]) C dX8_isInShape_263 rfl (by decide) (by decide) rfl ?_
            refine m_goto (tgt := 156) C dX8_isInShape_266 (by decide) ?_
            refine m_sub (L' := [(11, .int 1), (10, .int 1), (9, .int 1), (8, .int v1), (7, .int u1), (6, .int (nI (6 * n0))), (5, .int y1), (4, .int x1), (0, .ref o), (1, .int (nI n0)), (2, .int px), (3, .int py)]) [0, 1, 2, 6, 7, 8, 9, 10, 11, 12, 13, 14] rfl ?_
            exact ih (3 - 1) (by omega) 1 true true rfl (by omega) (by rw [← hA]; simp [q_lss, h_2, h_3]) (by rw [← hB]; simp [q_mor, h_2, h_3])
          · have h_3 := bI_z h_3
            refine m_lload C dX8_isInShape_249 1 rfl ?_
            refine m_lconst (v := 0) C dX8_isInShape_251 rfl ?_
            refine m_lcmp C dX8_isInShape_252 ?_
            refine m_if_le (tgt := 260) C dX8_isInShape_253 (by decide) (fun h_4 => ?_) (fun h_4 => ?_)
            · have h_4 := (lg_cmp_le _ _).mp h_4
              refine m_iconst (v := 0) C dX8_isInShape_260 (by decide) ?_
              refine m_istore (L' := [(10, .int 0), (9, .int 1), (14, .long (q_sd (ar 7) (6 * n0) 0 u1 v1)), (13, .int (nI (6 * n0 + 2))), (12, .int (nI (6 * n0 + 0))), (11, .int 0), (8, .int v1), (7, .int u1), (6, .int (nI (6 * n0))), (5, .int y1), (4, .int x1), (0, .ref o), (1, .int (nI n0)), (2, .int px), (3, .int py)]) C dX8_isInShape_261 (by decide) rfl ?_
              refine m_iinc (q := 5) (v := 1) (L' := [(11, .int 1), (10, .int 0), (9, .int 1), (14, .long (q_sd (ar 7) (6 * n0) 0 u1 v1)), (13, .int (nI (6 * n0 + 2))), (12, .int (nI (6 * n0 + 0))), (8, .int v1), (7, .int u1), (6, .int (nI (6 * n0))), (5, .int y1), (4, .int x1), (0, .ref o), (1, .int (nI n0)), (2, .int px), (3, .int py)]) C dX8_isInShape_263 rfl (by decide) (by decide) rfl ?_
              refine m_goto (tgt := 156) C dX8_isInShape_266 (by decide) ?_
              refine m_sub (L' := [(11, .int 1), (10, .int 0), (9, .int 1), (8, .int v1), (7, .int u1), (6, .int (nI (6 * n0))), (5, .int y1), (4, .int x1), (0, .ref o), (1, .int (nI n0)), (2, .int px), (3, .int py)]) [0, 1, 2, 6, 7, 8, 9, 10, 11, 12, 13, 14] rfl ?_
              exact ih (3 - 1) (by omega) 1 true false rfl (by omega) (by rw [← hA]; simp [q_lss, h_2, h_3, h_4, Int64.not_lt.mpr h_4]) (by rw [← hB]; simp [q_mor, h_2, h_3, h_4, Int64.not_lt.mpr h_4])
            · have h_4 := mt (lg_cmp_le _ _).mpr h_4
              refine m_iconst (v := 1) C dX8_isInShape_256 (by decide) ?_
              refine m_goto (tgt := 261) C dX8_isInShape_257 (by decide) ?_
              refine m_istore (L' := [(10, .int 1), (9, .int 1), (14, .long (q_sd (ar 7) (6 * n0) 0 u1 v1)), (13, .int (nI (6 * n0 + 2))), (12, .int (nI (6 * n0 + 0))), (11, .int 0), (8, .int v1), (7, .int u1), (6, .int (nI (6 * n0))), (5, .int y1), (4, .int x1), (0, .ref o), (1, .int (nI n0)), (2, .int px), (3, .int py)]) C dX8_isInShape_261 (by decide) rfl ?_
              refine m_iinc (q := 5) (v := 1) (L' := [(11, .int 1), (10, .int 1), (9, .int 1), (14, .long (q_sd (ar 7) (6 * n0) 0 u1 v1)), (13, .int (nI (6 * n0 + 2))), (12, .int (nI (6 * n0 + 0))), (8, .int v1), (7, .int u1), (6, .int (nI (6 * n0))), (5, .int y1), (4, .int x1), (0, .ref o), (1, .int (nI n0)), (2, .int px), (3, .int py)]) C dX8_isInShape_263 rfl (by decide) (by decide) rfl ?_
              refine m_goto (tgt := 156) C dX8_isInShape_266 (by decide) ?_
              refine m_sub (L' := [(11, .int 1), (10, .int 1), (9, .int 1), (8, .int v1), (7, .int u1), (6, .int (nI (6 * n0))), (5, .int y1), (4, .int x1), (0, .ref o), (1, .int (nI n0)), (2, .int px), (3, .int py)]) [0, 1, 2, 6, 7, 8, 9, 10, 11, 12, 13, 14] rfl ?_
              exact ih (3 - 1) (by omega) 1 true true rfl (by omega) (by rw [← hA]; simp [q_lss, h_2, h_3, h_4, Int64.not_le.mp h_4]) (by rw [← hB]; simp [q_mor, h_2, h_3, h_4, Int64.not_le.mp h_4])
        · have h_2 := bI_z h_2
          refine m_lload C dX8_isInShape_230 0 rfl ?_
          refine m_lconst (v := 0) C dX8_isInShape_232 rfl ?_
          refine m_lcmp C dX8_isInShape_233 ?_
          refine m_if_ge (tgt := 241) C dX8_isInShape_234 (by decide) (fun h_5 => ?_) (fun h_5 => ?_)
          · have h_5 := (lg_cmp_ge _ _).mp h_5
            refine m_iconst (v := 0) C dX8_isInShape_241 (by decide) ?_
            refine m_istore (L' := [(9, .int 0), (14, .long (q_sd (ar 7) (6 * n0) 0 u1 v1)), (13, .int (nI (6 * n0 + 2))), (12, .int (nI (6 * n0 + 0))), (11, .int 0), (10, .int (bI b9)), (8, .int v1), (7, .int u1), (6, .int (nI (6 * n0))), (5, .int y1), (4, .int x1), (0, .ref o), (1, .int (nI n0)), (2, .int px), (3, .int py)]) C dX8_isInShape_242 (by decide) rfl ?_
            refine m_iload C dX8_isInShape_244 5 rfl ?_
            refine m_if_ne (tgt := 256) C dX8_isInShape_246 (by decide) (fun h_6 => ?_) (fun h_6 => ?_)
            · have h_6 := bI_n h_6
              refine m_iconst (v := 1) C dX8_isInShape_256 (by decide) ?_
              refine m_goto (tgt := 261) C dX8_isInShape_257 (by decide) ?_
              refine m_istore (L' := [(10, .int 1), (9, .int 0), (14, .long (q_sd (ar 7) (6 * n0) 0 u1 v1)), (13, .int (nI (6 * n0 + 2))), (12, .int (nI (6 * n0 + 0))), (11, .int 0), (8, .int v1), (7, .int u1), (6, .int (nI (6 * n0))), (5, .int y1), (4, .int x1), (0, .ref o), (1, .int (nI n0)), (2, .int px), (3, .int py)]) C dX8_isInShape_261 (by decide) rfl ?_
              refine m_iinc (q := 5) (v := 1) (L' := [(11, .int 1), (10, .int 1), (9, .int 0), (14, .long (q_sd (ar 7) (6 * n0) 0 u1 v1)), (13, .int (nI (6 * n0 + 2))), (12, .int (nI (6 * n0 + 0))), (8, .int v1), (7, .int u1), (6, .int (nI (6 * n0))), (5, .int y1), (4, .int x1), (0, .ref o), (1, .int (nI n0)), (2, .int px), (3, .int py)]) C dX8_isInShape_263 rfl (by decide) (by decide) rfl ?_
              refine m_goto (tgt := 156) C dX8_isInShape_266 (by decide) ?_
              refine m_sub (L' := [(11, .int 1), (10, .int 1), (9, .int 0), (8, .int v1), (7, .int u1), (6, .int (nI (6 * n0))), (5, .int y1), (4, .int x1), (0, .ref o), (1, .int (nI n0)), (2, .int px), (3, .int py)]) [0, 1, 2, 6, 7, 8, 9, 10, 11, 12, 13, 14] rfl ?_
              exact ih (3 - 1) (by omega) 1 false true rfl (by omega) (by rw [← hA]; simp [q_lss, h_2, h_5, Int64.not_lt.mpr h_5, h_6]) (by rw [← hB]; simp [q_mor, h_2, h_5, Int64.not_lt.mpr h_5, h_6])
            · have h_6 := bI_z h_6
              refine m_lload C dX8_isInShape_249 1 rfl ?_
              refine m_lconst (v := 0) C dX8_isInShape_251 rfl ?_
              refine m_lcmp C dX8_isInShape_252 ?_
              refine m_if_le (tgt := 260) C dX8_isInShape_253 (by decide) (fun h_7 => ?_) (fun h_7 => ?_)
              · have h_7 := (lg_cmp_le _ _).mp h_7
                refine m_iconst (v := 0) C dX8_isInShape_260 (by decide) ?_
                refine m_istore (L' := [(10, .int 0), (9, .int 0), (14, .long (q_sd (ar 7) (6 * n0) 0 u1 v1)), (13, .int (nI (6 * n0 + 2))), (12, .int (nI (6 * n0 + 0))), (11, .int 0), (8, .int v1), (7, .int u1), (6, .int (nI (6 * n0))), (5, .int y1), (4, .int x1), (0, .ref o), (1, .int (nI n0)), (2, .int px), (3, .int py)]) C dX8_isInShape_261 (by decide) rfl ?_
                refine m_iinc (q := 5) (v := 1) (L' := [(11, .int 1), (10, .int 0), (9, .int 0), (14, .long (q_sd (ar 7) (6 * n0) 0 u1 v1)), (13, .int (nI (6 * n0 + 2))), (12, .int (nI (6 * n0 + 0))), (8, .int v1), (7, .int u1), (6, .int (nI (6 * n0))), (5, .int y1), (4, .int x1), (0, .ref o), (1, .int (nI n0)), (2, .int px), (3, .int py)]) C dX8_isInShape_263 rfl (by decide) (by decide) rfl ?_
                refine m_goto (tgt := 156) C dX8_isInShape_266 (by decide) ?_
                refine m_sub (L' := [(11, .int 1), (10, .int 0), (9, .int 0), (8, .int v1), (7, .int u1), (6, .int (nI (6 * n0))), (5, .int y1), (4, .int x1), (0, .ref o), (1, .int (nI n0)), (2, .int px), (3, .int py)]) [0, 1, 2, 6, 7, 8, 9, 10, 11, 12, 13, 14] rfl ?_
                exact ih (3 - 1) (by omega) 1 false false rfl (by omega) (by rw [← hA]; simp [q_lss, h_2, h_5, Int64.not_lt.mpr h_5, h_6, h_7, Int64.not_lt.mpr h_7]) (by rw [← hB]; simp [q_mor, h_2, h_5, Int64.not_lt.mpr h_5, h_6, h_7, Int64.not_lt.mpr h_7])
              · have h_7 := mt (lg_cmp_le _ _).mpr h_7
                refine m_iconst (v := 1) C dX8_isInShape_256 (by decide) ?_
                refine m_goto (tgt := 261) C dX8_isInShape_257 (by decide) ?_
                refine m_istore (L' := [(10, .int 1), (9, .int 0), (14, .long (q_sd (ar 7) (6 * n0) 0 u1 v1)), (13, .int (nI (6 * n0 + 2))), (12, .int (nI (6 * n0 + 0))), (11, .int 0), (8, .int v1), (7, .int u1), (6, .int (nI (6 * n0))), (5, .int y1), (4, .int x1), (0, .ref o), (1, .int (nI n0)), (2, .int px), (3, .int py)]) C dX8_isInShape_261 (by decide) rfl ?_
                refine m_iinc (q := 5) (v := 1) (L' := [(11, .int 1), (10, .int 1), (9, .int 0), (14, .long (q_sd (ar 7) (6 * n0) 0 u1 v1)), (13, .int (nI (6 * n0 + 2))), (12, .int (nI (6 * n0 + 0))), (8, .int v1), (7, .int u1), (6, .int (nI (6 * n0))), (5, .int y1), (4, .int x1), (0, .ref o), (1, .int (nI n0)), (2, .int px), (3, .int py)]) C dX8_isInShape_263 rfl (by decide) (by decide) rfl ?_
                refine m_goto (tgt := 156) C dX8_isInShape_266 (by decide) ?_
                refine m_sub (L' := [(11, .int 1), (10, .int 1), (9, .int 0), (8, .int v1), (7, .int u1), (6, .int (nI (6 * n0))), (5, .int y1), (4, .int x1), (0, .ref o), (1, .int (nI n0)), (2, .int px), (3, .int py)]) [0, 1, 2, 6, 7, 8, 9, 10, 11, 12, 13, 14] rfl ?_
                exact ih (3 - 1) (by omega) 1 false true rfl (by omega) (by rw [← hA]; simp [q_lss, h_2, h_5, Int64.not_lt.mpr h_5, h_6, h_7, Int64.not_le.mp h_7]) (by rw [← hB]; simp [q_mor, h_2, h_5, Int64.not_lt.mpr h_5, h_6, h_7, Int64.not_le.mp h_7])
          · have h_5 := mt (lg_cmp_ge _ _).mpr h_5
            refine m_iconst (v := 1) C dX8_isInShape_237 (by decide) ?_
            refine m_goto (tgt := 242) C dX8_isInShape_238 (by decide) ?_
            refine m_istore (L' := [(9, .int 1), (14, .long (q_sd (ar 7) (6 * n0) 0 u1 v1)), (13, .int (nI (6 * n0 + 2))), (12, .int (nI (6 * n0 + 0))), (11, .int 0), (10, .int (bI b9)), (8, .int v1), (7, .int u1), (6, .int (nI (6 * n0))), (5, .int y1), (4, .int x1), (0, .ref o), (1, .int (nI n0)), (2, .int px), (3, .int py)]) C dX8_isInShape_242 (by decide) rfl ?_
            refine m_iload C dX8_isInShape_244 5 rfl ?_
            refine m_if_ne (tgt := 256) C dX8_isInShape_246 (by decide) (fun h_8 => ?_) (fun h_8 => ?_)
            · have h_8 := bI_n h_8
              refine m_iconst (v := 1) C dX8_isInShape_256 (by decide) ?_
              refine m_goto (tgt := 261) C dX8_isInShape_257 (by decide) ?_
              refine m_istore (L' := [(10, .int 1), (9, .int 1), (14, .long (q_sd (ar 7) (6 * n0) 0 u1 v1)), (13, .int (nI (6 * n0 + 2))), (12, .int (nI (6 * n0 + 0))), (11, .int 0), (8, .int v1), (7, .int u1), (6, .int (nI (6 * n0))), (5, .int y1), (4, .int x1), (0, .ref o), (1, .int (nI n0)), (2, .int px), (3, .int py)]) C dX8_isInShape_261 (by decide) rfl ?_
              refine m_iinc (q := 5) (v := 1) (L' := [(11, .int 1), (10, .int 1), (9, .int 1), (14, .long (q_sd (ar 7) (6 * n0) 0 u1 v1)), (13, .int (nI (6 * n0 + 2))), (12, .int (nI (6 * n0 + 0))), (8, .int v1), (7, .int u1), (6, .int (nI (6 * n0))), (5, .int y1), (4, .int x1), (0, .ref o), (1, .int (nI n0)), (2, .int px), (3, .int py)]) C dX8_isInShape_263 rfl (by decide) (by decide) rfl ?_
              refine m_goto (tgt := 156) C dX8_isInShape_266 (by decide) ?_
              refine m_sub (L' := [(11, .int 1), (10, .int 1), (9, .int 1), (8, .int v1), (7, .int u1), (6, .int (nI (6 * n0))), (5, .int y1), (4, .int x1), (0, .ref o), (1, .int (nI n0)), (2, .int px), (3, .int py)]) [0, 1, 2, 6, 7, 8, 9, 10, 11, 12, 13, 14] rfl ?_
              exact ih (3 - 1) (by omega) 1 true true rfl (by omega) (by rw [← hA]; simp [q_lss, h_2, h_5, Int64.not_le.mp h_5, h_8]) (by rw [← hB]; simp [q_mor, h_2, h_5, Int64.not_le.mp h_5, h_8])
            · have h_8 := bI_z h_8
              refine m_lload C dX8_isInShape_249 1 rfl ?_
              refine m_lconst (v := 0) C dX8_isInShape_251 rfl ?_
              refine m_lcmp C dX8_isInShape_252 ?_
              refine m_if_le (tgt := 260) C dX8_isInShape_253 (by decide) (fun h_9 => ?_) (fun h_9 => ?_)
              · have h_9 := (lg_cmp_le _ _).mp h_9
                refine m_iconst (v := 0) C dX8_isInShape_260 (by decide) ?_
                refine m_istore (L' := [(10, .int 0), (9, .int 1), (14, .long (q_sd (ar 7) (6 * n0) 0 u1 v1)), (13, .int (nI (6 * n0 + 2))), (12, .int (nI (6 * n0 + 0))), (11, .int 0), (8, .int v1), (7, .int u1), (6, .int (nI (6 * n0))), (5, .int y1), (4, .int x1), (0, .ref o), (1, .int (nI n0)), (2, .int px), (3, .int py)]) C dX8_isInShape_261 (by decide) rfl ?_
                refine m_iinc (q := 5) (v := 1) (L' := [(11, .int 1), (10, .int 0), (9, .int 1), (14, .long (q_sd (ar 7) (6 * n0) 0 u1 v1)), (13, .int (nI (6 * n0 + 2))), (12, .int (nI (6 * n0 + 0))), (8, .int v1), (7, .int u1), (6, .int (nI (6 * n0))), (5, .int y1), (4, .int x1), (0, .ref o), (1, .int (nI n0)), (2, .int px), (3, .int py)]) C dX8_isInShape_263 rfl (by decide) (by decide) rfl ?_
                refine m_goto (tgt := 156) C dX8_isInShape_266 (by decide) ?_
                refine m_sub (L' := [(11, .int 1), (10, .int 0), (9, .int 1), (8, .int v1), (7, .int u1), (6, .int (nI (6 * n0))), (5, .int y1), (4, .int x1), (0, .ref o), (1, .int (nI n0)), (2, .int px), (3, .int py)]) [0, 1, 2, 6, 7, 8, 9, 10, 11, 12, 13, 14] rfl ?_
                exact ih (3 - 1) (by omega) 1 true false rfl (by omega) (by rw [← hA]; simp [q_lss, h_2, h_5, Int64.not_le.mp h_5, h_8, h_9, Int64.not_lt.mpr h_9]) (by rw [← hB]; simp [q_mor, h_2, h_5, Int64.not_le.mp h_5, h_8, h_9, Int64.not_lt.mpr h_9])
              · have h_9 := mt (lg_cmp_le _ _).mpr h_9
                refine m_iconst (v := 1) C dX8_isInShape_256 (by decide) ?_
                refine m_goto (tgt := 261) C dX8_isInShape_257 (by decide) ?_
                refine m_istore (L' := [(10, .int 1), (9, .int 1), (14, .long (q_sd (ar 7) (6 * n0) 0 u1 v1)), (13, .int (nI (6 * n0 + 2))), (12, .int (nI (6 * n0 + 0))), (11, .int 0), (8, .int v1), (7, .int u1), (6, .int (nI (6 * n0))), (5, .int y1), (4, .int x1), (0, .ref o), (1, .int (nI n0)), (2, .int px), (3, .int py)]) C dX8_isInShape_261 (by decide) rfl ?_
                refine m_iinc (q := 5) (v := 1) (L' := [(11, .int 1), (10, .int 1), (9, .int 1), (14, .long (q_sd (ar 7) (6 * n0) 0 u1 v1)), (13, .int (nI (6 * n0 + 2))), (12, .int (nI (6 * n0 + 0))), (8, .int v1), (7, .int u1), (6, .int (nI (6 * n0))), (5, .int y1), (4, .int x1), (0, .ref o), (1, .int (nI n0)), (2, .int px), (3, .int py)]) C dX8_isInShape_263 rfl (by decide) (by decide) rfl ?_
                refine m_goto (tgt := 156) C dX8_isInShape_266 (by decide) ?_
                refine m_sub (L' := [(11, .int 1), (10, .int 1), (9, .int 1), (8, .int v1), (7, .int u1), (6, .int (nI (6 * n0))), (5, .int y1), (4, .int x1), (0, .ref o), (1, .int (nI n0)), (2, .int px), (3, .int py)]) [0, 1, 2, 6, 7, 8, 9, 10, 11, 12, 13, 14] rfl ?_
                exact ih (3 - 1) (by omega) 1 true true rfl (by omega) (by rw [← hA]; simp [q_lss, h_2, h_5, Int64.not_le.mp h_5, h_8, h_9, Int64.not_le.mp h_9]) (by rw [← hB]; simp [q_mor, h_2, h_5, Int64.not_le.mp h_5, h_8, h_9, Int64.not_le.mp h_9])
    · show mV p l e ({ frames := 2, cells := 0, slots := 0, locals := 80 } : Room) s m args below meth c 16 D A Q M 0 0 [(11, .int 1), (10, .int (bI b9)), (9, .int (bI a9)), (8, .int v1), (7, .int u1), (6, .int (nI (6 * n0))), (5, .int y1), (4, .int x1), (0, .ref o), (1, .int (nI n0)), (2, .int px), (3, .int py)] [] 156
      refine m_iload C dX8_isInShape_156 0 rfl ?_
      refine m_iconst (v := 3) C dX8_isInShape_158 (by decide) ?_
      refine m_icmp_ge (tgt := 269) C dX8_isInShape_159 (by decide) (fun h_10 => ?_) (fun h_10 => ?_)
      · exact absurd h_10 (by decide)
      · refine m_iload C dX8_isInShape_162 5 rfl ?_
        refine m_iconst (v := 2) C dX8_isInShape_164 (by decide) ?_
        refine m_iload C dX8_isInShape_165 0 rfl ?_
        refine m_imul C dX8_isInShape_167 ?_
        refine m_i (y := 2) (by decide) ?_
        refine m_iadd C dX8_isInShape_168 ?_
        refine m_i (y := nI (6 * n0 + 2)) (by rw [show (2 : Int32) = nI 2 from rfl, nI_add]) ?_
        refine m_istore (L' := [(12, .int (nI (6 * n0 + 2))), (11, .int 1), (10, .int (bI b9)), (9, .int (bI a9)), (8, .int v1), (7, .int u1), (6, .int (nI (6 * n0))), (5, .int y1), (4, .int x1), (0, .ref o), (1, .int (nI n0)), (2, .int px), (3, .int py)]) C dX8_isInShape_169 (by decide) rfl ?_
        refine m_iload C dX8_isInShape_171 6 rfl ?_
        refine m_iconst (v := 2) C dX8_isInShape_173 (by decide) ?_
        refine m_iload C dX8_isInShape_174 1 rfl ?_
        refine m_iconst (v := 1) C dX8_isInShape_176 (by decide) ?_
        refine m_iadd C dX8_isInShape_177 ?_
        refine m_i (y := 2) (by decide) ?_
        refine m_iconst (v := 3) C dX8_isInShape_178 (by decide) ?_
        refine m_irem C dX8_isInShape_179 (by decide) ?_
        refine m_i (y := 2) (by decide) ?_
        refine m_imul C dX8_isInShape_180 ?_
        refine m_i (y := 4) (by decide) ?_
        refine m_iadd C dX8_isInShape_181 ?_
        refine m_i (y := nI (6 * n0 + 4)) (by rw [show (4 : Int32) = nI 4 from rfl, nI_add]) ?_
        refine m_istore (L' := [(13, .int (nI (6 * n0 + 4))), (12, .int (nI (6 * n0 + 2))), (11, .int 1), (10, .int (bI b9)), (9, .int (bI a9)), (8, .int v1), (7, .int u1), (6, .int (nI (6 * n0))), (5, .int y1), (4, .int x1), (0, .ref o), (1, .int (nI n0)), (2, .int px), (3, .int py)]) C dX8_isInShape_182 (by decide) rfl ?_
        refine m_aload_n C dX8_isInShape_184 rfl 10 rfl ?_
        refine r_get C hR i8 7 (by decide) (by decide +kernel) rfl rfl dX8_isInShape_185 ?_
        refine m_iload C dX8_isInShape_188 1 rfl ?_
        refine r_iald C hR 7 (by decide) rfl (6 * n0 + 2) (show (6 * n0 + 2) < 240 by omega) (rfl) dX8_isInShape_190 ?_
        refine m_i (y := ar 7 (6 * n0 + 2)) (rfl) ?_
        refine m_aload_n C dX8_isInShape_191 rfl 10 rfl ?_
        refine r_get C hR i8 7 (by decide) (by decide +kernel) rfl rfl dX8_isInShape_192 ?_
        refine m_iload C dX8_isInShape_195 1 rfl ?_
        refine m_iconst (v := 1) C dX8_isInShape_197 (by decide) ?_
        refine m_iadd C dX8_isInShape_198 ?_
        refine r_iald C hR 7 (by decide) rfl (6 * n0 + 2 + 1) (show (6 * n0 + 2 + 1) < 240 by omega) (by rw [nI_1]) dX8_isInShape_199 ?_
        refine m_i (y := ar 7 (6 * n0 + 2 + 1)) (rfl) ?_
        refine m_aload_n C dX8_isInShape_200 rfl 10 rfl ?_
        refine r_get C hR i8 7 (by decide) (by decide +kernel) rfl rfl dX8_isInShape_201 ?_
        refine m_iload C dX8_isInShape_204 0 rfl ?_
        refine r_iald C hR 7 (by decide) rfl (6 * n0 + 4) (show (6 * n0 + 4) < 240 by omega) (rfl) dX8_isInShape_206 ?_
        refine m_i (y := ar 7 (6 * n0 + 4)) (rfl) ?_
        refine m_aload_n C dX8_isInShape_207 rfl 10 rfl ?_
        refine r_get C hR i8 7 (by decide) (by decide +kernel) rfl rfl dX8_isInShape_208 ?_
        refine m_iload C dX8_isInShape_211 0 rfl ?_
        refine m_iconst (v := 1) C dX8_isInShape_213 (by decide) ?_
        refine m_iadd C dX8_isInShape_214 ?_
        refine r_iald C hR 7 (by decide) rfl (6 * n0 + 4 + 1) (show (6 * n0 + 4 + 1) < 240 by omega) (by rw [nI_1]) dX8_isInShape_215 ?_
        refine m_i (y := ar 7 (6 * n0 + 4 + 1)) (rfl) ?_
        refine m_iload C dX8_isInShape_216 6 rfl ?_
        refine m_iload C dX8_isInShape_218 5 rfl ?_
        refine m_callSFl (As := [.int (ar 7 (6 * n0 + 2)), .int (ar 7 (6 * n0 + 2 + 1)), .int (ar 7 (6 * n0 + 4)), .int (ar 7 (6 * n0 + 4 + 1)), .int u1, .int v1]) (st := []) C (c_X8_side D A l M (ar 7 (6 * n0 + 2)) (ar 7 (6 * n0 + 2 + 1)) (ar 7 (6 * n0 + 4)) (ar 7 (6 * n0 + 4 + 1)) u1 v1) (va_cwS 6 C.1.2.2.2.2 gX8_isInShape_X8_side rfl rfl rfl (by decide +kernel) ⟨Nat.le_of_ble_eq_true rfl, Nat.le_of_ble_eq_true rfl⟩) rfl rfl (Nat.le_of_ble_eq_true rfl) dX8_isInShape_220 ⟨Nat.le_of_ble_eq_true rfl, Nat.le_of_ble_eq_true rfl⟩ ?_
        refine m_l (y := q_sd (ar 7) (6 * n0) 1 u1 v1) rfl ?_
        refine m_lstore (L' := [(14, .long (q_sd (ar 7) (6 * n0) 1 u1 v1)), (13, .int (nI (6 * n0 + 4))), (12, .int (nI (6 * n0 + 2))), (11, .int 1), (10, .int (bI b9)), (9, .int (bI a9)), (8, .int v1), (7, .int u1), (6, .int (nI (6 * n0))), (5, .int y1), (4, .int x1), (0, .ref o), (1, .int (nI n0)), (2, .int px), (3, .int py)]) C dX8_isInShape_223 (by decide) rfl ?_
        refine m_iload C dX8_isInShape_225 5 rfl ?_
        refine m_if_ne (tgt := 237) C dX8_isInShape_227 (by decide) (fun h_11 => ?_) (fun h_11 => ?_)
        · have h_11 := bI_n h_11
          refine m_iconst (v := 1) C dX8_isInShape_237 (by decide) ?_
          refine m_goto (tgt := 242) C dX8_isInShape_238 (by decide) ?_
          refine m_istore (L' := [(9, .int 1), (14, .long (q_sd (ar 7) (6 * n0) 1 u1 v1)), (13, .int (nI (6 * n0 + 4))), (12, .int (nI (6 * n0 + 2))), (11, .int 1), (10, .int (bI b9)), (8, .int v1), (7, .int u1), (6, .int (nI (6 * n0))), (5, .int y1), (4, .int x1), (0, .ref o), (1, .int (nI n0)), (2, .int px), (3, .int py)]) C dX8_isInShape_242 (by decide) rfl ?_
          refine m_iload C dX8_isInShape_244 5 rfl ?_
          refine m_if_ne (tgt := 256) C dX8_isInShape_246 (by decide) (fun h_12 => ?_) (fun h_12 => ?_)
          · have h_12 := bI_n h_12
            refine m_iconst (v := 1) C dX8_isInShape_256 (by decide) ?_
            refine m_goto (tgt := 261) C dX8_isInShape_257 (by decide) ?_
            refine m_istore (L' := [(10, .int 1), (9, .int 1), (14, .long (q_sd (ar 7) (6 * n0) 1 u1 v1)), (13, .int (nI (6 * n0 + 4))), (12, .int (nI (6 * n0 + 2))), (11, .int 1), (8, .int v1), (7, .int u1), (6, .int (nI (6 * n0))), (5, .int y1), (4, .int x1), (0, .ref o), (1, .int (nI n0)), (2, .int px), (3, .int py)]) C dX8_isInShape_261 (by decide) rfl ?_
            refine m_iinc (q := 5) (v := 2) (L' := [(11, .int 2), (10, .int 1), (9, .int 1), (14, .long (q_sd (ar 7) (6 * n0) 1 u1 v1)), (13, .int (nI (6 * n0 + 4))), (12, .int (nI (6 * n0 + 2))), (8, .int v1), (7, .int u1), (6, .int (nI (6 * n0))), (5, .int y1), (4, .int x1), (0, .ref o), (1, .int (nI n0)), (2, .int px), (3, .int py)]) C dX8_isInShape_263 rfl (by decide) (by decide) rfl ?_
            refine m_goto (tgt := 156) C dX8_isInShape_266 (by decide) ?_
            refine m_sub (L' := [(11, .int 2), (10, .int 1), (9, .int 1), (8, .int v1), (7, .int u1), (6, .int (nI (6 * n0))), (5, .int y1), (4, .int x1), (0, .ref o), (1, .int (nI n0)), (2, .int px), (3, .int py)]) [0, 1, 2, 6, 7, 8, 9, 10, 11, 12, 13, 14] rfl ?_
            exact ih (3 - 2) (by omega) 2 true true rfl (by omega) (by rw [← hA]; simp [q_lss, h_11, h_12]) (by rw [← hB]; simp [q_mor, h_11, h_12])
          · have h_12 := bI_z h_12
            refine m_lload C dX8_isInShape_249 1 rfl ?_
            refine m_lconst (v := 0) C dX8_isInShape_251 rfl ?_
            refine m_lcmp C dX8_isInShape_252 ?_
            refine m_if_le (tgt := 260) C dX8_isInShape_253 (by decide) (fun h_13 => ?_) (fun h_13 => ?_)
            · have h_13 := (lg_cmp_le _ _).mp h_13
              refine m_iconst (v := 0) C dX8_isInShape_260 (by decide) ?_
              refine m_istore (L' := [(10, .int 0), (9, .int 1), (14, .long (q_sd (ar 7) (6 * n0) 1 u1 v1)), (13, .int (nI (6 * n0 + 4))), (12, .int (nI (6 * n0 + 2))), (11, .int 1), (8, .int v1), (7, .int u1), (6, .int (nI (6 * n0))), (5, .int y1), (4, .int x1), (0, .ref o), (1, .int (nI n0)), (2, .int px), (3, .int py)]) C dX8_isInShape_261 (by decide) rfl ?_
              refine m_iinc (q := 5) (v := 2) (L' := [(11, .int 2), (10, .int 0), (9, .int 1), (14, .long (q_sd (ar 7) (6 * n0) 1 u1 v1)), (13, .int (nI (6 * n0 + 4))), (12, .int (nI (6 * n0 + 2))), (8, .int v1), (7, .int u1), (6, .int (nI (6 * n0))), (5, .int y1), (4, .int x1), (0, .ref o), (1, .int (nI n0)), (2, .int px), (3, .int py)]) C dX8_isInShape_263 rfl (by decide) (by decide) rfl ?_
              refine m_goto (tgt := 156) C dX8_isInShape_266 (by decide) ?_
              refine m_sub (L' := [(11, .int 2), (10, .int 0), (9, .int 1), (8, .int v1), (7, .int u1), (6, .int (nI (6 * n0))), (5, .int y1), (4, .int x1), (0, .ref o), (1, .int (nI n0)), (2, .int px), (3, .int py)]) [0, 1, 2, 6, 7, 8, 9, 10, 11, 12, 13, 14] rfl ?_
              exact ih (3 - 2) (by omega) 2 true false rfl (by omega) (by rw [← hA]; simp [q_lss, h_11, h_12, h_13, Int64.not_lt.mpr h_13]) (by rw [← hB]; simp [q_mor, h_11, h_12, h_13, Int64.not_lt.mpr h_13])
            · have h_13 := mt (lg_cmp_le _ _).mpr h_13
              refine m_iconst (v := 1) C dX8_isInShape_256 (by decide) ?_
              refine m_goto (tgt := 261) C dX8_isInShape_257 (by decide) ?_
              refine m_istore (L' := [(10, .int 1), (9, .int 1), (14, .long (q_sd (ar 7) (6 * n0) 1 u1 v1)), (13, .int (nI (6 * n0 + 4))), (12, .int (nI (6 * n0 + 2))), (11, .int 1), (8, .int v1), (7, .int u1), (6, .int (nI (6 * n0))), (5, .int y1), (4, .int x1), (0, .ref o), (1, .int (nI n0)), (2, .int px), (3, .int py)]) C dX8_isInShape_261 (by decide) rfl ?_
              refine m_iinc (q := 5) (v := 2) (L' := [(11, .int 2), (10, .int 1), (9, .int 1), (14, .long (q_sd (ar 7) (6 * n0) 1 u1 v1)), (13, .int (nI (6 * n0 + 4))), (12, .int (nI (6 * n0 + 2))), (8, .int v1), (7, .int u1), (6, .int (nI (6 * n0))), (5, .int y1), (4, .int x1), (0, .ref o), (1, .int (nI n0)), (2, .int px), (3, .int py)]) C dX8_isInShape_263 rfl (by decide) (by decide) rfl ?_
              refine m_goto (tgt := 156) C dX8_isInShape_266 (by decide) ?_
              refine m_sub (L' := [(11, .int 2), (10, .int 1), (9, .int 1), (8, .int v1), (7, .int u1), (6, .int (nI (6 * n0))), (5, .int y1), (4, .int x1), (0, .ref o), (1, .int (nI n0)), (2, .int px), (3, .int py)]) [0, 1, 2, 6, 7, 8, 9, 10, 11, 12, 13, 14] rfl ?_
              exact ih (3 - 2) (by omega) 2 true true rfl (by omega) (by rw [← hA]; simp [q_lss, h_11, h_12, h_13, Int64.not_le.mp h_13]) (by rw [← hB]; simp [q_mor, h_11, h_12, h_13, Int64.not_le.mp h_13])
        · have h_11 := bI_z h_11
          refine m_lload C dX8_isInShape_230 0 rfl ?_
          refine m_lconst (v := 0) C dX8_isInShape_232 rfl ?_
          refine m_lcmp C dX8_isInShape_233 ?_
          refine m_if_ge (tgt := 241) C dX8_isInShape_234 (by decide) (fun h_14 => ?_) (fun h_14 => ?_)
          · have h_14 := (lg_cmp_ge _ _).mp h_14
            refine m_iconst (v := 0) C dX8_isInShape_241 (by decide) ?_
            refine m_istore (L' := [(9, .int 0), (14, .long (q_sd (ar 7) (6 * n0) 1 u1 v1)), (13, .int (nI (6 * n0 + 4))), (12, .int (nI (6 * n0 + 2))), (11, .int 1), (10, .int (bI b9)), (8, .int v1), (7, .int u1), (6, .int (nI (6 * n0))), (5, .int y1), (4, .int x1), (0, .ref o), (1, .int (nI n0)), (2, .int px), (3, .int py)]) C dX8_isInShape_242 (by decide) rfl ?_
            refine m_iload C dX8_isInShape_244 5 rfl ?_
            refine m_if_ne (tgt := 256) C dX8_isInShape_246 (by decide) (fun h_15 => ?_) (fun h_15 => ?_)
            · have h_15 := bI_n h_15
              refine m_iconst (v := 1) C dX8_isInShape_256 (by decide) ?_
              refine m_goto (tgt := 261) C dX8_isInShape_257 (by decide) ?_
              refine m_istore (L' := [(10, .int 1), (9, .int 0), (14, .long (q_sd (ar 7) (6 * n0) 1 u1 v1)), (13, .int (nI (6 * n0 + 4))), (12, .int (nI (6 * n0 + 2))), (11, .int 1), (8, .int v1), (7, .int u1), (6, .int (nI (6 * n0))), (5, .int y1), (4, .int x1), (0, .ref o), (1, .int (nI n0)), (2, .int px), (3, .int py)]) C dX8_isInShape_261 (by decide) rfl ?_
              refine m_iinc (q := 5) (v := 2) (L' := [(11, .int 2), (10, .int 1), (9, .int 0), (14, .long (q_sd (ar 7) (6 * n0) 1 u1 v1)), (13, .int (nI (6 * n0 + 4))), (12, .int (nI (6 * n0 + 2))), (8, .int v1), (7, .int u1), (6, .int (nI (6 * n0))), (5, .int y1), (4, .int x1), (0, .ref o), (1, .int (nI n0)), (2, .int px), (3, .int py)]) C dX8_isInShape_263 rfl (by decide) (by decide) rfl ?_
              refine m_goto (tgt := 156) C dX8_isInShape_266 (by decide) ?_
              refine m_sub (L' := [(11, .int 2), (10, .int 1), (9, .int 0), (8, .int v1), (7, .int u1), (6, .int (nI (6 * n0))), (5, .int y1), (4, .int x1), (0, .ref o), (1, .int (nI n0)), (2, .int px), (3, .int py)]) [0, 1, 2, 6, 7, 8, 9, 10, 11, 12, 13, 14] rfl ?_
              exact ih (3 - 2) (by omega) 2 false true rfl (by omega) (by rw [← hA]; simp [q_lss, h_11, h_14, Int64.not_lt.mpr h_14, h_15]) (by rw [← hB]; simp [q_mor, h_11, h_14, Int64.not_lt.mpr h_14, h_15])
            · have h_15 := bI_z h_15
              refine m_lload C dX8_isInShape_249 1 rfl ?_
              refine m_lconst (v := 0) C dX8_isInShape_251 rfl ?_
              refine m_lcmp C dX8_isInShape_252 ?_
              refine m_if_le (tgt := 260) C dX8_isInShape_253 (by decide) (fun h_16 => ?_) (fun h_16 => ?_)
              · have h_16 := (lg_cmp_le _ _).mp h_16
                refine m_iconst (v := 0) C dX8_isInShape_260 (by decide) ?_
                refine m_istore (L' := [(10, .int 0), (9, .int 0), (14, .long (q_sd (ar 7) (6 * n0) 1 u1 v1)), (13, .int (nI (6 * n0 + 4))), (12, .int (nI (6 * n0 + 2))), (11, .int 1), (8, .int v1), (7, .int u1), (6, .int (nI (6 * n0))), (5, .int y1), (4, .int x1), (0, .ref o), (1, .int (nI n0)), (2, .int px), (3, .int py)]) C dX8_isInShape_261 (by decide) rfl ?_
                refine m_iinc (q := 5) (v := 2) (L' := [(11, .int 2), (10, .int 0), (9, .int 0), (14, .long (q_sd (ar 7) (6 * n0) 1 u1 v1)), (13, .int (nI (6 * n0 + 4))), (12, .int (nI (6 * n0 + 2))), (8, .int v1), (7, .int u1), (6, .int (nI (6 * n0))), (5, .int y1), (4, .int x1), (0, .ref o), (1, .int (nI n0)), (2, .int px), (3, .int py)]) C dX8_isInShape_263 rfl (by decide) (by decide) rfl ?_
                refine m_goto (tgt := 156) C dX8_isInShape_266 (by decide) ?_
                refine m_sub (L' := [(11, .int 2), (10, .int 0), (9, .int 0), (8, .int v1), (7, .int u1), (6, .int (nI (6 * n0))), (5, .int y1), (4, .int x1), (0, .ref o), (1, .int (nI n0)), (2, .int px), (3, .int py)]) [0, 1, 2, 6, 7, 8, 9, 10, 11, 12, 13, 14] rfl ?_
                exact ih (3 - 2) (by omega) 2 false false rfl (by omega) (by rw [← hA]; simp [q_lss, h_11, h_14, Int64.not_lt.mpr h_14, h_15, h_16, Int64.not_lt.mpr h_16]) (by rw [← hB]; simp [q_mor, h_11, h_14, Int64.not_lt.mpr h_14, h_15, h_16, Int64.not_lt.mpr h_16])
              · have h_16 := mt (lg_cmp_le _ _).mpr h_16
                refine m_iconst (v := 1) C dX8_isInShape_256 (by decide) ?_
                refine m_goto (tgt := 261) C dX8_isInShape_257 (by decide) ?_
                refine m_istore (L' := [(10, .int 1), (9, .int 0), (14, .long (q_sd (ar 7) (6 * n0) 1 u1 v1)), (13, .int (nI (6 * n0 + 4))), (12, .int (nI (6 * n0 + 2))), (11, .int 1), (8, .int v1), (7, .int u1), (6, .int (nI (6 * n0))), (5, .int y1), (4, .int x1), (0, .ref o), (1, .int (nI n0)), (2, .int px), (3, .int py)]) C dX8_isInShape_261 (by decide) rfl ?_
                refine m_iinc (q := 5) (v := 2) (L' := [(11, .int 2), (10, .int 1), (9, .int 0), (14, .long (q_sd (ar 7) (6 * n0) 1 u1 v1)), (13, .int (nI (6 * n0 + 4))), (12, .int (nI (6 * n0 + 2))), (8, .int v1), (7, .int u1), (6, .int (nI (6 * n0))), (5, .int y1), (4, .int x1), (0, .ref o), (1, .int (nI n0)), (2, .int px), (3, .int py)]) C dX8_isInShape_263 rfl (by decide) (by decide) rfl ?_
                refine m_goto (tgt := 156) C dX8_isInShape_266 (by decide) ?_
                refine m_sub (L' := [(11, .int 2), (10, .int 1), (9, .int 0), (8, .int v1), (7, .int u1), (6, .int (nI (6 * n0))), (5, .int y1), (4, .int x1), (0, .ref o), (1, .int (nI n0)), (2, .int px), (3, .int py)]) [0, 1, 2, 6, 7, 8, 9, 10, 11, 12, 13, 14] rfl ?_
                exact ih (3 - 2) (by omega) 2 false true rfl (by omega) (by rw [← hA]; simp [q_lss, h_11, h_14, Int64.not_lt.mpr h_14, h_15, h_16, Int64.not_le.mp h_16]) (by rw [← hB]; simp [q_mor, h_11, h_14, Int64.not_lt.mpr h_14, h_15, h_16, Int64.not_le.mp h_16])
          · have h_14 := mt (lg_cmp_ge _ _).mpr h_14
            refine m_iconst (v := 1) C dX8_isInShape_237 (by decide) ?_
            refine m_goto (tgt := 242) C dX8_isInShape_238 (by decide) ?_
            refine m_istore (L' := [(9, .int 1), (14, .long (q_sd (ar 7) (6 * n0) 1 u1 v1)), (13, .int (nI (6 * n0 + 4))), (12, .int (nI (6 * n0 + 2))), (11, .int 1), (10, .int (bI b9)), (8, .int v1), (7, .int u1), (6, .int (nI (6 * n0))), (5, .int y1), (4, .int x1), (0, .ref o), (1, .int (nI n0)), (2, .int px), (3, .int py)]) C dX8_isInShape_242 (by decide) rfl ?_
            refine m_iload C dX8_isInShape_244 5 rfl ?_
            refine m_if_ne (tgt := 256) C dX8_isInShape_246 (by decide) (fun h_17 => ?_) (fun h_17 => ?_)
            · have h_17 := bI_n h_17
              refine m_iconst (v := 1) C dX8_isInShape_256 (by decide) ?_
              refine m_goto (tgt := 261) C dX8_isInShape_257 (by decide) ?_
              refine m_istore (L' := [(10, .int 1), (9, .int 1), (14, .long (q_sd (ar 7) (6 * n0) 1 u1 v1)), (13, .int (nI (6 * n0 + 4))), (12, .int (nI (6 * n0 + 2))), (11, .int 1), (8, .int v1), (7, .int u1), (6, .int (nI (6 * n0))), (5, .int y1), (4, .int x1), (0, .ref o), (1, .int (nI n0)), (2, .int px), (3, .int py)]) C dX8_isInShape_261 (by decide) rfl ?_
              refine m_iinc (q := 5) (v := 2) (L' := [(11, .int 2), (10, .int 1), (9, .int 1), (14, .long (q_sd (ar 7) (6 * n0) 1 u1 v1)), (13, .int (nI (6 * n0 + 4))), (12, .int (nI (6 * n0 + 2))), (8, .int v1), (7, .int u1), (6, .int (nI (6 * n0))), (5, .int y1), (4, .int x1), (0, .ref o), (1, .int (nI n0)), (2, .int px), (3, .int py)]) C dX8_isInShape_263 rfl (by decide) (by decide) rfl ?_
              refine m_goto (tgt := 156) C dX8_isInShape_266 (by decide) ?_
              refine m_sub (L' := [(11, .int 2), (10, .int 1), (9, .int 1), (8, .int v1), (7, .int u1), (6, .int (nI (6 * n0))), (5, .int y1), (4, .int x1), (0, .ref o), (1, .int (nI n0)), (2, .int px), (3, .int py)]) [0, 1, 2, 6, 7, 8, 9, 10, 11, 12, 13, 14] rfl ?_
              exact ih (3 - 2) (by omega) 2 true true rfl (by omega) (by rw [← hA]; simp [q_lss, h_11, h_14, Int64.not_le.mp h_14, h_17]) (by rw [← hB]; simp [q_mor, h_11, h_14, Int64.not_le.mp h_14, h_17])
            · have h_17 := bI_z h_17
              refine m_lload C dX8_isInShape_249 1 rfl ?_
              refine m_lconst (v := 0) C dX8_isInShape_251 rfl ?_
              refine m_lcmp C dX8_isInShape_252 ?_
              refine m_if_le (tgt := 260) C dX8_isInShape_253 (by decide) (fun h_18 => ?_) (fun h_18 => ?_)
              · have h_18 := (lg_cmp_le _ _).mp h_18
                refine m_iconst (v := 0) C dX8_isInShape_260 (by decide) ?_
                refine m_istore (L' := [(10, .int 0), (9, .int 1), (14, .long (q_sd (ar 7) (6 * n0) 1 u1 v1)), (13, .int (nI (6 * n0 + 4))), (12, .int (nI (6 * n0 + 2))), (11, .int 1), (8, .int v1), (7, .int u1), (6, .int (nI (6 * n0))), (5, .int y1), (4, .int x1), (0, .ref o), (1, .int (nI n0)), (2, .int px), (3, .int py)]) C dX8_isInShape_261 (by decide) rfl ?_
                refine m_iinc (q := 5) (v := 2) (L' := [(11, .int 2), (10, .int 0), (9, .int 1), (14, .long (q_sd (ar 7) (6 * n0) 1 u1 v1)), (13, .int (nI (6 * n0 + 4))), (12, .int (nI (6 * n0 + 2))), (8, .int v1), (7, .int u1), (6, .int (nI (6 * n0))), (5, .int y1), (4, .int x1), (0, .ref o), (1, .int (nI n0)), (2, .int px), (3, .int py)]) C dX8_isInShape_263 rfl (by decide) (by decide) rfl ?_
                refine m_goto (tgt := 156) C dX8_isInShape_266 (by decide) ?_
                refine m_sub (L' := [(11, .int 2), (10, .int 0), (9, .int 1), (8, .int v1), (7, .int u1), (6, .int (nI (6 * n0))), (5, .int y1), (4, .int x1), (0, .ref o), (1, .int (nI n0)), (2, .int px), (3, .int py)]) [0, 1, 2, 6, 7, 8, 9, 10, 11, 12, 13, 14] rfl ?_
                exact ih (3 - 2) (by omega) 2 true false rfl (by omega) (by rw [← hA]; simp [q_lss, h_11, h_14, Int64.not_le.mp h_14, h_17, h_18, Int64.not_lt.mpr h_18]) (by rw [← hB]; simp [q_mor, h_11, h_14, Int64.not_le.mp h_14, h_17, h_18, Int64.not_lt.mpr h_18])
              · have h_18 := mt (lg_cmp_le _ _).mpr h_18
                refine m_iconst (v := 1) C dX8_isInShape_256 (by decide) ?_
                refine m_goto (tgt := 261) C dX8_isInShape_257 (by decide) ?_
                refine m_istore (L' := [(10, .int 1), (9, .int 1), (14, .long (q_sd (ar 7) (6 * n0) 1 u1 v1)), (13, .int (nI (6 * n0 + 4))), (12, .int (nI (6 * n0 + 2))), (11, .int 1), (8, .int v1), (7, .int u1), (6, .int (nI (6 * n0))), (5, .int y1), (4, .int x1), (0, .ref o), (1, .int (nI n0)), (2, .int px), (3, .int py)]) C dX8_isInShape_261 (by decide) rfl ?_
                refine m_iinc (q := 5) (v := 2) (L' := [(11, .int 2), (10, .int 1), (9, .int 1), (14, .long (q_sd (ar 7) (6 * n0) 1 u1 v1)), (13, .int (nI (6 * n0 + 4))), (12, .int (nI (6 * n0 + 2))), (8, .int v1), (7, .int u1), (6, .int (nI (6 * n0))), (5, .int y1), (4, .int x1), (0, .ref o), (1, .int (nI n0)), (2, .int px), (3, .int py)]) C dX8_isInShape_263 rfl (by decide) (by decide) rfl ?_
                refine m_goto (tgt := 156) C dX8_isInShape_266 (by decide) ?_
                refine m_sub (L' := [(11, .int 2), (10, .int 1), (9, .int 1), (8, .int v1), (7, .int u1), (6, .int (nI (6 * n0))), (5, .int y1), (4, .int x1), (0, .ref o), (1, .int (nI n0)), (2, .int px), (3, .int py)]) [0, 1, 2, 6, 7, 8, 9, 10, 11, 12, 13, 14] rfl ?_
                exact ih (3 - 2) (by omega) 2 true true rfl (by omega) (by rw [← hA]; simp [q_lss, h_11, h_14, Int64.not_le.mp h_14, h_17, h_18, Int64.not_le.mp h_18]) (by rw [← hB]; simp [q_mor, h_11, h_14, Int64.not_le.mp h_14, h_17, h_18, Int64.not_le.mp h_18])
    · show mV p l e ({ frames := 2, cells := 0, slots := 0, locals := 80 } : Room) s m args below meth c 16 D A Q M 0 0 [(11, .int 2), (10, .int (bI b9)), (9, .int (bI a9)), (8, .int v1), (7, .int u1), (6, .int (nI (6 * n0))), (5, .int y1), (4, .int x1), (0, .ref o), (1, .int (nI n0)), (2, .int px), (3, .int py)] [] 156
      refine m_iload C dX8_isInShape_156 0 rfl ?_
      refine m_iconst (v := 3) C dX8_isInShape_158 (by decide) ?_
      refine m_icmp_ge (tgt := 269) C dX8_isInShape_159 (by decide) (fun h_19 => ?_) (fun h_19 => ?_)
      · exact absurd h_19 (by decide)
      · refine m_iload C dX8_isInShape_162 5 rfl ?_
        refine m_iconst (v := 2) C dX8_isInShape_164 (by decide) ?_
        refine m_iload C dX8_isInShape_165 0 rfl ?_
        refine m_imul C dX8_isInShape_167 ?_
        refine m_i (y := 4) (by decide) ?_
        refine m_iadd C dX8_isInShape_168 ?_
        refine m_i (y := nI (6 * n0 + 4)) (by rw [show (4 : Int32) = nI 4 from rfl, nI_add]) ?_
        refine m_istore (L' := [(12, .int (nI (6 * n0 + 4))), (11, .int 2), (10, .int (bI b9)), (9, .int (bI a9)), (8, .int v1), (7, .int u1), (6, .int (nI (6 * n0))), (5, .int y1), (4, .int x1), (0, .ref o), (1, .int (nI n0)), (2, .int px), (3, .int py)]) C dX8_isInShape_169 (by decide) rfl ?_
        refine m_iload C dX8_isInShape_171 6 rfl ?_
        refine m_iconst (v := 2) C dX8_isInShape_173 (by decide) ?_
        refine m_iload C dX8_isInShape_174 1 rfl ?_
        refine m_iconst (v := 1) C dX8_isInShape_176 (by decide) ?_
        refine m_iadd C dX8_isInShape_177 ?_
        refine m_i (y := 3) (by decide) ?_
        refine m_iconst (v := 3) C dX8_isInShape_178 (by decide) ?_
        refine m_irem C dX8_isInShape_179 (by decide) ?_
        refine m_i (y := 0) (by decide) ?_
        refine m_imul C dX8_isInShape_180 ?_
        refine m_i (y := 0) (by decide) ?_
        refine m_iadd C dX8_isInShape_181 ?_
        refine m_i (y := nI (6 * n0 + 0)) (by rw [show (0 : Int32) = nI 0 from rfl, nI_add]) ?_
        refine m_istore (L' := [(13, .int (nI (6 * n0 + 0))), (12, .int (nI (6 * n0 + 4))), (11, .int 2), (10, .int (bI b9)), (9, .int (bI a9)), (8, .int v1), (7, .int u1), (6, .int (nI (6 * n0))), (5, .int y1), (4, .int x1), (0, .ref o), (1, .int (nI n0)), (2, .int px), (3, .int py)]) C dX8_isInShape_182 (by decide) rfl ?_
        refine m_aload_n C dX8_isInShape_184 rfl 10 rfl ?_
        refine r_get C hR i8 7 (by decide) (by decide +kernel) rfl rfl dX8_isInShape_185 ?_
        refine m_iload C dX8_isInShape_188 1 rfl ?_
        refine r_iald C hR 7 (by decide) rfl (6 * n0 + 4) (show (6 * n0 + 4) < 240 by omega) (rfl) dX8_isInShape_190 ?_
        refine m_i (y := ar 7 (6 * n0 + 4)) (rfl) ?_
        refine m_aload_n C dX8_isInShape_191 rfl 10 rfl ?_
        refine r_get C hR i8 7 (by decide) (by decide +kernel) rfl rfl dX8_isInShape_192 ?_
        refine m_iload C dX8_isInShape_195 1 rfl ?_
        refine m_iconst (v := 1) C dX8_isInShape_197 (by decide) ?_
        refine m_iadd C dX8_isInShape_198 ?_
        refine r_iald C hR 7 (by decide) rfl (6 * n0 + 4 + 1) (show (6 * n0 + 4 + 1) < 240 by omega) (by rw [nI_1]) dX8_isInShape_199 ?_
        refine m_i (y := ar 7 (6 * n0 + 4 + 1)) (rfl) ?_
        refine m_aload_n C dX8_isInShape_200 rfl 10 rfl ?_
        refine r_get C hR i8 7 (by decide) (by decide +kernel) rfl rfl dX8_isInShape_201 ?_
        refine m_iload C dX8_isInShape_204 0 rfl ?_
        refine r_iald C hR 7 (by decide) rfl (6 * n0 + 0) (show (6 * n0 + 0) < 240 by omega) (rfl) dX8_isInShape_206 ?_
        refine m_i (y := ar 7 (6 * n0 + 0)) (rfl) ?_
        refine m_aload_n C dX8_isInShape_207 rfl 10 rfl ?_
        refine r_get C hR i8 7 (by decide) (by decide +kernel) rfl rfl dX8_isInShape_208 ?_
        refine m_iload C dX8_isInShape_211 0 rfl ?_
        refine m_iconst (v := 1) C dX8_isInShape_213 (by decide) ?_
        refine m_iadd C dX8_isInShape_214 ?_
        refine r_iald C hR 7 (by decide) rfl (6 * n0 + 0 + 1) (show (6 * n0 + 0 + 1) < 240 by omega) (by rw [nI_1]) dX8_isInShape_215 ?_
        refine m_i (y := ar 7 (6 * n0 + 0 + 1)) (rfl) ?_
        refine m_iload C dX8_isInShape_216 6 rfl ?_
        refine m_iload C dX8_isInShape_218 5 rfl ?_
        refine m_callSFl (As := [.int (ar 7 (6 * n0 + 4)), .int (ar 7 (6 * n0 + 4 + 1)), .int (ar 7 (6 * n0 + 0)), .int (ar 7 (6 * n0 + 0 + 1)), .int u1, .int v1]) (st := []) C (c_X8_side D A l M (ar 7 (6 * n0 + 4)) (ar 7 (6 * n0 + 4 + 1)) (ar 7 (6 * n0 + 0)) (ar 7 (6 * n0 + 0 + 1)) u1 v1) (va_cwS 6 C.1.2.2.2.2 gX8_isInShape_X8_side rfl rfl rfl (by decide +kernel) ⟨Nat.le_of_ble_eq_true rfl, Nat.le_of_ble_eq_true rfl⟩) rfl rfl (Nat.le_of_ble_eq_true rfl) dX8_isInShape_220 ⟨Nat.le_of_ble_eq_true rfl, Nat.le_of_ble_eq_true rfl⟩ ?_
        refine m_l (y := q_sd (ar 7) (6 * n0) 2 u1 v1) rfl ?_
        refine m_lstore (L' := [(14, .long (q_sd (ar 7) (6 * n0) 2 u1 v1)), (13, .int (nI (6 * n0 + 0))), (12, .int (nI (6 * n0 + 4))), (11, .int 2), (10, .int (bI b9)), (9, .int (bI a9)), (8, .int v1), (7, .int u1), (6, .int (nI (6 * n0))), (5, .int y1), (4, .int x1), (0, .ref o), (1, .int (nI n0)), (2, .int px), (3, .int py)]) C dX8_isInShape_223 (by decide) rfl ?_
        refine m_iload C dX8_isInShape_225 5 rfl ?_
        refine m_if_ne (tgt := 237) C dX8_isInShape_227 (by decide) (fun h_20 => ?_) (fun h_20 => ?_)
        · have h_20 := bI_n h_20
          refine m_iconst (v := 1) C dX8_isInShape_237 (by decide) ?_
          refine m_goto (tgt := 242) C dX8_isInShape_238 (by decide) ?_
          refine m_istore (L' := [(9, .int 1), (14, .long (q_sd (ar 7) (6 * n0) 2 u1 v1)), (13, .int (nI (6 * n0 + 0))), (12, .int (nI (6 * n0 + 4))), (11, .int 2), (10, .int (bI b9)), (8, .int v1), (7, .int u1), (6, .int (nI (6 * n0))), (5, .int y1), (4, .int x1), (0, .ref o), (1, .int (nI n0)), (2, .int px), (3, .int py)]) C dX8_isInShape_242 (by decide) rfl ?_
          refine m_iload C dX8_isInShape_244 5 rfl ?_
          refine m_if_ne (tgt := 256) C dX8_isInShape_246 (by decide) (fun h_21 => ?_) (fun h_21 => ?_)
          · have h_21 := bI_n h_21
            refine m_iconst (v := 1) C dX8_isInShape_256 (by decide) ?_
            refine m_goto (tgt := 261) C dX8_isInShape_257 (by decide) ?_
            refine m_istore (L' := [(10, .int 1), (9, .int 1), (14, .long (q_sd (ar 7) (6 * n0) 2 u1 v1)), (13, .int (nI (6 * n0 + 0))), (12, .int (nI (6 * n0 + 4))), (11, .int 2), (8, .int v1), (7, .int u1), (6, .int (nI (6 * n0))), (5, .int y1), (4, .int x1), (0, .ref o), (1, .int (nI n0)), (2, .int px), (3, .int py)]) C dX8_isInShape_261 (by decide) rfl ?_
            refine m_iinc (q := 5) (v := 3) (L' := [(11, .int 3), (10, .int 1), (9, .int 1), (14, .long (q_sd (ar 7) (6 * n0) 2 u1 v1)), (13, .int (nI (6 * n0 + 0))), (12, .int (nI (6 * n0 + 4))), (8, .int v1), (7, .int u1), (6, .int (nI (6 * n0))), (5, .int y1), (4, .int x1), (0, .ref o), (1, .int (nI n0)), (2, .int px), (3, .int py)]) C dX8_isInShape_263 rfl (by decide) (by decide) rfl ?_
            refine m_goto (tgt := 156) C dX8_isInShape_266 (by decide) ?_
            refine m_sub (L' := [(11, .int 3), (10, .int 1), (9, .int 1), (8, .int v1), (7, .int u1), (6, .int (nI (6 * n0))), (5, .int y1), (4, .int x1), (0, .ref o), (1, .int (nI n0)), (2, .int px), (3, .int py)]) [0, 1, 2, 6, 7, 8, 9, 10, 11, 12, 13, 14] rfl ?_
            exact ih (3 - 3) (by omega) 3 true true rfl (by omega) (by rw [← hA]; simp [q_lss, h_20, h_21]) (by rw [← hB]; simp [q_mor, h_20, h_21])
          · have h_21 := bI_z h_21
            refine m_lload C dX8_isInShape_249 1 rfl ?_
            refine m_lconst (v := 0) C dX8_isInShape_251 rfl ?_
            refine m_lcmp C dX8_isInShape_252 ?_
            refine m_if_le (tgt := 260) C dX8_isInShape_253 (by decide) (fun h_22 => ?_) (fun h_22 => ?_)
            · have h_22 := (lg_cmp_le _ _).mp h_22
              refine m_iconst (v := 0) C dX8_isInShape_260 (by decide) ?_
              refine m_istore (L' := [(10, .int 0), (9, .int 1), (14, .long (q_sd (ar 7) (6 * n0) 2 u1 v1)), (13, .int (nI (6 * n0 + 0))), (12, .int (nI (6 * n0 + 4))), (11, .int 2), (8, .int v1), (7, .int u1), (6, .int (nI (6 * n0))), (5, .int y1), (4, .int x1), (0, .ref o), (1, .int (nI n0)), (2, .int px), (3, .int py)]) C dX8_isInShape_261 (by decide) rfl ?_
              refine m_iinc (q := 5) (v := 3) (L' := [(11, .int 3), (10, .int 0), (9, .int 1), (14, .long (q_sd (ar 7) (6 * n0) 2 u1 v1)), (13, .int (nI (6 * n0 + 0))), (12, .int (nI (6 * n0 + 4))), (8, .int v1), (7, .int u1), (6, .int (nI (6 * n0))), (5, .int y1), (4, .int x1), (0, .ref o), (1, .int (nI n0)), (2, .int px), (3, .int py)]) C dX8_isInShape_263 rfl (by decide) (by decide) rfl ?_
              refine m_goto (tgt := 156) C dX8_isInShape_266 (by decide) ?_
              refine m_sub (L' := [(11, .int 3), (10, .int 0), (9, .int 1), (8, .int v1), (7, .int u1), (6, .int (nI (6 * n0))), (5, .int y1), (4, .int x1), (0, .ref o), (1, .int (nI n0)), (2, .int px), (3, .int py)]) [0, 1, 2, 6, 7, 8, 9, 10, 11, 12, 13, 14] rfl ?_
              exact ih (3 - 3) (by omega) 3 true false rfl (by omega) (by rw [← hA]; simp [q_lss, h_20, h_21, h_22, Int64.not_lt.mpr h_22]) (by rw [← hB]; simp [q_mor, h_20, h_21, h_22, Int64.not_lt.mpr h_22])
            · have h_22 := mt (lg_cmp_le _ _).mpr h_22
              refine m_iconst (v := 1) C dX8_isInShape_256 (by decide) ?_
              refine m_goto (tgt := 261) C dX8_isInShape_257 (by decide) ?_
              refine m_istore (L' := [(10, .int 1), (9, .int 1), (14, .long (q_sd (ar 7) (6 * n0) 2 u1 v1)), (13, .int (nI (6 * n0 + 0))), (12, .int (nI (6 * n0 + 4))), (11, .int 2), (8, .int v1), (7, .int u1), (6, .int (nI (6 * n0))), (5, .int y1), (4, .int x1), (0, .ref o), (1, .int (nI n0)), (2, .int px), (3, .int py)]) C dX8_isInShape_261 (by decide) rfl ?_
              refine m_iinc (q := 5) (v := 3) (L' := [(11, .int 3), (10, .int 1), (9, .int 1), (14, .long (q_sd (ar 7) (6 * n0) 2 u1 v1)), (13, .int (nI (6 * n0 + 0))), (12, .int (nI (6 * n0 + 4))), (8, .int v1), (7, .int u1), (6, .int (nI (6 * n0))), (5, .int y1), (4, .int x1), (0, .ref o), (1, .int (nI n0)), (2, .int px), (3, .int py)]) C dX8_isInShape_263 rfl (by decide) (by decide) rfl ?_
              refine m_goto (tgt := 156) C dX8_isInShape_266 (by decide) ?_
              refine m_sub (L' := [(11, .int 3), (10, .int 1), (9, .int 1), (8, .int v1), (7, .int u1), (6, .int (nI (6 * n0))), (5, .int y1), (4, .int x1), (0, .ref o), (1, .int (nI n0)), (2, .int px), (3, .int py)]) [0, 1, 2, 6, 7, 8, 9, 10, 11, 12, 13, 14] rfl ?_
              exact ih (3 - 3) (by omega) 3 true true rfl (by omega) (by rw [← hA]; simp [q_lss, h_20, h_21, h_22, Int64.not_le.mp h_22]) (by rw [← hB]; simp [q_mor, h_20, h_21, h_22, Int64.not_le.mp h_22])
        · have h_20 := bI_z h_20
          refine m_lload C dX8_isInShape_230 0 rfl ?_
          refine m_lconst (v := 0) C dX8_isInShape_232 rfl ?_
          refine m_lcmp C dX8_isInShape_233 ?_
          refine m_if_ge (tgt := 241) C dX8_isInShape_234 (by decide) (fun h_23 => ?_) (fun h_23 => ?_)
          · have h_23 := (lg_cmp_ge _ _).mp h_23
            refine m_iconst (v := 0) C dX8_isInShape_241 (by decide) ?_
            refine m_istore (L' := [(9, .int 0), (14, .long (q_sd (ar 7) (6 * n0) 2 u1 v1)), (13, .int (nI (6 * n0 + 0))), (12, .int (nI (6 * n0 + 4))), (11, .int 2), (10, .int (bI b9)), (8, .int v1), (7, .int u1), (6, .int (nI (6 * n0))), (5, .int y1), (4, .int x1), (0, .ref o), (1, .int (nI n0)), (2, .int px), (3, .int py)]) C dX8_isInShape_242 (by decide) rfl ?_
            refine m_iload C dX8_isInShape_244 5 rfl ?_
            refine m_if_ne (tgt := 256) C dX8_isInShape_246 (by decide) (fun h_24 => ?_) (fun h_24 => ?_)
            · have h_24 := bI_n h_24
              refine m_iconst (v := 1) C dX8_isInShape_256 (by decide) ?_
              refine m_goto (tgt := 261) C dX8_isInShape_257 (by decide) ?_
              refine m_istore (L' := [(10, .int 1), (9, .int 0), (14, .long (q_sd (ar 7) (6 * n0) 2 u1 v1)), (13, .int (nI (6 * n0 + 0))), (12, .int (nI (6 * n0 + 4))), (11, .int 2), (8, .int v1), (7, .int u1), (6, .int (nI (6 * n0))), (5, .int y1), (4, .int x1), (0, .ref o), (1, .int (nI n0)), (2, .int px), (3, .int py)]) C dX8_isInShape_261 (by decide) rfl ?_
              refine m_iinc (q := 5) (v := 3) (L' := [(11, .int 3), (10, .int 1), (9, .int 0), (14, .long (q_sd (ar 7) (6 * n0) 2 u1 v1)), (13, .int (nI (6 * n0 + 0))), (12, .int (nI (6 * n0 + 4))), (8, .int v1), (7, .int u1), (6, .int (nI (6 * n0))), (5, .int y1), (4, .int x1), (0, .ref o), (1, .int (nI n0)), (2, .int px), (3, .int py)]) C dX8_isInShape_263 rfl (by decide) (by decide) rfl ?_
              refine m_goto (tgt := 156) C dX8_isInShape_266 (by decide) ?_
              refine m_sub (L' := [(11, .int 3), (10, .int 1), (9, .int 0), (8, .int v1), (7, .int u1), (6, .int (nI (6 * n0))), (5, .int y1), (4, .int x1), (0, .ref o), (1, .int (nI n0)), (2, .int px), (3, .int py)]) [0, 1, 2, 6, 7, 8, 9, 10, 11, 12, 13, 14] rfl ?_
              exact ih (3 - 3) (by omega) 3 false true rfl (by omega) (by rw [← hA]; simp [q_lss, h_20, h_23, Int64.not_lt.mpr h_23, h_24]) (by rw [← hB]; simp [q_mor, h_20, h_23, Int64.not_lt.mpr h_23, h_24])
            · have h_24 := bI_z h_24
              refine m_lload C dX8_isInShape_249 1 rfl ?_
              refine m_lconst (v := 0) C dX8_isInShape_251 rfl ?_
              refine m_lcmp C dX8_isInShape_252 ?_
              refine m_if_le (tgt := 260) C dX8_isInShape_253 (by decide) (fun h_25 => ?_) (fun h_25 => ?_)
              · have h_25 := (lg_cmp_le _ _).mp h_25
                refine m_iconst (v := 0) C dX8_isInShape_260 (by decide) ?_
                refine m_istore (L' := [(10, .int 0), (9, .int 0), (14, .long (q_sd (ar 7) (6 * n0) 2 u1 v1)), (13, .int (nI (6 * n0 + 0))), (12, .int (nI (6 * n0 + 4))), (11, .int 2), (8, .int v1), (7, .int u1), (6, .int (nI (6 * n0))), (5, .int y1), (4, .int x1), (0, .ref o), (1, .int (nI n0)), (2, .int px), (3, .int py)]) C dX8_isInShape_261 (by decide) rfl ?_
                refine m_iinc (q := 5) (v := 3) (L' := [(11, .int 3), (10, .int 0), (9, .int 0), (14, .long (q_sd (ar 7) (6 * n0) 2 u1 v1)), (13, .int (nI (6 * n0 + 0))), (12, .int (nI (6 * n0 + 4))), (8, .int v1), (7, .int u1), (6, .int (nI (6 * n0))), (5, .int y1), (4, .int x1), (0, .ref o), (1, .int (nI n0)), (2, .int px), (3, .int py)]) C dX8_isInShape_263 rfl (by decide) (by decide) rfl ?_
                refine m_goto (tgt := 156) C dX8_isInShape_266 (by decide) ?_
                refine m_sub (L' := [(11, .int 3), (10, .int 0), (9, .int 0), (8, .int v1), (7, .int u1), (6, .int (nI (6 * n0))), (5, .int y1), (4, .int x1), (0, .ref o), (1, .int (nI n0)), (2, .int px), (3, .int py)]) [0, 1, 2, 6, 7, 8, 9, 10, 11, 12, 13, 14] rfl ?_
                exact ih (3 - 3) (by omega) 3 false false rfl (by omega) (by rw [← hA]; simp [q_lss, h_20, h_23, Int64.not_lt.mpr h_23, h_24, h_25, Int64.not_lt.mpr h_25]) (by rw [← hB]; simp [q_mor, h_20, h_23, Int64.not_lt.mpr h_23, h_24, h_25, Int64.not_lt.mpr h_25])
              · have h_25 := mt (lg_cmp_le _ _).mpr h_25
                refine m_iconst (v := 1) C dX8_isInShape_256 (by decide) ?_
                refine m_goto (tgt := 261) C dX8_isInShape_257 (by decide) ?_
                refine m_istore (L' := [(10, .int 1), (9, .int 0), (14, .long (q_sd (ar 7) (6 * n0) 2 u1 v1)), (13, .int (nI (6 * n0 + 0))), (12, .int (nI (6 * n0 + 4))), (11, .int 2), (8, .int v1), (7, .int u1), (6, .int (nI (6 * n0))), (5, .int y1), (4, .int x1), (0, .ref o), (1, .int (nI n0)), (2, .int px), (3, .int py)]) C dX8_isInShape_261 (by decide) rfl ?_
                refine m_iinc (q := 5) (v := 3) (L' := [(11, .int 3), (10, .int 1), (9, .int 0), (14, .long (q_sd (ar 7) (6 * n0) 2 u1 v1)), (13, .int (nI (6 * n0 + 0))), (12, .int (nI (6 * n0 + 4))), (8, .int v1), (7, .int u1), (6, .int (nI (6 * n0))), (5, .int y1), (4, .int x1), (0, .ref o), (1, .int (nI n0)), (2, .int px), (3, .int py)]) C dX8_isInShape_263 rfl (by decide) (by decide) rfl ?_
                refine m_goto (tgt := 156) C dX8_isInShape_266 (by decide) ?_
                refine m_sub (L' := [(11, .int 3), (10, .int 1), (9, .int 0), (8, .int v1), (7, .int u1), (6, .int (nI (6 * n0))), (5, .int y1), (4, .int x1), (0, .ref o), (1, .int (nI n0)), (2, .int px), (3, .int py)]) [0, 1, 2, 6, 7, 8, 9, 10, 11, 12, 13, 14] rfl ?_
                exact ih (3 - 3) (by omega) 3 false true rfl (by omega) (by rw [← hA]; simp [q_lss, h_20, h_23, Int64.not_lt.mpr h_23, h_24, h_25, Int64.not_le.mp h_25]) (by rw [← hB]; simp [q_mor, h_20, h_23, Int64.not_lt.mpr h_23, h_24, h_25, Int64.not_le.mp h_25])
          · have h_23 := mt (lg_cmp_ge _ _).mpr h_23
            refine m_iconst (v := 1) C dX8_isInShape_237 (by decide) ?_
            refine m_goto (tgt := 242) C dX8_isInShape_238 (by decide) ?_
            refine m_istore (L' := [(9, .int 1), (14, .long (q_sd (ar 7) (6 * n0) 2 u1 v1)), (13, .int (nI (6 * n0 + 0))), (12, .int (nI (6 * n0 + 4))), (11, .int 2), (10, .int (bI b9)), (8, .int v1), (7, .int u1), (6, .int (nI (6 * n0))), (5, .int y1), (4, .int x1), (0, .ref o), (1, .int (nI n0)), (2, .int px), (3, .int py)]) C dX8_isInShape_242 (by decide) rfl ?_
            refine m_iload C dX8_isInShape_244 5 rfl ?_
            refine m_if_ne (tgt := 256) C dX8_isInShape_246 (by decide) (fun h_26 => ?_) (fun h_26 => ?_)
            · have h_26 := bI_n h_26
              refine m_iconst (v := 1) C dX8_isInShape_256 (by decide) ?_
              refine m_goto (tgt := 261) C dX8_isInShape_257 (by decide) ?_
              refine m_istore (L' := [(10, .int 1), (9, .int 1), (14, .long (q_sd (ar 7) (6 * n0) 2 u1 v1)), (13, .int (nI (6 * n0 + 0))), (12, .int (nI (6 * n0 + 4))), (11, .int 2), (8, .int v1), (7, .int u1), (6, .int (nI (6 * n0))), (5, .int y1), (4, .int x1), (0, .ref o), (1, .int (nI n0)), (2, .int px), (3, .int py)]) C dX8_isInShape_261 (by decide) rfl ?_
              refine m_iinc (q := 5) (v := 3) (L' := [(11, .int 3), (10, .int 1), (9, .int 1), (14, .long (q_sd (ar 7) (6 * n0) 2 u1 v1)), (13, .int (nI (6 * n0 + 0))), (12, .int (nI (6 * n0 + 4))), (8, .int v1), (7, .int u1), (6, .int (nI (6 * n0))), (5, .int y1), (4, .int x1), (0, .ref o), (1, .int (nI n0)), (2, .int px), (3, .int py)]) C dX8_isInShape_263 rfl (by decide) (by decide) rfl ?_
              refine m_goto (tgt := 156) C dX8_isInShape_266 (by decide) ?_
              refine m_sub (L' := [(11, .int 3), (10, .int 1), (9, .int 1), (8, .int v1), (7, .int u1), (6, .int (nI (6 * n0))), (5, .int y1), (4, .int x1), (0, .ref o), (1, .int (nI n0)), (2, .int px), (3, .int py)]) [0, 1, 2, 6, 7, 8, 9, 10, 11, 12, 13, 14] rfl ?_
              exact ih (3 - 3) (by omega) 3 true true rfl (by omega) (by rw [← hA]; simp [q_lss, h_20, h_23, Int64.not_le.mp h_23, h_26]) (by rw [← hB]; simp [q_mor, h_20, h_23, Int64.not_le.mp h_23, h_26])
            · have h_26 := bI_z h_26
              refine m_lload C dX8_isInShape_249 1 rfl ?_
              refine m_lconst (v := 0) C dX8_isInShape_251 rfl ?_
              refine m_lcmp C dX8_isInShape_252 ?_
              refine m_if_le (tgt := 260) C dX8_isInShape_253 (by decide) (fun h_27 => ?_) (fun h_27 => ?_)
              · have h_27 := (lg_cmp_le _ _).mp h_27
                refine m_iconst (v := 0) C dX8_isInShape_260 (by decide) ?_
                refine m_istore (L' := [(10, .int 0), (9, .int 1), (14, .long (q_sd (ar 7) (6 * n0) 2 u1 v1)), (13, .int (nI (6 * n0 + 0))), (12, .int (nI (6 * n0 + 4))), (11, .int 2), (8, .int v1), (7, .int u1), (6, .int (nI (6 * n0))), (5, .int y1), (4, .int x1), (0, .ref o), (1, .int (nI n0)), (2, .int px), (3, .int py)]) C dX8_isInShape_261 (by decide) rfl ?_
                refine m_iinc (q := 5) (v := 3) (L' := [(11, .int 3), (10, .int 0), (9, .int 1), (14, .long (q_sd (ar 7) (6 * n0) 2 u1 v1)), (13, .int (nI (6 * n0 + 0))), (12, .int (nI (6 * n0 + 4))), (8, .int v1), (7, .int u1), (6, .int (nI (6 * n0))), (5, .int y1), (4, .int x1), (0, .ref o), (1, .int (nI n0)), (2, .int px), (3, .int py)]) C dX8_isInShape_263 rfl (by decide) (by decide) rfl ?_
                refine m_goto (tgt := 156) C dX8_isInShape_266 (by decide) ?_
                refine m_sub (L' := [(11, .int 3), (10, .int 0), (9, .int 1), (8, .int v1), (7, .int u1), (6, .int (nI (6 * n0))), (5, .int y1), (4, .int x1), (0, .ref o), (1, .int (nI n0)), (2, .int px), (3, .int py)]) [0, 1, 2, 6, 7, 8, 9, 10, 11, 12, 13, 14] rfl ?_
                exact ih (3 - 3) (by omega) 3 true false rfl (by omega) (by rw [← hA]; simp [q_lss, h_20, h_23, Int64.not_le.mp h_23, h_26, h_27, Int64.not_lt.mpr h_27]) (by rw [← hB]; simp [q_mor, h_20, h_23, Int64.not_le.mp h_23, h_26, h_27, Int64.not_lt.mpr h_27])
              · have h_27 := mt (lg_cmp_le _ _).mpr h_27
                refine m_iconst (v := 1) C dX8_isInShape_256 (by decide) ?_
                refine m_goto (tgt := 261) C dX8_isInShape_257 (by decide) ?_
                refine m_istore (L' := [(10, .int 1), (9, .int 1), (14, .long (q_sd (ar 7) (6 * n0) 2 u1 v1)), (13, .int (nI (6 * n0 + 0))), (12, .int (nI (6 * n0 + 4))), (11, .int 2), (8, .int v1), (7, .int u1), (6, .int (nI (6 * n0))), (5, .int y1), (4, .int x1), (0, .ref o), (1, .int (nI n0)), (2, .int px), (3, .int py)]) C dX8_isInShape_261 (by decide) rfl ?_
                refine m_iinc (q := 5) (v := 3) (L' := [(11, .int 3), (10, .int 1), (9, .int 1), (14, .long (q_sd (ar 7) (6 * n0) 2 u1 v1)), (13, .int (nI (6 * n0 + 0))), (12, .int (nI (6 * n0 + 4))), (8, .int v1), (7, .int u1), (6, .int (nI (6 * n0))), (5, .int y1), (4, .int x1), (0, .ref o), (1, .int (nI n0)), (2, .int px), (3, .int py)]) C dX8_isInShape_263 rfl (by decide) (by decide) rfl ?_
                refine m_goto (tgt := 156) C dX8_isInShape_266 (by decide) ?_
                refine m_sub (L' := [(11, .int 3), (10, .int 1), (9, .int 1), (8, .int v1), (7, .int u1), (6, .int (nI (6 * n0))), (5, .int y1), (4, .int x1), (0, .ref o), (1, .int (nI n0)), (2, .int px), (3, .int py)]) [0, 1, 2, 6, 7, 8, 9, 10, 11, 12, 13, 14] rfl ?_
                exact ih (3 - 3) (by omega) 3 true true rfl (by omega) (by rw [← hA]; simp [q_lss, h_20, h_23, Int64.not_le.mp h_23, h_26, h_27, Int64.not_le.mp h_27]) (by rw [← hB]; simp [q_mor, h_20, h_23, Int64.not_le.mp h_23, h_26, h_27, Int64.not_le.mp h_27])
    · show mV p l e ({ frames := 2, cells := 0, slots := 0, locals := 80 } : Room) s m args below meth c 16 D A Q M 0 0 [(11, .int 3), (10, .int (bI b9)), (9, .int (bI a9)), (8, .int v1), (7, .int u1), (6, .int (nI (6 * n0))), (5, .int y1), (4, .int x1), (0, .ref o), (1, .int (nI n0)), (2, .int px), (3, .int py)] [] 156
      refine m_iload C dX8_isInShape_156 0 rfl ?_
      refine m_iconst (v := 3) C dX8_isInShape_158 (by decide) ?_
      refine m_icmp_ge (tgt := 269) C dX8_isInShape_159 (by decide) (fun h_28 => ?_) (fun h_28 => ?_)
      · have hA2 : a9 = A9 := by rw [← hA]; simp [q_lss]
        have hB2 : b9 = B9 := by rw [← hB]; simp [q_mor]
        rw [← hA2, ← hB2] at kx
        exact kx
      · exact absurd h_28 (by decide)
theorem q_tri_eq {f : Nat → Int32} {a : Nat} {u v : Int32} (h : bI (q_lss f a u v 3) = bI (q_mor f a u v 3)) : q_tri f a u v = false := by
  unfold q_tri
  cases h1 : q_lss f a u v 3 <;> cases h2 : q_mor f a u v 3 <;> rw [h1, h2] at h <;> first | rfl | exact absurd h (by decide)
theorem q_tri_ne {f : Nat → Int32} {a : Nat} {u v : Int32} (h : ¬ bI (q_lss f a u v 3) = bI (q_mor f a u v 3)) : q_tri f a u v = true := by
  unfold q_tri
  cases h1 : q_lss f a u v 3 <;> cases h2 : q_mor f a u v 3 <;> rw [h1, h2] at h <;> first | rfl | exact absurd rfl h
set_option maxHeartbeats 4000000 in
set_option maxRecDepth 100000 in
theorem c_X8_isInShape (D : mD) (A : Nat → Prop) (l : Launch) {G : Nat → Nat} {o : Nat} {F : Mm} {t g u : Int32} {cm : Nat} {ar : rA} {od : Nat → Int32} {M : Mm} (hR : rW D G o F t (nI cm) g u (upA ar 17 od) M) (hw : wf ar cm) {n0 : Nat} (hn : n0 < cm) (hp : ¬ ar 2 n0 = 0) (px py : Int32) : mMi D A l yX8_isInShape wsX8_isInShape ({ frames := 2, cells := 0, slots := 0, locals := 80 } : Room) [.ref o, .int (nI n0), .int px, .int py] M (fun r M' => M' = M ∧ r = bI (q_inS ar n0 px py)) 0 0 := by
  have hcm := hw.1
  obtain ⟨l2, hch, hCH, hl39, hmem, hnd⟩ := wf_at hw hn hp
  refine m_start (cc := cX8_isInShape) (maxL := 16) (ret := (some .boolean)) (by decide) rfl (Nat.le_of_ble_eq_true rfl) ?_
  intro p e s m args below meth c C
  have i8 : ∀ w ∈ wsX80, w ∈ wsX8_isInShape := by decide +kernel
  refine m_sub (L' := [(0, .ref o), (1, .int (nI n0)), (2, .int px), (3, .int py)]) [0, 1, 2, 3] rfl ?_
  refine m_iload_n C dX8_isInShape_0 rfl 2 rfl ?_
  refine m_aload_n C dX8_isInShape_1 rfl 0 rfl ?_
  refine m_iload_n C dX8_isInShape_2 rfl 1 rfl ?_
  refine m_iconst (v := 0) C dX8_isInShape_3 (by decide) ?_
  refine m_callVFi (As := [.int (nI n0), .int 0]) (st := [.int px]) (v := q_off ar 8 (n0 :: l2) 0) C hR.1 rfl (c_X8_offset D A l hR (l0 := n0 :: l2) hCH false) (cwV 2 C.1.2.2.2.2 gX8_isInShape_X8_offset rfl rfl rfl (by decide +kernel) ⟨Nat.le_of_ble_eq_true rfl, Nat.le_of_ble_eq_true rfl⟩) rfl rfl (Nat.le_of_ble_eq_true rfl) dX8_isInShape_4 ⟨Nat.le_of_ble_eq_true rfl, Nat.le_of_ble_eq_true rfl⟩ ?_
  refine m_isub C dX8_isInShape_7 ?_
  obtain ⟨x1, ex1⟩ : ∃ z : Int32, z = px - (q_off ar 8 (n0 :: l2) 0) := ⟨_, rfl⟩
  refine m_i (y := x1) (ex1.symm) ?_
  refine m_istore (L' := [(4, .int x1), (0, .ref o), (1, .int (nI n0)), (2, .int px), (3, .int py)]) C dX8_isInShape_8 (by decide) rfl ?_
  refine m_iload_n C dX8_isInShape_10 rfl 4 rfl ?_
  refine m_aload_n C dX8_isInShape_11 rfl 1 rfl ?_
  refine m_iload_n C dX8_isInShape_12 rfl 2 rfl ?_
  refine m_iconst (v := 1) C dX8_isInShape_13 (by decide) ?_
  refine m_callVFi (As := [.int (nI n0), .int 1]) (st := [.int py]) (v := q_off ar 9 (n0 :: l2) 0) C hR.1 rfl (c_X8_offset D A l hR (l0 := n0 :: l2) hCH true) (cwV 2 C.1.2.2.2.2 gX8_isInShape_X8_offset rfl rfl rfl (by decide +kernel) ⟨Nat.le_of_ble_eq_true rfl, Nat.le_of_ble_eq_true rfl⟩) rfl rfl (Nat.le_of_ble_eq_true rfl) dX8_isInShape_14 ⟨Nat.le_of_ble_eq_true rfl, Nat.le_of_ble_eq_true rfl⟩ ?_
  refine m_isub C dX8_isInShape_17 ?_
  obtain ⟨y1, ey1⟩ : ∃ z : Int32, z = py - (q_off ar 9 (n0 :: l2) 0) := ⟨_, rfl⟩
  refine m_i (y := y1) (ey1.symm) ?_
  refine m_istore (L' := [(5, .int y1), (4, .int x1), (0, .ref o), (1, .int (nI n0)), (2, .int px), (3, .int py)]) C dX8_isInShape_18 (by decide) rfl ?_
  refine m_bipush (v := 6) C dX8_isInShape_20 (by decide) ?_
  refine m_iload_n C dX8_isInShape_22 rfl 3 rfl ?_
  refine m_imul C dX8_isInShape_23 ?_
  refine m_i (y := nI (6 * n0)) (by rw [show (6 : Int32) = nI 6 from rfl, pk_mul]) ?_
  refine m_istore (L' := [(6, .int (nI (6 * n0))), (5, .int y1), (4, .int x1), (0, .ref o), (1, .int (nI n0)), (2, .int px), (3, .int py)]) C dX8_isInShape_24 (by decide) rfl ?_
  refine m_aload_n C dX8_isInShape_26 rfl 3 rfl ?_
  refine r_get C hR i8 3 (by decide) (by decide +kernel) rfl rfl dX8_isInShape_27 ?_
  refine m_iload_n C dX8_isInShape_30 rfl 4 rfl ?_
  refine r_iald C hR 3 (by decide) rfl n0 (show n0 < 40 by omega) (rfl) dX8_isInShape_31 ?_
  refine m_i (y := ar 3 n0) (rfl) ?_
  refine m_iconst (v := 1) C dX8_isInShape_32 (by decide) ?_
  refine m_icmp_ne (tgt := 50) C dX8_isInShape_33 (by decide) (fun h_1 => ?_) (fun h_1 => ?_)
  · refine m_iconst (v := 2) C dX8_isInShape_50 (by decide) ?_
    refine m_iload C dX8_isInShape_51 2 rfl ?_
    refine m_imul C dX8_isInShape_53 ?_
    refine m_iconst (v := 1) C dX8_isInShape_54 (by decide) ?_
    refine m_iadd C dX8_isInShape_55 ?_
    obtain ⟨u1, eu1⟩ : ∃ z : Int32, z = (2 * x1) + 1 := ⟨_, rfl⟩
    refine m_i (y := u1) (eu1.symm) ?_
    refine m_istore (L' := [(7, .int u1), (6, .int (nI (6 * n0))), (5, .int y1), (4, .int x1), (0, .ref o), (1, .int (nI n0)), (2, .int px), (3, .int py)]) C dX8_isInShape_56 (by decide) rfl ?_
    refine m_iconst (v := 2) C dX8_isInShape_58 (by decide) ?_
    refine m_iload C dX8_isInShape_59 2 rfl ?_
    refine m_imul C dX8_isInShape_61 ?_
    refine m_iconst (v := 1) C dX8_isInShape_62 (by decide) ?_
    refine m_iadd C dX8_isInShape_63 ?_
    obtain ⟨v1, ev1⟩ : ∃ z : Int32, z = (2 * y1) + 1 := ⟨_, rfl⟩
    refine m_i (y := v1) (ev1.symm) ?_
    refine m_istore (L' := [(8, .int v1), (7, .int u1), (6, .int (nI (6 * n0))), (5, .int y1), (4, .int x1), (0, .ref o), (1, .int (nI n0)), (2, .int px), (3, .int py)]) C dX8_isInShape_64 (by decide) rfl ?_
    refine m_aload_n C dX8_isInShape_66 rfl 5 rfl ?_
    refine r_get C hR i8 3 (by decide) (by decide +kernel) rfl rfl dX8_isInShape_67 ?_
    refine m_iload_n C dX8_isInShape_70 rfl 6 rfl ?_
    refine r_iald C hR 3 (by decide) rfl n0 (show n0 < 40 by omega) (rfl) dX8_isInShape_71 ?_
    refine m_i (y := ar 3 n0) (rfl) ?_
    refine m_iconst (v := 2) C dX8_isInShape_72 (by decide) ?_
    refine m_icmp_ne (tgt := 147) C dX8_isInShape_73 (by decide) (fun h_2 => ?_) (fun h_2 => ?_)
    · refine m_iconst (v := 0) C dX8_isInShape_147 (by decide) ?_
      refine m_istore (L' := [(9, .int 0), (8, .int v1), (7, .int u1), (6, .int (nI (6 * n0))), (5, .int y1), (4, .int x1), (0, .ref o), (1, .int (nI n0)), (2, .int px), (3, .int py)]) C dX8_isInShape_148 (by decide) rfl ?_
      refine m_iconst (v := 0) C dX8_isInShape_150 (by decide) ?_
      refine m_istore (L' := [(10, .int 0), (9, .int 0), (8, .int v1), (7, .int u1), (6, .int (nI (6 * n0))), (5, .int y1), (4, .int x1), (0, .ref o), (1, .int (nI n0)), (2, .int px), (3, .int py)]) C dX8_isInShape_151 (by decide) rfl ?_
      refine m_iconst (v := 0) C dX8_isInShape_153 (by decide) ?_
      refine m_istore (L' := [(11, .int 0), (10, .int 0), (9, .int 0), (8, .int v1), (7, .int u1), (6, .int (nI (6 * n0))), (5, .int y1), (4, .int x1), (0, .ref o), (1, .int (nI n0)), (2, .int px), (3, .int py)]) C dX8_isInShape_154 (by decide) rfl ?_
      have hk0 : ¬ ar 3 n0 = 1 ∧ ¬ ar 3 n0 = 2 := ⟨by assumption, by assumption⟩
      refine m_sub (L' := [(11, .int 0), (10, .int 0), (9, .int 0), (8, .int v1), (7, .int u1), (6, .int (nI (6 * n0))), (5, .int y1), (4, .int x1), (0, .ref o), (1, .int (nI n0)), (2, .int px), (3, .int py)]) [0, 1, 2, 3, 4, 5, 6, 7, 8, 9, 10, 11] rfl ?_
      refine lp_X8_isInShape (A9 := q_lss (ar 7) (6 * n0) u1 v1 3) (B9 := q_mor (ar 7) (6 * n0) u1 v1 3) hR (by omega) C i8 ?_ _ 0 false false rfl (by omega) (Bool.false_or _) (Bool.false_or _)
      refine m_iload C dX8_isInShape_269 2 rfl ?_
      refine m_iload C dX8_isInShape_271 1 rfl ?_
      refine m_icmp_eq (tgt := 280) C dX8_isInShape_273 (by decide) (fun h_3 => ?_) (fun h_3 => ?_)
      · have hxt : q_tri (ar 7) (6 * n0) u1 v1 = false := q_tri_eq h_3
        refine m_iconst (v := 0) C dX8_isInShape_280 (by decide) ?_
        exact m_zret C (Nat.le_of_ble_eq_true rfl) (Nat.le_of_ble_eq_true rfl) dX8_isInShape_281 (Or.inl rfl) (⟨rfl, by rw [q_inS, hch, ← ex1, ← ey1, q_geo, if_neg hk0.1, if_neg hk0.2, ← eu1, ← ev1, hxt]; rfl⟩)
      · have hxt : q_tri (ar 7) (6 * n0) u1 v1 = true := q_tri_ne h_3
        refine m_iconst (v := 1) C dX8_isInShape_276 (by decide) ?_
        refine m_goto (tgt := 281) C dX8_isInShape_277 (by decide) ?_
        exact m_zret C (Nat.le_of_ble_eq_true rfl) (Nat.le_of_ble_eq_true rfl) dX8_isInShape_281 (Or.inr rfl) (⟨rfl, by rw [q_inS, hch, ← ex1, ← ey1, q_geo, if_neg hk0.1, if_neg hk0.2, ← eu1, ← ev1, hxt]; rfl⟩)
    · refine m_iload C dX8_isInShape_76 1 rfl ?_
      refine m_iconst (v := 2) C dX8_isInShape_78 (by decide) ?_
      refine m_aload_n C dX8_isInShape_79 rfl 5 rfl ?_
      refine r_get C hR i8 7 (by decide) (by decide +kernel) rfl rfl dX8_isInShape_80 ?_
      refine m_iload C dX8_isInShape_83 2 rfl ?_
      refine r_iald C hR 7 (by decide) rfl (6 * n0) (show (6 * n0) < 240 by omega) (rfl) dX8_isInShape_85 ?_
      refine m_i (y := ar 7 (6 * n0)) (rfl) ?_
      refine m_imul C dX8_isInShape_86 ?_
      refine m_isub C dX8_isInShape_87 ?_
      refine m_istore (L' := [(9, .int (u1 - (2 * (ar 7 (6 * n0))))), (8, .int v1), (7, .int u1), (6, .int (nI (6 * n0))), (5, .int y1), (4, .int x1), (0, .ref o), (1, .int (nI n0)), (2, .int px), (3, .int py)]) C dX8_isInShape_88 (by decide) rfl ?_
      refine m_iload C dX8_isInShape_90 1 rfl ?_
      refine m_iconst (v := 2) C dX8_isInShape_92 (by decide) ?_
      refine m_aload_n C dX8_isInShape_93 rfl 6 rfl ?_
      refine r_get C hR i8 7 (by decide) (by decide +kernel) rfl rfl dX8_isInShape_94 ?_
      refine m_iload C dX8_isInShape_97 3 rfl ?_
      refine m_iconst (v := 1) C dX8_isInShape_99 (by decide) ?_
      refine m_iadd C dX8_isInShape_100 ?_
      refine r_iald C hR 7 (by decide) rfl (6 * n0 + 1) (show (6 * n0 + 1) < 240 by omega) (by rw [nI_1]) dX8_isInShape_101 ?_
      refine m_i (y := ar 7 (6 * n0 + 1)) (rfl) ?_
      refine m_imul C dX8_isInShape_102 ?_
      refine m_isub C dX8_isInShape_103 ?_
      refine m_istore (L' := [(10, .int (v1 - (2 * (ar 7 (6 * n0 + 1))))), (9, .int (u1 - (2 * (ar 7 (6 * n0))))), (8, .int v1), (7, .int u1), (6, .int (nI (6 * n0))), (5, .int y1), (4, .int x1), (0, .ref o), (1, .int (nI n0)), (2, .int px), (3, .int py)]) C dX8_isInShape_104 (by decide) rfl ?_
      refine m_iload C dX8_isInShape_106 1 rfl ?_
      refine m_iload C dX8_isInShape_108 1 rfl ?_
      refine m_imul C dX8_isInShape_110 ?_
      refine m_iload C dX8_isInShape_111 0 rfl ?_
      refine m_iload C dX8_isInShape_113 0 rfl ?_
      refine m_imul C dX8_isInShape_115 ?_
      refine m_iadd C dX8_isInShape_116 ?_
      refine m_iconst (v := 4) C dX8_isInShape_117 (by decide) ?_
      refine m_aload_n C dX8_isInShape_118 rfl 7 rfl ?_
      refine r_get C hR i8 7 (by decide) (by decide +kernel) rfl rfl dX8_isInShape_119 ?_
      refine m_iload C dX8_isInShape_122 4 rfl ?_
      refine m_iconst (v := 2) C dX8_isInShape_124 (by decide) ?_
      refine m_iadd C dX8_isInShape_125 ?_
      refine r_iald C hR 7 (by decide) rfl (6 * n0 + 2) (show (6 * n0 + 2) < 240 by omega) (by rw [show (2 : Int32) = nI 2 from rfl, nI_add]) dX8_isInShape_126 ?_
      refine m_i (y := ar 7 (6 * n0 + 2)) (rfl) ?_
      refine m_imul C dX8_isInShape_127 ?_
      refine m_aload_n C dX8_isInShape_128 rfl 7 rfl ?_
      refine r_get C hR i8 7 (by decide) (by decide +kernel) rfl rfl dX8_isInShape_129 ?_
      refine m_iload C dX8_isInShape_132 4 rfl ?_
      refine m_iconst (v := 2) C dX8_isInShape_134 (by decide) ?_
      refine m_iadd C dX8_isInShape_135 ?_
      refine r_iald C hR 7 (by decide) rfl (6 * n0 + 2) (show (6 * n0 + 2) < 240 by omega) (by rw [show (2 : Int32) = nI 2 from rfl, nI_add]) dX8_isInShape_136 ?_
      refine m_i (y := ar 7 (6 * n0 + 2)) (rfl) ?_
      refine m_imul C dX8_isInShape_137 ?_
      refine m_icmp_gt (tgt := 145) C dX8_isInShape_138 (by decide) (fun h_4 => ?_) (fun h_4 => ?_)
      · refine m_iconst (v := 0) C dX8_isInShape_145 (by decide) ?_
        exact m_zret C (Nat.le_of_ble_eq_true rfl) (Nat.le_of_ble_eq_true rfl) dX8_isInShape_146 (Or.inl rfl) (⟨rfl, by rw [q_inS, hch, ← ex1, ← ey1]; simp only [q_geo]; rw [← eu1, ← ev1]; simp [q_geo, q_disc, h_1, h_2, h_4, Int32.not_le.mpr h_4, bI, Int32.not_le, Int32.not_lt]⟩)
      · refine m_iconst (v := 1) C dX8_isInShape_141 (by decide) ?_
        refine m_goto (tgt := 146) C dX8_isInShape_142 (by decide) ?_
        exact m_zret C (Nat.le_of_ble_eq_true rfl) (Nat.le_of_ble_eq_true rfl) dX8_isInShape_146 (Or.inr rfl) (⟨rfl, by rw [q_inS, hch, ← ex1, ← ey1]; simp only [q_geo]; rw [← eu1, ← ev1]; simp [q_geo, q_disc, h_1, h_2, Int32.not_lt.mp h_4, bI, Int32.not_le, Int32.not_lt]⟩)
  · refine m_aload_n C dX8_isInShape_36 rfl 3 rfl ?_
    refine r_get C hR i8 7 (by decide) (by decide +kernel) rfl rfl dX8_isInShape_37 ?_
    refine m_iload C dX8_isInShape_40 0 rfl ?_
    refine m_iload C dX8_isInShape_42 2 rfl ?_
    refine m_iload C dX8_isInShape_44 1 rfl ?_
    refine m_callSFi (As := [.ref (G 7), .int (nI (6 * n0)), .int x1, .int y1]) (st := []) (v := bI (q_box (ar 7) (6 * n0) x1 y1)) C (c_X8_isWithin_ D A l hR (f := 7) (a := 6 * n0) (by decide) rfl (show _ < 240 by omega) x1 y1) (va_cwS 4 C.1.2.2.2.2 gX8_isInShape_X8_isWithin_ rfl rfl rfl (by decide +kernel) ⟨Nat.le_of_ble_eq_true rfl, Nat.le_of_ble_eq_true rfl⟩) rfl rfl (Nat.le_of_ble_eq_true rfl) dX8_isInShape_46 ⟨Nat.le_of_ble_eq_true rfl, Nat.le_of_ble_eq_true rfl⟩ ?_
    exact m_zret C (Nat.le_of_ble_eq_true rfl) (Nat.le_of_ble_eq_true rfl) dX8_isInShape_49 (bI_01 _) (⟨rfl, by rw [q_inS, hch, ← ex1, ← ey1]; simp [q_geo, q_disc, h_1, bI, Int32.not_le, Int32.not_lt]⟩)
