/-! ===== act: the nodes that come ===== -/
set_option maxHeartbeats 4000000 in
set_option maxRecDepth 100000 in
theorem act_0 {p : Program} {l : Launch} {e : Env} {s : State} {m : MethodId} {args : Array Value} {below : List Frame} {meth : Method} {c : Code} {D : mD} {A : Nat → Prop} {Z : Nat → Nat} {o cm : Nat} {g : Int32} {ar : rA} {F M : Mm} {qn qc qp : Nat} {nr cr : Nat → Option Nat} {B : Nat → Nat → Int32} {K : Nat → List Nat} (hst : l.stackTraces = false) (hI : cI D Z F cm g ar M) (hRF : hW D o qn qc qp nr cr cm g B K F) (hT : hTT ar cm nr B K) (hP : lP cm ar) (hB : PB ar) (hg : ∃ b, b ≤ 255 ∧ g = nI b) {u n an a0 b0 : Nat} {x w : Int32} (hu : cP ar cm u) (hu0 : ar 3 u = 0) (hn : cP ar cm n) (han : nr n = some an) (ha0 : a0 < 70) (hb0 : b0 < 55) (C : mC p m meth c cL_act 21 s args wsL_act yL_act.cls D A yL_act (some .boolean)) (i8 : ∀ w ∈ wsX80, w ∈ wsL_act) (hc : cm < 40) : mV p l e ({ frames := 45, cells := 110, slots := 3200, locals := 1750 } : Room) s m args below meth c 21 D A (MQ below (va_Qi (fun r M' => r = 1 ∧ hAA D (Z 0) o M') (mB D A) A) args s 110 3200 A) M 0 0 [(8, .int (nI b0 - 5)), (7, .int (nI a0 - 5)), (6, .ref an), (5, .int (nI n)), (4, .int (nI u)), (3, .int w), (2, .int x), (1, .ref o), (0, .ref (Z 0))] [] 148 := by
  have hw : wf ar cm := hP.1
  have hb : BD ar cm := hP.2.1
  have hR : hW D o qn qc qp nr cr cm g B K M := hRF.mono (fun a x h => hI.F0 h)
  have hu4 := cP_40 hw hu
  have hn4 := cP_40 hw hn
  have hEnd : hAA D (Z 0) o M := ⟨Z, cm, g, ar, rfl, ⟨F, qn, qc, qp, nr, cr, B, K, hI, hRF, hT⟩, ⟨hP, hB⟩, hg⟩
  refine m_aload_n C dL_act_148 rfl 8 rfl ?_
  refine m_iload C dL_act_149 4 rfl ?_
  have hk0 : q_addk cm ar (nI u) 0 true = 0 := addk_0 hw hu hu0 hc (rfl)
  obtain ⟨mf0, hme⟩ := hI.me
  refine m_callVXiH (As := [.int (nI u)]) (st := []) C hme rfl (c_X7_addGroup D A l hst hI hw hb) (cwV 1 C.1.2.2.2.2 gL_act_X7_addGroup rfl rfl rfl (by decide +kernel) ⟨Nat.le_of_ble_eq_true rfl, Nat.le_of_ble_eq_true rfl⟩) rfl rfl (Nat.le_of_ble_eq_true rfl) dL_act_151 ⟨Nat.le_of_ble_eq_true rfl, Nat.le_of_ble_eq_true rfl⟩ (fun E M9 hx => ?_) (fun r M3 hp => ?_)
  · rcases hx.2 with ⟨h9, -⟩ | ⟨h9, -⟩ <;> exact absurd (hk0.symm.trans h9) (by decide)
  · obtain ⟨-, hr, Z', F', hX0, hZ, hI'⟩ := hp
    subst hr
    have hA' : AB (q_addS cm ar (nI u) 0 (q_sh []) 0) (cm + 1) := ⟨lP_addGroup hP hk0, PB_add hB⟩
    have hRF' := hRF.mono hX0
    have hR3 : hW D o qn qc qp nr cr cm g B K M3 := hRF'.mono (fun a x h => hI'.F0 h)
    refine m_aload_n C dL_act_154 rfl 7 rfl ?_
    refine m_iconst (v := 0) C dL_act_155 (by decide) ?_
    refine m_iload C dL_act_156 4 rfl ?_
    refine m_iconst (v := 0) C dL_act_158 (by decide) ?_
    refine m_newI C (by decide +kernel) (N := 0) rfl (by decide) (Nat.le_of_ble_eq_true rfl) (Nat.le_of_ble_eq_true rfl) dL_act_159 (fun sq hq0 => ?_)
    have hq : m_up M3 sq (jI D 0 (fun _ => 0)) sq = some (jI D 0 (fun _ => 0)) := m_up_s
    have hX : mS M3 (m_up M3 sq (jI D 0 (fun _ => 0))) := mS.rf.new hq0
    revert hq hX
    generalize m_up M3 sq (jI D 0 (fun _ => 0)) = M2
    intro hq hX
    have hR4 := hR3.mono hX
    have hKu : (K u).length ≤ 40 := by rw [hT.2.2.1 u hu]; have := kids_le hw hu; omega
    refine m_callVi (As := [.int 0, .int (nI u), .ref sq]) (st := [.int (nI cm)]) C hR4.1 rfl (c_X8_add D A l hR4 (by decide) hq hc hu4 hKu) (cwV 3 C.1.2.2.2.2 gL_act_X8_add rfl rfl rfl (by decide +kernel) ⟨Nat.le_of_ble_eq_true rfl, Nat.le_of_ble_eq_true rfl⟩) rfl rfl (Nat.le_of_ble_eq_true rfl) dL_act_161 ⟨Nat.le_of_ble_eq_true rfl, Nat.le_of_ble_eq_true rfl⟩ (fun r5 M5 hq5 => ?_)
    obtain ⟨hr5, qq, cr5, row, hR5, hrow, hK5⟩ := hq5
    subst hr5
    have hE := act_end hI' hRF' ((hK.sub hX).tr hK5) hR5 (T_add hT hw hc hu hu0 hrow) hA' hg hZ
    refine m_icmp_ne (tgt := 171) C dL_act_164 (by decide) (fun h_1 => ?_) (fun h_1 => ?_)
    · exact absurd rfl h_1
    · refine m_iconst (v := 1) C dL_act_167 (by decide) ?_
      refine m_goto (tgt := 172) C dL_act_168 (by decide) ?_
      exact m_zret C (Nat.le_of_ble_eq_true rfl) (Nat.le_of_ble_eq_true rfl) dL_act_172 (Or.inr rfl) ⟨rfl, hE⟩
set_option maxHeartbeats 4000000 in
set_option maxRecDepth 100000 in
theorem act_1 {p : Program} {l : Launch} {e : Env} {s : State} {m : MethodId} {args : Array Value} {below : List Frame} {meth : Method} {c : Code} {D : mD} {A : Nat → Prop} {Z : Nat → Nat} {o cm : Nat} {g : Int32} {ar : rA} {F M : Mm} {qn qc qp : Nat} {nr cr : Nat → Option Nat} {B : Nat → Nat → Int32} {K : Nat → List Nat} (hst : l.stackTraces = false) (hI : cI D Z F cm g ar M) (hRF : hW D o qn qc qp nr cr cm g B K F) (hT : hTT ar cm nr B K) (hP : lP cm ar) (hB : PB ar) (hg : ∃ b, b ≤ 255 ∧ g = nI b) {u n an a0 b0 : Nat} {x w : Int32} (hu : cP ar cm u) (hu0 : ar 3 u = 0) (hn : cP ar cm n) (han : nr n = some an) (ha0 : a0 < 70) (hb0 : b0 < 55) (C : mC p m meth c cL_act 21 s args wsL_act yL_act.cls D A yL_act (some .boolean)) (i8 : ∀ w ∈ wsX80, w ∈ wsL_act) (hc : cm < 40) : mV p l e ({ frames := 45, cells := 110, slots := 3200, locals := 1750 } : Room) s m args below meth c 21 D A (MQ below (va_Qi (fun r M' => r = 1 ∧ hAA D (Z 0) o M') (mB D A) A) args s 110 3200 A) M 0 0 [(8, .int (nI b0 - 5)), (7, .int (nI a0 - 5)), (6, .ref an), (5, .int (nI n)), (4, .int (nI u)), (3, .int w), (2, .int x), (1, .ref o), (0, .ref (Z 0))] [] 173 := by
  have hw : wf ar cm := hP.1
  have hb : BD ar cm := hP.2.1
  have hR : hW D o qn qc qp nr cr cm g B K M := hRF.mono (fun a x h => hI.F0 h)
  have hu4 := cP_40 hw hu
  have hn4 := cP_40 hw hn
  have hEnd : hAA D (Z 0) o M := ⟨Z, cm, g, ar, rfl, ⟨F, qn, qc, qp, nr, cr, B, K, hI, hRF, hT⟩, ⟨hP, hB⟩, hg⟩
  refine m_aload_n C dL_act_173 rfl 8 rfl ?_
  refine m_iload C dL_act_174 4 rfl ?_
  refine m_iload C dL_act_176 1 rfl ?_
  refine m_iload C dL_act_178 0 rfl ?_
  refine m_iconst (v := 1) C dL_act_180 (by decide) ?_
  refine m_iload_n C dL_act_181 rfl 6 rfl ?_
  refine m_bipush (v := 7) C dL_act_182 (by decide) ?_
  refine m_ishr C dL_act_184 ?_
  refine m_bipush (v := 40) C dL_act_185 (by decide) ?_
  refine m_callSFi (As := [.int (x >>> (7 &&& 31)), .int 40]) (st := [.int 1, .int (nI b0 - 5), .int (nI a0 - 5), .int (nI u), .ref (Z 0)]) (v := nI (q_bl (x >>> (7 &&& 31)) 40)) C (c_L_below D A l (v := x >>> (7 &&& 31)) (N := 40) (by decide) (by decide)) (va_cwS 2 C.1.2.2.2.2 gL_act_L_below rfl rfl rfl (by decide +kernel) ⟨Nat.le_of_ble_eq_true rfl, Nat.le_of_ble_eq_true rfl⟩) rfl rfl (Nat.le_of_ble_eq_true rfl) dL_act_187 ⟨Nat.le_of_ble_eq_true rfl, Nat.le_of_ble_eq_true rfl⟩ ?_
  obtain ⟨t_1, lt_1, et_1⟩ : ∃ z, z < 40 ∧ q_bl (x >>> (7 &&& 31)) 40 = z := ⟨_, q_bl_lt (by decide), rfl⟩
  rw [et_1]
  refine m_iadd C dL_act_190 ?_
  refine m_iconst (v := 1) C dL_act_191 (by decide) ?_
  refine m_iload_n C dL_act_192 rfl 6 rfl ?_
  refine m_bipush (v := 8) C dL_act_193 (by decide) ?_
  refine m_ishr C dL_act_195 ?_
  refine m_bipush (v := 40) C dL_act_196 (by decide) ?_
  refine m_callSFi (As := [.int (x >>> (8 &&& 31)), .int 40]) (st := [.int 1, .int (1 + (nI t_1)), .int (nI b0 - 5), .int (nI a0 - 5), .int (nI u), .ref (Z 0)]) (v := nI (q_bl (x >>> (8 &&& 31)) 40)) C (c_L_below D A l (v := x >>> (8 &&& 31)) (N := 40) (by decide) (by decide)) (va_cwS 2 C.1.2.2.2.2 gL_act_L_below rfl rfl rfl (by decide +kernel) ⟨Nat.le_of_ble_eq_true rfl, Nat.le_of_ble_eq_true rfl⟩) rfl rfl (Nat.le_of_ble_eq_true rfl) dL_act_198 ⟨Nat.le_of_ble_eq_true rfl, Nat.le_of_ble_eq_true rfl⟩ ?_
  obtain ⟨t_2, lt_2, et_2⟩ : ∃ z, z < 40 ∧ q_bl (x >>> (8 &&& 31)) 40 = z := ⟨_, q_bl_lt (by decide), rfl⟩
  rw [et_2]
  refine m_iadd C dL_act_201 ?_
  have hk0 : q_addk cm ar (nI u) 1 (q_okR (nI a0 - 5) (nI b0 - 5) (1 + (nI t_1)) (1 + (nI t_2))) = 0 := addk_0 hw hu hu0 hc (okR_0 ha0 hb0 lt_1 lt_2)
  obtain ⟨mf0, hme⟩ := hI.me
  refine m_callVXiH (As := [.int (nI u), .int (nI a0 - 5), .int (nI b0 - 5), .int (1 + (nI t_1)), .int (1 + (nI t_2))]) (st := []) C hme rfl (c_X7_addRectangle D A l hst hI hw hb) (cwV 5 C.1.2.2.2.2 gL_act_X7_addRectangle rfl rfl rfl (by decide +kernel) ⟨Nat.le_of_ble_eq_true rfl, Nat.le_of_ble_eq_true rfl⟩) rfl rfl (Nat.le_of_ble_eq_true rfl) dL_act_202 ⟨Nat.le_of_ble_eq_true rfl, Nat.le_of_ble_eq_true rfl⟩ (fun E M9 hx => ?_) (fun r M3 hp => ?_)
  · rcases hx.2 with ⟨h9, -⟩ | ⟨h9, -⟩ | ⟨h9, -⟩ <;> exact absurd (hk0.symm.trans h9) (by decide)
  · obtain ⟨-, hr, Z', F', hX0, hZ, hI'⟩ := hp
    subst hr
    have hA' : AB (q_addS cm ar (nI u) 1 (q_sh [nI a0 - 5, nI b0 - 5, 1 + (nI t_1), 1 + (nI t_2)]) 4) (cm + 1) := ⟨lP_addRectangle hP hk0, PB_add hB⟩
    have hRF' := hRF.mono hX0
    have hR3 : hW D o qn qc qp nr cr cm g B K M3 := hRF'.mono (fun a x h => hI'.F0 h)
    refine m_aload_n C dL_act_205 rfl 7 rfl ?_
    refine m_iconst (v := 1) C dL_act_206 (by decide) ?_
    refine m_iload C dL_act_207 4 rfl ?_
    refine m_iconst (v := 4) C dL_act_209 (by decide) ?_
    refine m_newI C (by decide +kernel) (N := 4) rfl (by decide) (Nat.le_of_ble_eq_true rfl) (Nat.le_of_ble_eq_true rfl) dL_act_210 (fun sq hq0 => ?_)
    have hq : m_up M3 sq (jI D 4 (fun _ => 0)) sq = some (jI D 4 (fun _ => 0)) := m_up_s
    have hX : mS M3 (m_up M3 sq (jI D 4 (fun _ => 0))) := mS.rf.new hq0
    revert hq hX
    generalize m_up M3 sq (jI D 4 (fun _ => 0)) = M2
    intro hq hX
    refine m_dup C dL_act_212 rfl ?_
    refine m_iconst (v := 0) C dL_act_213 (by decide) ?_
    refine m_iload C dL_act_214 1 rfl ?_
    refine m_iastR C hq (by unfold vp_in; decide) (j := 0) (by decide) dL_act_216 (fun M2 hq hX9 => ?_)
    have hX := hX9 _ hX hq0
    refine m_dup C dL_act_217 rfl ?_
    refine m_iconst (v := 1) C dL_act_218 (by decide) ?_
    refine m_iload C dL_act_219 0 rfl ?_
    refine m_iastR C hq (by unfold vp_in; decide) (j := 1) (by decide) dL_act_221 (fun M2 hq hX9 => ?_)
    have hX := hX9 _ hX hq0
    refine m_dup C dL_act_222 rfl ?_
    refine m_iconst (v := 2) C dL_act_223 (by decide) ?_
    refine m_iconst (v := 1) C dL_act_224 (by decide) ?_
    refine m_iload_n C dL_act_225 rfl 6 rfl ?_
    refine m_bipush (v := 7) C dL_act_226 (by decide) ?_
    refine m_ishr C dL_act_228 ?_
    refine m_bipush (v := 40) C dL_act_229 (by decide) ?_
    refine m_callSFi (As := [.int (x >>> (7 &&& 31)), .int 40]) (st := [.int 1, .int 2, .ref sq, .ref sq, .int (nI u), .int 1, .ref o, .int (nI cm)]) (v := nI (q_bl (x >>> (7 &&& 31)) 40)) C (c_L_below D A l (v := x >>> (7 &&& 31)) (N := 40) (by decide) (by decide)) (va_cwS 2 C.1.2.2.2.2 gL_act_L_below rfl rfl rfl (by decide +kernel) ⟨Nat.le_of_ble_eq_true rfl, Nat.le_of_ble_eq_true rfl⟩) rfl rfl (Nat.le_of_ble_eq_true rfl) dL_act_231 ⟨Nat.le_of_ble_eq_true rfl, Nat.le_of_ble_eq_true rfl⟩ ?_
    rw [et_1]
    refine m_iadd C dL_act_234 ?_
    refine m_iastR C hq (by unfold vp_in; decide) (j := 2) (by decide) dL_act_235 (fun M2 hq hX9 => ?_)
    have hX := hX9 _ hX hq0
    refine m_dup C dL_act_236 rfl ?_
    refine m_iconst (v := 3) C dL_act_237 (by decide) ?_
    refine m_iconst (v := 1) C dL_act_238 (by decide) ?_
    refine m_iload_n C dL_act_239 rfl 6 rfl ?_
    refine m_bipush (v := 8) C dL_act_240 (by decide) ?_
    refine m_ishr C dL_act_242 ?_
    refine m_bipush (v := 40) C dL_act_243 (by decide) ?_
    refine m_callSFi (As := [.int (x >>> (8 &&& 31)), .int 40]) (st := [.int 1, .int 3, .ref sq, .ref sq, .int (nI u), .int 1, .ref o, .int (nI cm)]) (v := nI (q_bl (x >>> (8 &&& 31)) 40)) C (c_L_below D A l (v := x >>> (8 &&& 31)) (N := 40) (by decide) (by decide)) (va_cwS 2 C.1.2.2.2.2 gL_act_L_below rfl rfl rfl (by decide +kernel) ⟨Nat.le_of_ble_eq_true rfl, Nat.le_of_ble_eq_true rfl⟩) rfl rfl (Nat.le_of_ble_eq_true rfl) dL_act_245 ⟨Nat.le_of_ble_eq_true rfl, Nat.le_of_ble_eq_true rfl⟩ ?_
    rw [et_2]
    refine m_iadd C dL_act_248 ?_
    refine m_iastR C hq (by unfold vp_in; decide) (j := 3) (by decide) dL_act_249 (fun M2 hq hX9 => ?_)
    have hX := hX9 _ hX hq0
    have hR4 := hR3.mono hX
    have hKu : (K u).length ≤ 40 := by rw [hT.2.2.1 u hu]; have := kids_le hw hu; omega
    refine m_callVi (As := [.int 1, .int (nI u), .ref sq]) (st := [.int (nI cm)]) C hR4.1 rfl (c_X8_add D A l hR4 (by decide) hq hc hu4 hKu) (cwV 3 C.1.2.2.2.2 gL_act_X8_add rfl rfl rfl (by decide +kernel) ⟨Nat.le_of_ble_eq_true rfl, Nat.le_of_ble_eq_true rfl⟩) rfl rfl (Nat.le_of_ble_eq_true rfl) dL_act_250 ⟨Nat.le_of_ble_eq_true rfl, Nat.le_of_ble_eq_true rfl⟩ (fun r5 M5 hq5 => ?_)
    obtain ⟨hr5, qq, cr5, row, hR5, hrow, hK5⟩ := hq5
    subst hr5
    have hE := act_end hI' hRF' ((hK.sub hX).tr hK5) hR5 (T_add hT hw hc hu hu0 hrow) hA' hg hZ
    refine m_icmp_ne (tgt := 260) C dL_act_253 (by decide) (fun h_3 => ?_) (fun h_3 => ?_)
    · exact absurd rfl h_3
    · refine m_iconst (v := 1) C dL_act_256 (by decide) ?_
      refine m_goto (tgt := 261) C dL_act_257 (by decide) ?_
      exact m_zret C (Nat.le_of_ble_eq_true rfl) (Nat.le_of_ble_eq_true rfl) dL_act_261 (Or.inr rfl) ⟨rfl, hE⟩
set_option maxHeartbeats 4000000 in
set_option maxRecDepth 100000 in
theorem act_3 {p : Program} {l : Launch} {e : Env} {s : State} {m : MethodId} {args : Array Value} {below : List Frame} {meth : Method} {c : Code} {D : mD} {A : Nat → Prop} {Z : Nat → Nat} {o cm : Nat} {g : Int32} {ar : rA} {F M : Mm} {qn qc qp : Nat} {nr cr : Nat → Option Nat} {B : Nat → Nat → Int32} {K : Nat → List Nat} (hst : l.stackTraces = false) (hI : cI D Z F cm g ar M) (hRF : hW D o qn qc qp nr cr cm g B K F) (hT : hTT ar cm nr B K) (hP : lP cm ar) (hB : PB ar) (hg : ∃ b, b ≤ 255 ∧ g = nI b) {u n an a0 b0 : Nat} {x w : Int32} (hu : cP ar cm u) (hu0 : ar 3 u = 0) (hn : cP ar cm n) (han : nr n = some an) (ha0 : a0 < 70) (hb0 : b0 < 55) (C : mC p m meth c cL_act 21 s args wsL_act yL_act.cls D A yL_act (some .boolean)) (i8 : ∀ w ∈ wsX80, w ∈ wsL_act) (hc : cm < 40) : mV p l e ({ frames := 45, cells := 110, slots := 3200, locals := 1750 } : Room) s m args below meth c 21 D A (MQ below (va_Qi (fun r M' => r = 1 ∧ hAA D (Z 0) o M') (mB D A) A) args s 110 3200 A) M 0 0 [(8, .int (nI b0 - 5)), (7, .int (nI a0 - 5)), (6, .ref an), (5, .int (nI n)), (4, .int (nI u)), (3, .int w), (2, .int x), (1, .ref o), (0, .ref (Z 0))] [] 262 := by
  have hw : wf ar cm := hP.1
  have hb : BD ar cm := hP.2.1
  have hR : hW D o qn qc qp nr cr cm g B K M := hRF.mono (fun a x h => hI.F0 h)
  have hu4 := cP_40 hw hu
  have hn4 := cP_40 hw hn
  have hEnd : hAA D (Z 0) o M := ⟨Z, cm, g, ar, rfl, ⟨F, qn, qc, qp, nr, cr, B, K, hI, hRF, hT⟩, ⟨hP, hB⟩, hg⟩
  refine m_aload_n C dL_act_262 rfl 8 rfl ?_
  refine m_iload C dL_act_263 4 rfl ?_
  refine m_iload C dL_act_265 1 rfl ?_
  refine m_iload C dL_act_267 0 rfl ?_
  refine m_iconst (v := 1) C dL_act_269 (by decide) ?_
  refine m_iload_n C dL_act_270 rfl 6 rfl ?_
  refine m_bipush (v := 8) C dL_act_271 (by decide) ?_
  refine m_ishr C dL_act_273 ?_
  refine m_bipush (v := 30) C dL_act_274 (by decide) ?_
  refine m_callSFi (As := [.int (x >>> (8 &&& 31)), .int 30]) (st := [.int 1, .int (nI b0 - 5), .int (nI a0 - 5), .int (nI u), .ref (Z 0)]) (v := nI (q_bl (x >>> (8 &&& 31)) 30)) C (c_L_below D A l (v := x >>> (8 &&& 31)) (N := 30) (by decide) (by decide)) (va_cwS 2 C.1.2.2.2.2 gL_act_L_below rfl rfl rfl (by decide +kernel) ⟨Nat.le_of_ble_eq_true rfl, Nat.le_of_ble_eq_true rfl⟩) rfl rfl (Nat.le_of_ble_eq_true rfl) dL_act_276 ⟨Nat.le_of_ble_eq_true rfl, Nat.le_of_ble_eq_true rfl⟩ ?_
  obtain ⟨t_1, lt_1, et_1⟩ : ∃ z, z < 30 ∧ q_bl (x >>> (8 &&& 31)) 30 = z := ⟨_, q_bl_lt (by decide), rfl⟩
  rw [et_1]
  refine m_iadd C dL_act_279 ?_
  have hk0 : q_addk cm ar (nI u) 2 (q_okD (nI a0 - 5) (nI b0 - 5) (1 + (nI t_1))) = 0 := addk_0 hw hu hu0 hc (okD_0 ha0 hb0 lt_1)
  obtain ⟨mf0, hme⟩ := hI.me
  refine m_callVXiH (As := [.int (nI u), .int (nI a0 - 5), .int (nI b0 - 5), .int (1 + (nI t_1))]) (st := []) C hme rfl (c_X7_addDisc D A l hst hI hw hb) (cwV 4 C.1.2.2.2.2 gL_act_X7_addDisc rfl rfl rfl (by decide +kernel) ⟨Nat.le_of_ble_eq_true rfl, Nat.le_of_ble_eq_true rfl⟩) rfl rfl (Nat.le_of_ble_eq_true rfl) dL_act_280 ⟨Nat.le_of_ble_eq_true rfl, Nat.le_of_ble_eq_true rfl⟩ (fun E M9 hx => ?_) (fun r M3 hp => ?_)
  · rcases hx.2 with ⟨h9, -⟩ | ⟨h9, -⟩ | ⟨h9, -⟩ <;> exact absurd (hk0.symm.trans h9) (by decide)
  · obtain ⟨-, hr, Z', F', hX0, hZ, hI'⟩ := hp
    subst hr
    have hA' : AB (q_addS cm ar (nI u) 2 (q_sh [nI a0 - 5, nI b0 - 5, 1 + (nI t_1)]) 3) (cm + 1) := ⟨lP_addDisc hP hk0, PB_add hB⟩
    have hRF' := hRF.mono hX0
    have hR3 : hW D o qn qc qp nr cr cm g B K M3 := hRF'.mono (fun a x h => hI'.F0 h)
    refine m_aload_n C dL_act_283 rfl 7 rfl ?_
    refine m_iconst (v := 2) C dL_act_284 (by decide) ?_
    refine m_iload C dL_act_285 4 rfl ?_
    refine m_iconst (v := 3) C dL_act_287 (by decide) ?_
    refine m_newI C (by decide +kernel) (N := 3) rfl (by decide) (Nat.le_of_ble_eq_true rfl) (Nat.le_of_ble_eq_true rfl) dL_act_288 (fun sq hq0 => ?_)
    have hq : m_up M3 sq (jI D 3 (fun _ => 0)) sq = some (jI D 3 (fun _ => 0)) := m_up_s
    have hX : mS M3 (m_up M3 sq (jI D 3 (fun _ => 0))) := mS.rf.new hq0
    revert hq hX
    generalize m_up M3 sq (jI D 3 (fun _ => 0)) = M2
    intro hq hX
    refine m_dup C dL_act_290 rfl ?_
    refine m_iconst (v := 0) C dL_act_291 (by decide) ?_
    refine m_iload C dL_act_292 1 rfl ?_
    refine m_iastR C hq (by unfold vp_in; decide) (j := 0) (by decide) dL_act_294 (fun M2 hq hX9 => ?_)
    have hX := hX9 _ hX hq0
    refine m_dup C dL_act_295 rfl ?_
    refine m_iconst (v := 1) C dL_act_296 (by decide) ?_
    refine m_iload C dL_act_297 0 rfl ?_
    refine m_iastR C hq (by unfold vp_in; decide) (j := 1) (by decide) dL_act_299 (fun M2 hq hX9 => ?_)
    have hX := hX9 _ hX hq0
    refine m_dup C dL_act_300 rfl ?_
    refine m_iconst (v := 2) C dL_act_301 (by decide) ?_
    refine m_iconst (v := 1) C dL_act_302 (by decide) ?_
    refine m_iload_n C dL_act_303 rfl 6 rfl ?_
    refine m_bipush (v := 8) C dL_act_304 (by decide) ?_
    refine m_ishr C dL_act_306 ?_
    refine m_bipush (v := 30) C dL_act_307 (by decide) ?_
    refine m_callSFi (As := [.int (x >>> (8 &&& 31)), .int 30]) (st := [.int 1, .int 2, .ref sq, .ref sq, .int (nI u), .int 2, .ref o, .int (nI cm)]) (v := nI (q_bl (x >>> (8 &&& 31)) 30)) C (c_L_below D A l (v := x >>> (8 &&& 31)) (N := 30) (by decide) (by decide)) (va_cwS 2 C.1.2.2.2.2 gL_act_L_below rfl rfl rfl (by decide +kernel) ⟨Nat.le_of_ble_eq_true rfl, Nat.le_of_ble_eq_true rfl⟩) rfl rfl (Nat.le_of_ble_eq_true rfl) dL_act_309 ⟨Nat.le_of_ble_eq_true rfl, Nat.le_of_ble_eq_true rfl⟩ ?_
    rw [et_1]
    refine m_iadd C dL_act_312 ?_
    refine m_iastR C hq (by unfold vp_in; decide) (j := 2) (by decide) dL_act_313 (fun M2 hq hX9 => ?_)
    have hX := hX9 _ hX hq0
    have hR4 := hR3.mono hX
    have hKu : (K u).length ≤ 40 := by rw [hT.2.2.1 u hu]; have := kids_le hw hu; omega
    refine m_callVi (As := [.int 2, .int (nI u), .ref sq]) (st := [.int (nI cm)]) C hR4.1 rfl (c_X8_add D A l hR4 (by decide) hq hc hu4 hKu) (cwV 3 C.1.2.2.2.2 gL_act_X8_add rfl rfl rfl (by decide +kernel) ⟨Nat.le_of_ble_eq_true rfl, Nat.le_of_ble_eq_true rfl⟩) rfl rfl (Nat.le_of_ble_eq_true rfl) dL_act_314 ⟨Nat.le_of_ble_eq_true rfl, Nat.le_of_ble_eq_true rfl⟩ (fun r5 M5 hq5 => ?_)
    obtain ⟨hr5, qq, cr5, row, hR5, hrow, hK5⟩ := hq5
    subst hr5
    have hE := act_end hI' hRF' ((hK.sub hX).tr hK5) hR5 (T_add hT hw hc hu hu0 hrow) hA' hg hZ
    refine m_icmp_ne (tgt := 324) C dL_act_317 (by decide) (fun h_2 => ?_) (fun h_2 => ?_)
    · exact absurd rfl h_2
    · refine m_iconst (v := 1) C dL_act_320 (by decide) ?_
      refine m_goto (tgt := 325) C dL_act_321 (by decide) ?_
      exact m_zret C (Nat.le_of_ble_eq_true rfl) (Nat.le_of_ble_eq_true rfl) dL_act_325 (Or.inr rfl) ⟨rfl, hE⟩
set_option maxHeartbeats 4000000 in
set_option maxRecDepth 100000 in
theorem act_4 {p : Program} {l : Launch} {e : Env} {s : State} {m : MethodId} {args : Array Value} {below : List Frame} {meth : Method} {c : Code} {D : mD} {A : Nat → Prop} {Z : Nat → Nat} {o cm : Nat} {g : Int32} {ar : rA} {F M : Mm} {qn qc qp : Nat} {nr cr : Nat → Option Nat} {B : Nat → Nat → Int32} {K : Nat → List Nat} (hst : l.stackTraces = false) (hI : cI D Z F cm g ar M) (hRF : hW D o qn qc qp nr cr cm g B K F) (hT : hTT ar cm nr B K) (hP : lP cm ar) (hB : PB ar) (hg : ∃ b, b ≤ 255 ∧ g = nI b) {u n an a0 b0 : Nat} {x w : Int32} (hu : cP ar cm u) (hu0 : ar 3 u = 0) (hn : cP ar cm n) (han : nr n = some an) (ha0 : a0 < 70) (hb0 : b0 < 55) (C : mC p m meth c cL_act 21 s args wsL_act yL_act.cls D A yL_act (some .boolean)) (i8 : ∀ w ∈ wsX80, w ∈ wsL_act) (hc : cm < 40) : mV p l e ({ frames := 45, cells := 110, slots := 3200, locals := 1750 } : Room) s m args below meth c 21 D A (MQ below (va_Qi (fun r M' => r = 1 ∧ hAA D (Z 0) o M') (mB D A) A) args s 110 3200 A) M 0 0 [(8, .int (nI b0 - 5)), (7, .int (nI a0 - 5)), (6, .ref an), (5, .int (nI n)), (4, .int (nI u)), (3, .int w), (2, .int x), (1, .ref o), (0, .ref (Z 0))] [] 326 := by
  have hw : wf ar cm := hP.1
  have hb : BD ar cm := hP.2.1
  have hR : hW D o qn qc qp nr cr cm g B K M := hRF.mono (fun a x h => hI.F0 h)
  have hu4 := cP_40 hw hu
  have hn4 := cP_40 hw hn
  have hEnd : hAA D (Z 0) o M := ⟨Z, cm, g, ar, rfl, ⟨F, qn, qc, qp, nr, cr, B, K, hI, hRF, hT⟩, ⟨hP, hB⟩, hg⟩
  refine m_iload_n C dL_act_326 rfl 6 rfl ?_
  refine m_bipush (v := 7) C dL_act_327 (by decide) ?_
  refine m_ishr C dL_act_329 ?_
  refine m_bipush (v := 90) C dL_act_330 (by decide) ?_
  refine m_callSFi (As := [.int (x >>> (7 &&& 31)), .int 90]) (st := []) (v := nI (q_bl (x >>> (7 &&& 31)) 90)) C (c_L_below D A l (v := x >>> (7 &&& 31)) (N := 90) (by decide) (by decide)) (va_cwS 2 C.1.2.2.2.2 gL_act_L_below rfl rfl rfl (by decide +kernel) ⟨Nat.le_of_ble_eq_true rfl, Nat.le_of_ble_eq_true rfl⟩) rfl rfl (Nat.le_of_ble_eq_true rfl) dL_act_332 ⟨Nat.le_of_ble_eq_true rfl, Nat.le_of_ble_eq_true rfl⟩ ?_
  obtain ⟨t_1, lt_1, et_1⟩ : ∃ z, z < 90 ∧ q_bl (x >>> (7 &&& 31)) 90 = z := ⟨_, q_bl_lt (by decide), rfl⟩
  rw [et_1]
  refine m_bipush (v := 20) C dL_act_335 (by decide) ?_
  refine m_isub C dL_act_337 ?_
  refine m_istore (L' := [(9, .int ((nI t_1) - 20)), (8, .int (nI b0 - 5)), (7, .int (nI a0 - 5)), (6, .ref an), (5, .int (nI n)), (4, .int (nI u)), (3, .int w), (2, .int x), (1, .ref o), (0, .ref (Z 0))]) C dL_act_338 (by decide) rfl ?_
  refine m_iload_n C dL_act_340 rfl 7 rfl ?_
  refine m_bipush (v := 9) C dL_act_341 (by decide) ?_
  refine m_ishr C dL_act_343 ?_
  refine m_bipush (v := 70) C dL_act_344 (by decide) ?_
  refine m_callSFi (As := [.int (x >>> (9 &&& 31)), .int 70]) (st := []) (v := nI (q_bl (x >>> (9 &&& 31)) 70)) C (c_L_below D A l (v := x >>> (9 &&& 31)) (N := 70) (by decide) (by decide)) (va_cwS 2 C.1.2.2.2.2 gL_act_L_below rfl rfl rfl (by decide +kernel) ⟨Nat.le_of_ble_eq_true rfl, Nat.le_of_ble_eq_true rfl⟩) rfl rfl (Nat.le_of_ble_eq_true rfl) dL_act_346 ⟨Nat.le_of_ble_eq_true rfl, Nat.le_of_ble_eq_true rfl⟩ ?_
  obtain ⟨t_2, lt_2, et_2⟩ : ∃ z, z < 70 ∧ q_bl (x >>> (9 &&& 31)) 70 = z := ⟨_, q_bl_lt (by decide), rfl⟩
  rw [et_2]
  refine m_bipush (v := 10) C dL_act_349 (by decide) ?_
  refine m_isub C dL_act_351 ?_
  refine m_istore (L' := [(10, .int ((nI t_2) - 10)), (9, .int ((nI t_1) - 20)), (8, .int (nI b0 - 5)), (7, .int (nI a0 - 5)), (6, .ref an), (5, .int (nI n)), (4, .int (nI u)), (3, .int w), (2, .int x), (1, .ref o), (0, .ref (Z 0))]) C dL_act_352 (by decide) rfl ?_
  refine m_aload_n C dL_act_354 rfl 10 rfl ?_
  refine m_iload C dL_act_355 6 rfl ?_
  refine m_iload C dL_act_357 3 rfl ?_
  refine m_iload C dL_act_359 2 rfl ?_
  refine m_iload C dL_act_361 1 rfl ?_
  refine m_iload C dL_act_363 0 rfl ?_
  refine m_iload C dL_act_365 2 rfl ?_
  refine m_iload C dL_act_367 1 rfl ?_
  have hk0 : q_addk cm ar (nI u) 3 (q_okT (nI a0 - 5) (nI b0 - 5) ((nI t_1) - 20) ((nI t_2) - 10) (nI b0 - 5) ((nI t_1) - 20)) = 0 := addk_0 hw hu hu0 hc (okT_0 ha0 hb0 lt_1 lt_2)
  obtain ⟨mf0, hme⟩ := hI.me
  refine m_callVXiH (As := [.int (nI u), .int (nI a0 - 5), .int (nI b0 - 5), .int ((nI t_1) - 20), .int ((nI t_2) - 10), .int (nI b0 - 5), .int ((nI t_1) - 20)]) (st := []) C hme rfl (c_X7_addTriangle D A l hst hI hw hb) (cwV 7 C.1.2.2.2.2 gL_act_X7_addTriangle rfl rfl rfl (by decide +kernel) ⟨Nat.le_of_ble_eq_true rfl, Nat.le_of_ble_eq_true rfl⟩) rfl rfl (Nat.le_of_ble_eq_true rfl) dL_act_369 ⟨Nat.le_of_ble_eq_true rfl, Nat.le_of_ble_eq_true rfl⟩ (fun E M9 hx => ?_) (fun r M3 hp => ?_)
  · rcases hx.2 with ⟨h9, -⟩ | ⟨h9, -⟩ | ⟨h9, -⟩ <;> exact absurd (hk0.symm.trans h9) (by decide)
  · obtain ⟨-, hr, Z', F', hX0, hZ, hI'⟩ := hp
    subst hr
    have hA' : AB (q_addS cm ar (nI u) 3 (q_sh [nI a0 - 5, nI b0 - 5, (nI t_1) - 20, (nI t_2) - 10, nI b0 - 5, (nI t_1) - 20]) 6) (cm + 1) := ⟨lP_addTriangle hP hk0, PB_add hB⟩
    have hRF' := hRF.mono hX0
    have hR3 : hW D o qn qc qp nr cr cm g B K M3 := hRF'.mono (fun a x h => hI'.F0 h)
    refine m_aload_n C dL_act_372 rfl 9 rfl ?_
    refine m_iconst (v := 3) C dL_act_373 (by decide) ?_
    refine m_iload C dL_act_374 6 rfl ?_
    refine m_bipush (v := 6) C dL_act_376 (by decide) ?_
    refine m_newI C (by decide +kernel) (N := 6) rfl (by decide) (Nat.le_of_ble_eq_true rfl) (Nat.le_of_ble_eq_true rfl) dL_act_378 (fun sq hq0 => ?_)
    have hq : m_up M3 sq (jI D 6 (fun _ => 0)) sq = some (jI D 6 (fun _ => 0)) := m_up_s
    have hX : mS M3 (m_up M3 sq (jI D 6 (fun _ => 0))) := mS.rf.new hq0
    revert hq hX
    generalize m_up M3 sq (jI D 6 (fun _ => 0)) = M2
    intro hq hX
    refine m_dup C dL_act_380 rfl ?_
    refine m_iconst (v := 0) C dL_act_381 (by decide) ?_
    refine m_iload C dL_act_382 3 rfl ?_
    refine m_iastR C hq (by unfold vp_in; decide) (j := 0) (by decide) dL_act_384 (fun M2 hq hX9 => ?_)
    have hX := hX9 _ hX hq0
    refine m_dup C dL_act_385 rfl ?_
    refine m_iconst (v := 1) C dL_act_386 (by decide) ?_
    refine m_iload C dL_act_387 2 rfl ?_
    refine m_iastR C hq (by unfold vp_in; decide) (j := 1) (by decide) dL_act_389 (fun M2 hq hX9 => ?_)
    have hX := hX9 _ hX hq0
    refine m_dup C dL_act_390 rfl ?_
    refine m_iconst (v := 2) C dL_act_391 (by decide) ?_
    refine m_iload C dL_act_392 1 rfl ?_
    refine m_iastR C hq (by unfold vp_in; decide) (j := 2) (by decide) dL_act_394 (fun M2 hq hX9 => ?_)
    have hX := hX9 _ hX hq0
    refine m_dup C dL_act_395 rfl ?_
    refine m_iconst (v := 3) C dL_act_396 (by decide) ?_
    refine m_iload C dL_act_397 0 rfl ?_
    refine m_iastR C hq (by unfold vp_in; decide) (j := 3) (by decide) dL_act_399 (fun M2 hq hX9 => ?_)
    have hX := hX9 _ hX hq0
    refine m_dup C dL_act_400 rfl ?_
    refine m_iconst (v := 4) C dL_act_401 (by decide) ?_
    refine m_iload C dL_act_402 2 rfl ?_
    refine m_iastR C hq (by unfold vp_in; decide) (j := 4) (by decide) dL_act_404 (fun M2 hq hX9 => ?_)
    have hX := hX9 _ hX hq0
    refine m_dup C dL_act_405 rfl ?_
    refine m_iconst (v := 5) C dL_act_406 (by decide) ?_
    refine m_iload C dL_act_407 1 rfl ?_
    refine m_iastR C hq (by unfold vp_in; decide) (j := 5) (by decide) dL_act_409 (fun M2 hq hX9 => ?_)
    have hX := hX9 _ hX hq0
    have hR4 := hR3.mono hX
    have hKu : (K u).length ≤ 40 := by rw [hT.2.2.1 u hu]; have := kids_le hw hu; omega
    refine m_callVi (As := [.int 3, .int (nI u), .ref sq]) (st := [.int (nI cm)]) C hR4.1 rfl (c_X8_add D A l hR4 (by decide) hq hc hu4 hKu) (cwV 3 C.1.2.2.2.2 gL_act_X8_add rfl rfl rfl (by decide +kernel) ⟨Nat.le_of_ble_eq_true rfl, Nat.le_of_ble_eq_true rfl⟩) rfl rfl (Nat.le_of_ble_eq_true rfl) dL_act_410 ⟨Nat.le_of_ble_eq_true rfl, Nat.le_of_ble_eq_true rfl⟩ (fun r5 M5 hq5 => ?_)
    obtain ⟨hr5, qq, cr5, row, hR5, hrow, hK5⟩ := hq5
    subst hr5
    have hE := act_end hI' hRF' ((hK.sub hX).tr hK5) hR5 (T_add hT hw hc hu hu0 hrow) hA' hg hZ
    refine m_icmp_ne (tgt := 420) C dL_act_413 (by decide) (fun h_3 => ?_) (fun h_3 => ?_)
    · exact absurd rfl h_3
    · refine m_iconst (v := 1) C dL_act_416 (by decide) ?_
      refine m_goto (tgt := 421) C dL_act_417 (by decide) ?_
      exact m_zret C (Nat.le_of_ble_eq_true rfl) (Nat.le_of_ble_eq_true rfl) dL_act_421 (Or.inr rfl) ⟨rfl, hE⟩
