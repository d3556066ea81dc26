set_option maxHeartbeats 4000000 in
set_option maxRecDepth 100000 in
theorem law_addGroup {p : Program} {l : Launch} {e : Env} {s : State} {m : MethodId} {args : Array Value} {below : List Frame} {meth : Method} {c : Code} {D : mD} {A : Nat → Prop} {Q : State → Prop} {y0 : MethodName} {ret0 : Option FieldType} {b N : Nat} {xs : Nat → Int32} (hC : lX p m meth c s args D A y0 ret0 b N xs l) {o1 o2 q3 : Nat} {G : Nat → Nat} {M : Mm} {k n i : Nat} (hi : i + 8 ≤ N) (hJ : lJ D o1 G o2 q3 M) (hk : k + 60 ≤ room_1.cells ∧ n + 2600 ≤ room_1.slots) (kk : ∀ M' : Mm, lJ D o1 G o2 q3 M' → mV p l e room_1 s m args below meth c 9 D A Q M' (k + 60) (n + 2600) [(0, .ref b), (1, .ref o1), (2, .ref o2), (3, .ref q3), (4, .int (nI i))] [] 1806) : mV p l e room_1 s m args below meth c 9 D A Q M k n [(0, .ref b), (1, .ref o1), (2, .ref o2), (3, .ref q3), (4, .int (nI i))] [] 152 := by
  have C := hC.1
  have hst := hC.2.2.2.2.2
  obtain ⟨Z, cm, g, ar, aw, hz, hI, hP⟩ := hJ
  subst hz
  obtain ⟨mf1, hm1⟩ := hI.z0
  obtain ⟨mf2, hm2⟩ := hI.r0
  refine m_aload_n C dL_law_152 rfl 1 rfl ?_
  refine m_S hC hi 1 (by decide) (by decide) 0 4 rfl rfl dL_law_153 dL_law_154 dL_law_156 dL_law_157 dL_law_158 ?_
  refine m_aload_n C dL_law_159 rfl 3 rfl ?_
  refine m_callSHi (As := [.ref (Z 0), .int (sX xs i 1), .ref q3]) (st := []) C (c_L_addGroup D A l hst hI hP.1 hP.2.1) (vx_cwSW 3 C.1.2.2.2.2 gL_law_L_addGroup rfl rfl rfl (by decide +kernel) ⟨Nat.le_of_ble_eq_true rfl, Nat.le_of_ble_eq_true rfl⟩) rfl rfl (Nat.le_of_ble_eq_true rfl) dL_law_160 ⟨Nat.le_trans (by omega) hk.1, Nat.le_trans (by omega) hk.2⟩ (fun r M1 hq1 => ?_)
  obtain ⟨hr1, Z', aw', hz', hans, hI1⟩ := hq1
  subst hr1
  refine m_istore (L' := [(5, .int (q_addk cm ar (sX xs i 1) 0 true)), (0, .ref b), (1, .ref (Z 0)), (2, .ref o2), (3, .ref q3), (4, .int (nI i))]) C dL_law_163 (by decide) rfl ?_
  refine m_aload_n C dL_law_165 rfl 3 rfl ?_
  refine m_S hC hi 1 (by decide) (by decide) 1 5 rfl rfl dL_law_166 dL_law_167 dL_law_169 dL_law_170 dL_law_171 ?_
  obtain ⟨Fr, od, u, t, hr, hre⟩ := hI1.ref
  refine m_callVi (As := [.int (sX xs i 1)]) (st := []) C hr.1 rfl (c_X8_addGroup D A l hr hP.1 (sX xs i 1)) (cwV 1 C.1.2.2.2.2 gL_law_X8_addGroup rfl rfl rfl (by decide +kernel) ⟨Nat.le_of_ble_eq_true rfl, Nat.le_of_ble_eq_true rfl⟩) rfl rfl (Nat.le_of_ble_eq_true rfl) dL_law_172 ⟨Nat.le_trans (by omega) hk.1, Nat.le_trans (by omega) hk.2⟩ (fun r M2 hq2 => ?_)
  have hq3 : ∃ (u' : Int32) (od' : Nat → Int32), rW D G o2 Fr (q_addk cm ar (sX xs i 1) 0 true) (nI ((if q_addk cm ar (sX xs i 1) 0 true = 0 then cm + 1 else cm))) g u' (upA (if q_addk cm ar (sX xs i 1) 0 true = 0 then (q_addS cm ar (sX xs i 1) 0 (q_sh []) 0) else ar) 17 od') M2 ∧ (q_addk cm ar (sX xs i 1) 0 true = 0 → r = nI cm) := by
    obtain ⟨y1, y2⟩ := hq2
    by_cases z : q_addk cm ar (sX xs i 1) 0 true = 0
    · obtain ⟨y3, y4⟩ := y2 z
      refine ⟨u, od, ?_, fun _ => y3⟩
      rw [if_pos z, if_pos z, z]
      exact y4
    · obtain ⟨y3, y4⟩ := y1 z
      refine ⟨u, od, ?_, fun y => absurd y z⟩
      rw [if_neg z, if_neg z]
      exact y4
  obtain ⟨u3, od3, hr3, hv3⟩ := hq3
  have hI3 := hre _ _ _ _ _ _ _ hr3
  refine m_istore (L' := [(6, .int r), (5, .int (q_addk cm ar (sX xs i 1) 0 true)), (0, .ref b), (1, .ref (Z 0)), (2, .ref o2), (3, .ref q3), (4, .int (nI i))]) C dL_law_175 (by decide) rfl ?_
  refine m_aload_n C dL_law_177 rfl 4 rfl ?_
  refine m_callVi (As := []) (st := []) C hr3.1 rfl (c_X8_thrown D A l hr3) (cwV 0 C.1.2.2.2.2 gL_law_X8_thrown rfl rfl rfl (by decide +kernel) ⟨Nat.le_of_ble_eq_true rfl, Nat.le_of_ble_eq_true rfl⟩) rfl rfl (Nat.le_of_ble_eq_true rfl) dL_law_178 ⟨Nat.le_trans (by omega) hk.1, Nat.le_trans (by omega) hk.2⟩ (fun r4 M4 hq4 => ?_)
  obtain ⟨e4, e5⟩ := hq4
  subst e4
  subst e5
  have hPn : lP ((if q_addk cm ar (sX xs i 1) 0 true = 0 then cm + 1 else cm)) (if q_addk cm ar (sX xs i 1) 0 true = 0 then (q_addS cm ar (sX xs i 1) 0 (q_sh []) 0) else ar) := by
    by_cases z : q_addk cm ar (sX xs i 1) 0 true = 0
    · rw [if_pos z, if_pos z]; exact lP_addGroup hP z
    · rw [if_neg z, if_neg z]; exact hP
  refine m_iload C dL_law_181 1 rfl ?_
  refine m_icmp_eq (tgt := 188) C dL_law_183 (by decide) (fun _ => ?_) (fun h => absurd rfl h)
  refine m_iload C dL_law_188 1 rfl ?_
  refine m_if_ne (tgt := 205) C dL_law_190 (by decide) (fun _ => ?_) (fun h0 => ?_)
  · refine m_goto (tgt := 1806) C dL_law_205 (by decide) ?_
    refine m_sub (L' := [(0, .ref b), (1, .ref (Z 0)), (2, .ref o2), (3, .ref q3), (4, .int (nI i))]) [2, 3, 4, 5, 6] rfl ?_
    refine m_widen (k' := k + 60) (n' := n + 2600) (by omega) (by omega) ?_
    exact kk _ ⟨Z', _, _, _, aw', hz', hI3, hPn⟩
  · have hv := hv3 h0
    have ha := hans h0
    refine m_aload_n C dL_law_193 rfl 5 rfl ?_
    refine m_iconst (v := 0) C dL_law_194 (by decide) ?_
    refine m_lald C hI3.ans (by unfold vp_in; decide) dL_law_195 ?_
    refine m_iload C dL_law_196 0 rfl ?_
    refine m_i2l (v := Int32.toInt64 r) C dL_law_198 rfl ?_
    refine m_lcmp C dL_law_199 ?_
    refine m_if_eq (tgt := 205) C dL_law_200 (by decide) (fun _ => ?_) (fun h => absurd ((lg_cmp_eq _ _).mpr (by rw [hv]; exact ha)) h)
    refine m_goto (tgt := 1806) C dL_law_205 (by decide) ?_
    refine m_sub (L' := [(0, .ref b), (1, .ref (Z 0)), (2, .ref o2), (3, .ref q3), (4, .int (nI i))]) [2, 3, 4, 5, 6] rfl ?_
    refine m_widen (k' := k + 60) (n' := n + 2600) (by omega) (by omega) ?_
    exact kk _ ⟨Z', _, _, _, aw', hz', hI3, hPn⟩
set_option maxHeartbeats 4000000 in
set_option maxRecDepth 100000 in
theorem law_addRectangle {p : Program} {l : Launch} {e : Env} {s : State} {m : MethodId} {args : Array Value} {below : List Frame} {meth : Method} {c : Code} {D : mD} {A : Nat → Prop} {Q : State → Prop} {y0 : MethodName} {ret0 : Option FieldType} {b N : Nat} {xs : Nat → Int32} (hC : lX p m meth c s args D A y0 ret0 b N xs l) {o1 o2 q3 : Nat} {G : Nat → Nat} {M : Mm} {k n i : Nat} (hi : i + 8 ≤ N) (hJ : lJ D o1 G o2 q3 M) (hk : k + 60 ≤ room_1.cells ∧ n + 2600 ≤ room_1.slots) (kk : ∀ M' : Mm, lJ D o1 G o2 q3 M' → mV p l e room_1 s m args below meth c 9 D A Q M' (k + 60) (n + 2600) [(0, .ref b), (1, .ref o1), (2, .ref o2), (3, .ref q3), (4, .int (nI i))] [] 1806) : mV p l e room_1 s m args below meth c 9 D A Q M k n [(0, .ref b), (1, .ref o1), (2, .ref o2), (3, .ref q3), (4, .int (nI i))] [] 208 := by
  have C := hC.1
  have hst := hC.2.2.2.2.2
  obtain ⟨Z, cm, g, ar, aw, hz, hI, hP⟩ := hJ
  subst hz
  obtain ⟨mf1, hm1⟩ := hI.z0
  obtain ⟨mf2, hm2⟩ := hI.r0
  refine m_aload_n C dL_law_208 rfl 1 rfl ?_
  refine m_S hC hi 1 (by decide) (by decide) 0 4 rfl rfl dL_law_209 dL_law_210 dL_law_212 dL_law_213 dL_law_214 ?_
  refine m_S hC hi 2 (by decide) (by decide) 0 4 rfl rfl dL_law_215 dL_law_216 dL_law_218 dL_law_219 dL_law_220 ?_
  refine m_S hC hi 3 (by decide) (by decide) 0 4 rfl rfl dL_law_221 dL_law_222 dL_law_224 dL_law_225 dL_law_226 ?_
  refine m_S hC hi 4 (by decide) (by decide) 0 4 rfl rfl dL_law_227 dL_law_228 dL_law_230 dL_law_231 dL_law_232 ?_
  refine m_S hC hi 5 (by decide) (by decide) 0 4 rfl rfl dL_law_233 dL_law_234 dL_law_236 dL_law_237 dL_law_238 ?_
  refine m_aload_n C dL_law_239 rfl 3 rfl ?_
  refine m_callSHi (As := [.ref (Z 0), .int (sX xs i 1), .int (sX xs i 2), .int (sX xs i 3), .int (sX xs i 4), .int (sX xs i 5), .ref q3]) (st := []) C (c_L_addRectangle D A l hst hI hP.1 hP.2.1) (vx_cwSW 7 C.1.2.2.2.2 gL_law_L_addRectangle rfl rfl rfl (by decide +kernel) ⟨Nat.le_of_ble_eq_true rfl, Nat.le_of_ble_eq_true rfl⟩) rfl rfl (Nat.le_of_ble_eq_true rfl) dL_law_240 ⟨Nat.le_trans (by omega) hk.1, Nat.le_trans (by omega) hk.2⟩ (fun r M1 hq1 => ?_)
  obtain ⟨hr1, Z', aw', hz', hans, hI1⟩ := hq1
  subst hr1
  refine m_istore (L' := [(5, .int (q_addk cm ar (sX xs i 1) 1 (q_okR (sX xs i 2) (sX xs i 3) (sX xs i 4) (sX xs i 5)))), (0, .ref b), (1, .ref (Z 0)), (2, .ref o2), (3, .ref q3), (4, .int (nI i))]) C dL_law_243 (by decide) rfl ?_
  refine m_aload_n C dL_law_245 rfl 3 rfl ?_
  refine m_S hC hi 1 (by decide) (by decide) 1 5 rfl rfl dL_law_246 dL_law_247 dL_law_249 dL_law_250 dL_law_251 ?_
  refine m_S hC hi 2 (by decide) (by decide) 1 5 rfl rfl dL_law_252 dL_law_253 dL_law_255 dL_law_256 dL_law_257 ?_
  refine m_S hC hi 3 (by decide) (by decide) 1 5 rfl rfl dL_law_258 dL_law_259 dL_law_261 dL_law_262 dL_law_263 ?_
  refine m_S hC hi 4 (by decide) (by decide) 1 5 rfl rfl dL_law_264 dL_law_265 dL_law_267 dL_law_268 dL_law_269 ?_
  refine m_S hC hi 5 (by decide) (by decide) 1 5 rfl rfl dL_law_270 dL_law_271 dL_law_273 dL_law_274 dL_law_275 ?_
  obtain ⟨Fr, od, u, t, hr, hre⟩ := hI1.ref
  refine m_callVi (As := [.int (sX xs i 1), .int (sX xs i 2), .int (sX xs i 3), .int (sX xs i 4), .int (sX xs i 5)]) (st := []) C hr.1 rfl (c_X8_addRectangle D A l hr hP.1 (sX xs i 1) (sX xs i 2) (sX xs i 3) (sX xs i 4) (sX xs i 5)) (cwV 5 C.1.2.2.2.2 gL_law_X8_addRectangle rfl rfl rfl (by decide +kernel) ⟨Nat.le_of_ble_eq_true rfl, Nat.le_of_ble_eq_true rfl⟩) rfl rfl (Nat.le_of_ble_eq_true rfl) dL_law_276 ⟨Nat.le_trans (by omega) hk.1, Nat.le_trans (by omega) hk.2⟩ (fun r M2 hq2 => ?_)
  have hq3 : ∃ (u' : Int32) (od' : Nat → Int32), rW D G o2 Fr (q_addk cm ar (sX xs i 1) 1 (q_okR (sX xs i 2) (sX xs i 3) (sX xs i 4) (sX xs i 5))) (nI ((if q_addk cm ar (sX xs i 1) 1 (q_okR (sX xs i 2) (sX xs i 3) (sX xs i 4) (sX xs i 5)) = 0 then cm + 1 else cm))) g u' (upA (if q_addk cm ar (sX xs i 1) 1 (q_okR (sX xs i 2) (sX xs i 3) (sX xs i 4) (sX xs i 5)) = 0 then (q_addS cm ar (sX xs i 1) 1 (q_sh [(sX xs i 2), (sX xs i 3), (sX xs i 4), (sX xs i 5)]) 4) else ar) 17 od') M2 ∧ (q_addk cm ar (sX xs i 1) 1 (q_okR (sX xs i 2) (sX xs i 3) (sX xs i 4) (sX xs i 5)) = 0 → r = nI cm) := by
    obtain ⟨y1, y2⟩ := hq2
    by_cases z : q_addk cm ar (sX xs i 1) 1 (q_okR (sX xs i 2) (sX xs i 3) (sX xs i 4) (sX xs i 5)) = 0
    · obtain ⟨y3, y4⟩ := y2 z
      refine ⟨u, od, ?_, fun _ => y3⟩
      rw [if_pos z, if_pos z, z]
      exact y4
    · obtain ⟨y3, y4⟩ := y1 z
      refine ⟨u, od, ?_, fun y => absurd y z⟩
      rw [if_neg z, if_neg z]
      exact y4
  obtain ⟨u3, od3, hr3, hv3⟩ := hq3
  have hI3 := hre _ _ _ _ _ _ _ hr3
  refine m_istore (L' := [(6, .int r), (5, .int (q_addk cm ar (sX xs i 1) 1 (q_okR (sX xs i 2) (sX xs i 3) (sX xs i 4) (sX xs i 5)))), (0, .ref b), (1, .ref (Z 0)), (2, .ref o2), (3, .ref q3), (4, .int (nI i))]) C dL_law_279 (by decide) rfl ?_
  refine m_aload_n C dL_law_281 rfl 4 rfl ?_
  refine m_callVi (As := []) (st := []) C hr3.1 rfl (c_X8_thrown D A l hr3) (cwV 0 C.1.2.2.2.2 gL_law_X8_thrown rfl rfl rfl (by decide +kernel) ⟨Nat.le_of_ble_eq_true rfl, Nat.le_of_ble_eq_true rfl⟩) rfl rfl (Nat.le_of_ble_eq_true rfl) dL_law_282 ⟨Nat.le_trans (by omega) hk.1, Nat.le_trans (by omega) hk.2⟩ (fun r4 M4 hq4 => ?_)
  obtain ⟨e4, e5⟩ := hq4
  subst e4
  subst e5
  have hPn : lP ((if q_addk cm ar (sX xs i 1) 1 (q_okR (sX xs i 2) (sX xs i 3) (sX xs i 4) (sX xs i 5)) = 0 then cm + 1 else cm)) (if q_addk cm ar (sX xs i 1) 1 (q_okR (sX xs i 2) (sX xs i 3) (sX xs i 4) (sX xs i 5)) = 0 then (q_addS cm ar (sX xs i 1) 1 (q_sh [(sX xs i 2), (sX xs i 3), (sX xs i 4), (sX xs i 5)]) 4) else ar) := by
    by_cases z : q_addk cm ar (sX xs i 1) 1 (q_okR (sX xs i 2) (sX xs i 3) (sX xs i 4) (sX xs i 5)) = 0
    · rw [if_pos z, if_pos z]; exact lP_addRectangle hP z
    · rw [if_neg z, if_neg z]; exact hP
  refine m_iload C dL_law_285 1 rfl ?_
  refine m_icmp_eq (tgt := 292) C dL_law_287 (by decide) (fun _ => ?_) (fun h => absurd rfl h)
  refine m_iload C dL_law_292 1 rfl ?_
  refine m_if_ne (tgt := 309) C dL_law_294 (by decide) (fun _ => ?_) (fun h0 => ?_)
  · refine m_goto (tgt := 1806) C dL_law_309 (by decide) ?_
    refine m_sub (L' := [(0, .ref b), (1, .ref (Z 0)), (2, .ref o2), (3, .ref q3), (4, .int (nI i))]) [2, 3, 4, 5, 6] rfl ?_
    refine m_widen (k' := k + 60) (n' := n + 2600) (by omega) (by omega) ?_
    exact kk _ ⟨Z', _, _, _, aw', hz', hI3, hPn⟩
  · have hv := hv3 h0
    have ha := hans h0
    refine m_aload_n C dL_law_297 rfl 5 rfl ?_
    refine m_iconst (v := 0) C dL_law_298 (by decide) ?_
    refine m_lald C hI3.ans (by unfold vp_in; decide) dL_law_299 ?_
    refine m_iload C dL_law_300 0 rfl ?_
    refine m_i2l (v := Int32.toInt64 r) C dL_law_302 rfl ?_
    refine m_lcmp C dL_law_303 ?_
    refine m_if_eq (tgt := 309) C dL_law_304 (by decide) (fun _ => ?_) (fun h => absurd ((lg_cmp_eq _ _).mpr (by rw [hv]; exact ha)) h)
    refine m_goto (tgt := 1806) C dL_law_309 (by decide) ?_
    refine m_sub (L' := [(0, .ref b), (1, .ref (Z 0)), (2, .ref o2), (3, .ref q3), (4, .int (nI i))]) [2, 3, 4, 5, 6] rfl ?_
    refine m_widen (k' := k + 60) (n' := n + 2600) (by omega) (by omega) ?_
    exact kk _ ⟨Z', _, _, _, aw', hz', hI3, hPn⟩
set_option maxHeartbeats 4000000 in
set_option maxRecDepth 100000 in
theorem law_addDisc {p : Program} {l : Launch} {e : Env} {s : State} {m : MethodId} {args : Array Value} {below : List Frame} {meth : Method} {c : Code} {D : mD} {A : Nat → Prop} {Q : State → Prop} {y0 : MethodName} {ret0 : Option FieldType} {b N : Nat} {xs : Nat → Int32} (hC : lX p m meth c s args D A y0 ret0 b N xs l) {o1 o2 q3 : Nat} {G : Nat → Nat} {M : Mm} {k n i : Nat} (hi : i + 8 ≤ N) (hJ : lJ D o1 G o2 q3 M) (hk : k + 60 ≤ room_1.cells ∧ n + 2600 ≤ room_1.slots) (kk : ∀ M' : Mm, lJ D o1 G o2 q3 M' → mV p l e room_1 s m args below meth c 9 D A Q M' (k + 60) (n + 2600) [(0, .ref b), (1, .ref o1), (2, .ref o2), (3, .ref q3), (4, .int (nI i))] [] 1806) : mV p l e room_1 s m args below meth c 9 D A Q M k n [(0, .ref b), (1, .ref o1), (2, .ref o2), (3, .ref q3), (4, .int (nI i))] [] 312 := by
  have C := hC.1
  have hst := hC.2.2.2.2.2
  obtain ⟨Z, cm, g, ar, aw, hz, hI, hP⟩ := hJ
  subst hz
  obtain ⟨mf1, hm1⟩ := hI.z0
  obtain ⟨mf2, hm2⟩ := hI.r0
  refine m_aload_n C dL_law_312 rfl 1 rfl ?_
  refine m_S hC hi 1 (by decide) (by decide) 0 4 rfl rfl dL_law_313 dL_law_314 dL_law_316 dL_law_317 dL_law_318 ?_
  refine m_S hC hi 2 (by decide) (by decide) 0 4 rfl rfl dL_law_319 dL_law_320 dL_law_322 dL_law_323 dL_law_324 ?_
  refine m_S hC hi 3 (by decide) (by decide) 0 4 rfl rfl dL_law_325 dL_law_326 dL_law_328 dL_law_329 dL_law_330 ?_
  refine m_S hC hi 4 (by decide) (by decide) 0 4 rfl rfl dL_law_331 dL_law_332 dL_law_334 dL_law_335 dL_law_336 ?_
  refine m_aload_n C dL_law_337 rfl 3 rfl ?_
  refine m_callSHi (As := [.ref (Z 0), .int (sX xs i 1), .int (sX xs i 2), .int (sX xs i 3), .int (sX xs i 4), .ref q3]) (st := []) C (c_L_addDisc D A l hst hI hP.1 hP.2.1) (vx_cwSW 6 C.1.2.2.2.2 gL_law_L_addDisc rfl rfl rfl (by decide +kernel) ⟨Nat.le_of_ble_eq_true rfl, Nat.le_of_ble_eq_true rfl⟩) rfl rfl (Nat.le_of_ble_eq_true rfl) dL_law_338 ⟨Nat.le_trans (by omega) hk.1, Nat.le_trans (by omega) hk.2⟩ (fun r M1 hq1 => ?_)
  obtain ⟨hr1, Z', aw', hz', hans, hI1⟩ := hq1
  subst hr1
  refine m_istore (L' := [(5, .int (q_addk cm ar (sX xs i 1) 2 (q_okD (sX xs i 2) (sX xs i 3) (sX xs i 4)))), (0, .ref b), (1, .ref (Z 0)), (2, .ref o2), (3, .ref q3), (4, .int (nI i))]) C dL_law_341 (by decide) rfl ?_
  refine m_aload_n C dL_law_343 rfl 3 rfl ?_
  refine m_S hC hi 1 (by decide) (by decide) 1 5 rfl rfl dL_law_344 dL_law_345 dL_law_347 dL_law_348 dL_law_349 ?_
  refine m_S hC hi 2 (by decide) (by decide) 1 5 rfl rfl dL_law_350 dL_law_351 dL_law_353 dL_law_354 dL_law_355 ?_
  refine m_S hC hi 3 (by decide) (by decide) 1 5 rfl rfl dL_law_356 dL_law_357 dL_law_359 dL_law_360 dL_law_361 ?_
  refine m_S hC hi 4 (by decide) (by decide) 1 5 rfl rfl dL_law_362 dL_law_363 dL_law_365 dL_law_366 dL_law_367 ?_
  obtain ⟨Fr, od, u, t, hr, hre⟩ := hI1.ref
  refine m_callVi (As := [.int (sX xs i 1), .int (sX xs i 2), .int (sX xs i 3), .int (sX xs i 4)]) (st := []) C hr.1 rfl (c_X8_addDisc D A l hr hP.1 (sX xs i 1) (sX xs i 2) (sX xs i 3) (sX xs i 4)) (cwV 4 C.1.2.2.2.2 gL_law_X8_addDisc rfl rfl rfl (by decide +kernel) ⟨Nat.le_of_ble_eq_true rfl, Nat.le_of_ble_eq_true rfl⟩) rfl rfl (Nat.le_of_ble_eq_true rfl) dL_law_368 ⟨Nat.le_trans (by omega) hk.1, Nat.le_trans (by omega) hk.2⟩ (fun r M2 hq2 => ?_)
  have hq3 : ∃ (u' : Int32) (od' : Nat → Int32), rW D G o2 Fr (q_addk cm ar (sX xs i 1) 2 (q_okD (sX xs i 2) (sX xs i 3) (sX xs i 4))) (nI ((if q_addk cm ar (sX xs i 1) 2 (q_okD (sX xs i 2) (sX xs i 3) (sX xs i 4)) = 0 then cm + 1 else cm))) g u' (upA (if q_addk cm ar (sX xs i 1) 2 (q_okD (sX xs i 2) (sX xs i 3) (sX xs i 4)) = 0 then (q_addS cm ar (sX xs i 1) 2 (q_sh [(sX xs i 2), (sX xs i 3), (sX xs i 4)]) 3) else ar) 17 od') M2 ∧ (q_addk cm ar (sX xs i 1) 2 (q_okD (sX xs i 2) (sX xs i 3) (sX xs i 4)) = 0 → r = nI cm) := by
    obtain ⟨y1, y2⟩ := hq2
    by_cases z : q_addk cm ar (sX xs i 1) 2 (q_okD (sX xs i 2) (sX xs i 3) (sX xs i 4)) = 0
    · obtain ⟨y3, y4⟩ := y2 z
      refine ⟨u, od, ?_, fun _ => y3⟩
      rw [if_pos z, if_pos z, z]
      exact y4
    · obtain ⟨y3, y4⟩ := y1 z
      refine ⟨u, od, ?_, fun y => absurd y z⟩
      rw [if_neg z, if_neg z]
      exact y4
  obtain ⟨u3, od3, hr3, hv3⟩ := hq3
  have hI3 := hre _ _ _ _ _ _ _ hr3
  refine m_istore (L' := [(6, .int r), (5, .int (q_addk cm ar (sX xs i 1) 2 (q_okD (sX xs i 2) (sX xs i 3) (sX xs i 4)))), (0, .ref b), (1, .ref (Z 0)), (2, .ref o2), (3, .ref q3), (4, .int (nI i))]) C dL_law_371 (by decide) rfl ?_
  refine m_aload_n C dL_law_373 rfl 4 rfl ?_
  refine m_callVi (As := []) (st := []) C hr3.1 rfl (c_X8_thrown D A l hr3) (cwV 0 C.1.2.2.2.2 gL_law_X8_thrown rfl rfl rfl (by decide +kernel) ⟨Nat.le_of_ble_eq_true rfl, Nat.le_of_ble_eq_true rfl⟩) rfl rfl (Nat.le_of_ble_eq_true rfl) dL_law_374 ⟨Nat.le_trans (by omega) hk.1, Nat.le_trans (by omega) hk.2⟩ (fun r4 M4 hq4 => ?_)
  obtain ⟨e4, e5⟩ := hq4
  subst e4
  subst e5
  have hPn : lP ((if q_addk cm ar (sX xs i 1) 2 (q_okD (sX xs i 2) (sX xs i 3) (sX xs i 4)) = 0 then cm + 1 else cm)) (if q_addk cm ar (sX xs i 1) 2 (q_okD (sX xs i 2) (sX xs i 3) (sX xs i 4)) = 0 then (q_addS cm ar (sX xs i 1) 2 (q_sh [(sX xs i 2), (sX xs i 3), (sX xs i 4)]) 3) else ar) := by
    by_cases z : q_addk cm ar (sX xs i 1) 2 (q_okD (sX xs i 2) (sX xs i 3) (sX xs i 4)) = 0
    · rw [if_pos z, if_pos z]; exact lP_addDisc hP z
    · rw [if_neg z, if_neg z]; exact hP
  refine m_iload C dL_law_377 1 rfl ?_
  refine m_icmp_eq (tgt := 384) C dL_law_379 (by decide) (fun _ => ?_) (fun h => absurd rfl h)
  refine m_iload C dL_law_384 1 rfl ?_
  refine m_if_ne (tgt := 401) C dL_law_386 (by decide) (fun _ => ?_) (fun h0 => ?_)
  · refine m_goto (tgt := 1806) C dL_law_401 (by decide) ?_
    refine m_sub (L' := [(0, .ref b), (1, .ref (Z 0)), (2, .ref o2), (3, .ref q3), (4, .int (nI i))]) [2, 3, 4, 5, 6] rfl ?_
    refine m_widen (k' := k + 60) (n' := n + 2600) (by omega) (by omega) ?_
    exact kk _ ⟨Z', _, _, _, aw', hz', hI3, hPn⟩
  · have hv := hv3 h0
    have ha := hans h0
    refine m_aload_n C dL_law_389 rfl 5 rfl ?_
    refine m_iconst (v := 0) C dL_law_390 (by decide) ?_
    refine m_lald C hI3.ans (by unfold vp_in; decide) dL_law_391 ?_
    refine m_iload C dL_law_392 0 rfl ?_
    refine m_i2l (v := Int32.toInt64 r) C dL_law_394 rfl ?_
    refine m_lcmp C dL_law_395 ?_
    refine m_if_eq (tgt := 401) C dL_law_396 (by decide) (fun _ => ?_) (fun h => absurd ((lg_cmp_eq _ _).mpr (by rw [hv]; exact ha)) h)
    refine m_goto (tgt := 1806) C dL_law_401 (by decide) ?_
    refine m_sub (L' := [(0, .ref b), (1, .ref (Z 0)), (2, .ref o2), (3, .ref q3), (4, .int (nI i))]) [2, 3, 4, 5, 6] rfl ?_
    refine m_widen (k' := k + 60) (n' := n + 2600) (by omega) (by omega) ?_
    exact kk _ ⟨Z', _, _, _, aw', hz', hI3, hPn⟩
set_option maxHeartbeats 4000000 in
set_option maxRecDepth 100000 in
theorem law_addTriangle {p : Program} {l : Launch} {e : Env} {s : State} {m : MethodId} {args : Array Value} {below : List Frame} {meth : Method} {c : Code} {D : mD} {A : Nat → Prop} {Q : State → Prop} {y0 : MethodName} {ret0 : Option FieldType} {b N : Nat} {xs : Nat → Int32} (hC : lX p m meth c s args D A y0 ret0 b N xs l) {o1 o2 q3 : Nat} {G : Nat → Nat} {M : Mm} {k n i : Nat} (hi : i + 8 ≤ N) (hJ : lJ D o1 G o2 q3 M) (hk : k + 60 ≤ room_1.cells ∧ n + 2600 ≤ room_1.slots) (kk : ∀ M' : Mm, lJ D o1 G o2 q3 M' → mV p l e room_1 s m args below meth c 9 D A Q M' (k + 60) (n + 2600) [(0, .ref b), (1, .ref o1), (2, .ref o2), (3, .ref q3), (4, .int (nI i))] [] 1806) : mV p l e room_1 s m args below meth c 9 D A Q M k n [(0, .ref b), (1, .ref o1), (2, .ref o2), (3, .ref q3), (4, .int (nI i))] [] 404 := by
  have C := hC.1
  have hst := hC.2.2.2.2.2
  obtain ⟨Z, cm, g, ar, aw, hz, hI, hP⟩ := hJ
  subst hz
  obtain ⟨mf1, hm1⟩ := hI.z0
  obtain ⟨mf2, hm2⟩ := hI.r0
  refine m_aload_n C dL_law_404 rfl 1 rfl ?_
  refine m_S hC hi 1 (by decide) (by decide) 0 4 rfl rfl dL_law_405 dL_law_406 dL_law_408 dL_law_409 dL_law_410 ?_
  refine m_S hC hi 2 (by decide) (by decide) 0 4 rfl rfl dL_law_411 dL_law_412 dL_law_414 dL_law_415 dL_law_416 ?_
  refine m_S hC hi 3 (by decide) (by decide) 0 4 rfl rfl dL_law_417 dL_law_418 dL_law_420 dL_law_421 dL_law_422 ?_
  refine m_S hC hi 4 (by decide) (by decide) 0 4 rfl rfl dL_law_423 dL_law_424 dL_law_426 dL_law_427 dL_law_428 ?_
  refine m_S hC hi 5 (by decide) (by decide) 0 4 rfl rfl dL_law_429 dL_law_430 dL_law_432 dL_law_433 dL_law_434 ?_
  refine m_S7 hC hi 6 (by decide) (by decide) 0 4 rfl rfl dL_law_435 dL_law_436 dL_law_438 dL_law_440 dL_law_441 ?_
  refine m_S7 hC hi 7 (by decide) (by decide) 0 4 rfl rfl dL_law_442 dL_law_443 dL_law_445 dL_law_447 dL_law_448 ?_
  refine m_aload_n C dL_law_449 rfl 3 rfl ?_
  refine m_callSHi (As := [.ref (Z 0), .int (sX xs i 1), .int (sX xs i 2), .int (sX xs i 3), .int (sX xs i 4), .int (sX xs i 5), .int (sX xs i 6), .int (sX xs i 7), .ref q3]) (st := []) C (c_L_addTriangle D A l hst hI hP.1 hP.2.1) (vx_cwSW 9 C.1.2.2.2.2 gL_law_L_addTriangle rfl rfl rfl (by decide +kernel) ⟨Nat.le_of_ble_eq_true rfl, Nat.le_of_ble_eq_true rfl⟩) rfl rfl (Nat.le_of_ble_eq_true rfl) dL_law_450 ⟨Nat.le_trans (by omega) hk.1, Nat.le_trans (by omega) hk.2⟩ (fun r M1 hq1 => ?_)
  obtain ⟨hr1, Z', aw', hz', hans, hI1⟩ := hq1
  subst hr1
  refine m_istore (L' := [(5, .int (q_addk cm ar (sX xs i 1) 3 (q_okT (sX xs i 2) (sX xs i 3) (sX xs i 4) (sX xs i 5) (sX xs i 6) (sX xs i 7)))), (0, .ref b), (1, .ref (Z 0)), (2, .ref o2), (3, .ref q3), (4, .int (nI i))]) C dL_law_453 (by decide) rfl ?_
  refine m_aload_n C dL_law_455 rfl 3 rfl ?_
  refine m_S hC hi 1 (by decide) (by decide) 1 5 rfl rfl dL_law_456 dL_law_457 dL_law_459 dL_law_460 dL_law_461 ?_
  refine m_S hC hi 2 (by decide) (by decide) 1 5 rfl rfl dL_law_462 dL_law_463 dL_law_465 dL_law_466 dL_law_467 ?_
  refine m_S hC hi 3 (by decide) (by decide) 1 5 rfl rfl dL_law_468 dL_law_469 dL_law_471 dL_law_472 dL_law_473 ?_
  refine m_S hC hi 4 (by decide) (by decide) 1 5 rfl rfl dL_law_474 dL_law_475 dL_law_477 dL_law_478 dL_law_479 ?_
  refine m_S hC hi 5 (by decide) (by decide) 1 5 rfl rfl dL_law_480 dL_law_481 dL_law_483 dL_law_484 dL_law_485 ?_
  refine m_S7 hC hi 6 (by decide) (by decide) 1 5 rfl rfl dL_law_486 dL_law_487 dL_law_489 dL_law_491 dL_law_492 ?_
  refine m_S7 hC hi 7 (by decide) (by decide) 1 5 rfl rfl dL_law_493 dL_law_494 dL_law_496 dL_law_498 dL_law_499 ?_
  obtain ⟨Fr, od, u, t, hr, hre⟩ := hI1.ref
  refine m_callVi (As := [.int (sX xs i 1), .int (sX xs i 2), .int (sX xs i 3), .int (sX xs i 4), .int (sX xs i 5), .int (sX xs i 6), .int (sX xs i 7)]) (st := []) C hr.1 rfl (c_X8_addTriangle D A l hr hP.1 (sX xs i 1) (sX xs i 2) (sX xs i 3) (sX xs i 4) (sX xs i 5) (sX xs i 6) (sX xs i 7)) (cwV 7 C.1.2.2.2.2 gL_law_X8_addTriangle rfl rfl rfl (by decide +kernel) ⟨Nat.le_of_ble_eq_true rfl, Nat.le_of_ble_eq_true rfl⟩) rfl rfl (Nat.le_of_ble_eq_true rfl) dL_law_500 ⟨Nat.le_trans (by omega) hk.1, Nat.le_trans (by omega) hk.2⟩ (fun r M2 hq2 => ?_)
  have hq3 : ∃ (u' : Int32) (od' : Nat → Int32), rW D G o2 Fr (q_addk cm ar (sX xs i 1) 3 (q_okT (sX xs i 2) (sX xs i 3) (sX xs i 4) (sX xs i 5) (sX xs i 6) (sX xs i 7))) (nI ((if q_addk cm ar (sX xs i 1) 3 (q_okT (sX xs i 2) (sX xs i 3) (sX xs i 4) (sX xs i 5) (sX xs i 6) (sX xs i 7)) = 0 then cm + 1 else cm))) g u' (upA (if q_addk cm ar (sX xs i 1) 3 (q_okT (sX xs i 2) (sX xs i 3) (sX xs i 4) (sX xs i 5) (sX xs i 6) (sX xs i 7)) = 0 then (q_addS cm ar (sX xs i 1) 3 (q_sh [(sX xs i 2), (sX xs i 3), (sX xs i 4), (sX xs i 5), (sX xs i 6), (sX xs i 7)]) 6) else ar) 17 od') M2 ∧ (q_addk cm ar (sX xs i 1) 3 (q_okT (sX xs i 2) (sX xs i 3) (sX xs i 4) (sX xs i 5) (sX xs i 6) (sX xs i 7)) = 0 → r = nI cm) := by
    obtain ⟨y1, y2⟩ := hq2
    by_cases z : q_addk cm ar (sX xs i 1) 3 (q_okT (sX xs i 2) (sX xs i 3) (sX xs i 4) (sX xs i 5) (sX xs i 6) (sX xs i 7)) = 0
    · obtain ⟨y3, y4⟩ := y2 z
      refine ⟨u, od, ?_, fun _ => y3⟩
      rw [if_pos z, if_pos z, z]
      exact y4
    · obtain ⟨y3, y4⟩ := y1 z
      refine ⟨u, od, ?_, fun y => absurd y z⟩
      rw [if_neg z, if_neg z]
      exact y4
  obtain ⟨u3, od3, hr3, hv3⟩ := hq3
  have hI3 := hre _ _ _ _ _ _ _ hr3
  refine m_istore (L' := [(6, .int r), (5, .int (q_addk cm ar (sX xs i 1) 3 (q_okT (sX xs i 2) (sX xs i 3) (sX xs i 4) (sX xs i 5) (sX xs i 6) (sX xs i 7)))), (0, .ref b), (1, .ref (Z 0)), (2, .ref o2), (3, .ref q3), (4, .int (nI i))]) C dL_law_503 (by decide) rfl ?_
  refine m_aload_n C dL_law_505 rfl 4 rfl ?_
  refine m_callVi (As := []) (st := []) C hr3.1 rfl (c_X8_thrown D A l hr3) (cwV 0 C.1.2.2.2.2 gL_law_X8_thrown rfl rfl rfl (by decide +kernel) ⟨Nat.le_of_ble_eq_true rfl, Nat.le_of_ble_eq_true rfl⟩) rfl rfl (Nat.le_of_ble_eq_true rfl) dL_law_506 ⟨Nat.le_trans (by omega) hk.1, Nat.le_trans (by omega) hk.2⟩ (fun r4 M4 hq4 => ?_)
  obtain ⟨e4, e5⟩ := hq4
  subst e4
  subst e5
  have hPn : lP ((if q_addk cm ar (sX xs i 1) 3 (q_okT (sX xs i 2) (sX xs i 3) (sX xs i 4) (sX xs i 5) (sX xs i 6) (sX xs i 7)) = 0 then cm + 1 else cm)) (if q_addk cm ar (sX xs i 1) 3 (q_okT (sX xs i 2) (sX xs i 3) (sX xs i 4) (sX xs i 5) (sX xs i 6) (sX xs i 7)) = 0 then (q_addS cm ar (sX xs i 1) 3 (q_sh [(sX xs i 2), (sX xs i 3), (sX xs i 4), (sX xs i 5), (sX xs i 6), (sX xs i 7)]) 6) else ar) := by
    by_cases z : q_addk cm ar (sX xs i 1) 3 (q_okT (sX xs i 2) (sX xs i 3) (sX xs i 4) (sX xs i 5) (sX xs i 6) (sX xs i 7)) = 0
    · rw [if_pos z, if_pos z]; exact lP_addTriangle hP z
    · rw [if_neg z, if_neg z]; exact hP
  refine m_iload C dL_law_509 1 rfl ?_
  refine m_icmp_eq (tgt := 516) C dL_law_511 (by decide) (fun _ => ?_) (fun h => absurd rfl h)
  refine m_iload C dL_law_516 1 rfl ?_
  refine m_if_ne (tgt := 533) C dL_law_518 (by decide) (fun _ => ?_) (fun h0 => ?_)
  · refine m_goto (tgt := 1806) C dL_law_533 (by decide) ?_
    refine m_sub (L' := [(0, .ref b), (1, .ref (Z 0)), (2, .ref o2), (3, .ref q3), (4, .int (nI i))]) [2, 3, 4, 5, 6] rfl ?_
    refine m_widen (k' := k + 60) (n' := n + 2600) (by omega) (by omega) ?_
    exact kk _ ⟨Z', _, _, _, aw', hz', hI3, hPn⟩
  · have hv := hv3 h0
    have ha := hans h0
    refine m_aload_n C dL_law_521 rfl 5 rfl ?_
    refine m_iconst (v := 0) C dL_law_522 (by decide) ?_
    refine m_lald C hI3.ans (by unfold vp_in; decide) dL_law_523 ?_
    refine m_iload C dL_law_524 0 rfl ?_
    refine m_i2l (v := Int32.toInt64 r) C dL_law_526 rfl ?_
    refine m_lcmp C dL_law_527 ?_
    refine m_if_eq (tgt := 533) C dL_law_528 (by decide) (fun _ => ?_) (fun h => absurd ((lg_cmp_eq _ _).mpr (by rw [hv]; exact ha)) h)
    refine m_goto (tgt := 1806) C dL_law_533 (by decide) ?_
    refine m_sub (L' := [(0, .ref b), (1, .ref (Z 0)), (2, .ref o2), (3, .ref q3), (4, .int (nI i))]) [2, 3, 4, 5, 6] rfl ?_
    refine m_widen (k' := k + 60) (n' := n + 2600) (by omega) (by omega) ?_
    exact kk _ ⟨Z', _, _, _, aw', hz', hI3, hPn⟩
set_option maxHeartbeats 4000000 in
set_option maxRecDepth 100000 in
theorem law_remove {p : Program} {l : Launch} {e : Env} {s : State} {m : MethodId} {args : Array Value} {below : List Frame} {meth : Method} {c : Code} {D : mD} {A : Nat → Prop} {Q : State → Prop} {y0 : MethodName} {ret0 : Option FieldType} {b N : Nat} {xs : Nat → Int32} (hC : lX p m meth c s args D A y0 ret0 b N xs l) {o1 o2 q3 : Nat} {G : Nat → Nat} {M : Mm} {k n i : Nat} (hi : i + 8 ≤ N) (hJ : lJ D o1 G o2 q3 M) (hk : k + 60 ≤ room_1.cells ∧ n + 2600 ≤ room_1.slots) (kk : ∀ M' : Mm, lJ D o1 G o2 q3 M' → mV p l e room_1 s m args below meth c 9 D A Q M' (k + 60) (n + 2600) [(0, .ref b), (1, .ref o1), (2, .ref o2), (3, .ref q3), (4, .int (nI i))] [] 1806) : mV p l e room_1 s m args below meth c 9 D A Q M k n [(0, .ref b), (1, .ref o1), (2, .ref o2), (3, .ref q3), (4, .int (nI i))] [] 536 := by
  have C := hC.1
  have hst := hC.2.2.2.2.2
  obtain ⟨Z, cm, g, ar, aw, hz, hI, hP⟩ := hJ
  subst hz
  obtain ⟨mf1, hm1⟩ := hI.z0
  obtain ⟨mf2, hm2⟩ := hI.r0
  refine m_aload_n C dL_law_536 rfl 1 rfl ?_
  refine m_S hC hi 1 (by decide) (by decide) 0 4 rfl rfl dL_law_537 dL_law_538 dL_law_540 dL_law_541 dL_law_542 ?_
  refine m_aload_n C dL_law_543 rfl 3 rfl ?_
  refine m_callSHi (As := [.ref (Z 0), .int (sX xs i 1), .ref q3]) (st := []) C (c_L_remove D A l hst hI hP.1 hP.2.1) (vx_cwSW 3 C.1.2.2.2.2 gL_law_L_remove rfl rfl rfl (by decide +kernel) ⟨Nat.le_of_ble_eq_true rfl, Nat.le_of_ble_eq_true rfl⟩) rfl rfl (Nat.le_of_ble_eq_true rfl) dL_law_544 ⟨Nat.le_trans (by omega) hk.1, Nat.le_trans (by omega) hk.2⟩ (fun r M1 hq1 => ?_)
  obtain ⟨hr1, Z', aw', hz', hans, hI1⟩ := hq1
  subst hr1
  refine m_istore (L' := [(5, .int (k_remove cm ar (sX xs i 1))), (0, .ref b), (1, .ref (Z 0)), (2, .ref o2), (3, .ref q3), (4, .int (nI i))]) C dL_law_547 (by decide) rfl ?_
  refine m_aload_n C dL_law_549 rfl 3 rfl ?_
  refine m_S hC hi 1 (by decide) (by decide) 1 5 rfl rfl dL_law_550 dL_law_551 dL_law_553 dL_law_554 dL_law_555 ?_
  obtain ⟨Fr, od, u, t, hr, hre⟩ := hI1.ref
  refine m_callVi (As := [.int (sX xs i 1)]) (st := []) C hr.1 rfl (c_X8_remove D A l hr hP.1 (sX xs i 1)) (cwV 1 C.1.2.2.2.2 gL_law_X8_remove rfl rfl rfl (by decide +kernel) ⟨Nat.le_of_ble_eq_true rfl, Nat.le_of_ble_eq_true rfl⟩) rfl rfl (Nat.le_of_ble_eq_true rfl) dL_law_556 ⟨Nat.le_trans (by omega) hk.1, Nat.le_trans (by omega) hk.2⟩ (fun r M2 hq2 => ?_)
  have hq3 : ∃ (u' : Int32) (od' : Nat → Int32), rW D G o2 Fr (k_remove cm ar (sX xs i 1)) (nI (cm)) g u' (upA (if k_remove cm ar (sX xs i 1) = 0 then (s_remove ar (sX xs i 1)) else ar) 17 od') M2 ∧ (k_remove cm ar (sX xs i 1) = 0 → r = nI (pre9 ar (jN (sX xs i 1))).length) := by
    obtain ⟨od2, ⟨u2, y1⟩, y2⟩ := hq2
    exact ⟨u2, od2, y1, y2⟩
  obtain ⟨u3, od3, hr3, hv3⟩ := hq3
  have hI3 := hre _ _ _ _ _ _ _ hr3
  refine m_istore (L' := [(6, .int r), (5, .int (k_remove cm ar (sX xs i 1))), (0, .ref b), (1, .ref (Z 0)), (2, .ref o2), (3, .ref q3), (4, .int (nI i))]) C dL_law_559 (by decide) rfl ?_
  refine m_aload_n C dL_law_561 rfl 4 rfl ?_
  refine m_callVi (As := []) (st := []) C hr3.1 rfl (c_X8_thrown D A l hr3) (cwV 0 C.1.2.2.2.2 gL_law_X8_thrown rfl rfl rfl (by decide +kernel) ⟨Nat.le_of_ble_eq_true rfl, Nat.le_of_ble_eq_true rfl⟩) rfl rfl (Nat.le_of_ble_eq_true rfl) dL_law_562 ⟨Nat.le_trans (by omega) hk.1, Nat.le_trans (by omega) hk.2⟩ (fun r4 M4 hq4 => ?_)
  obtain ⟨e4, e5⟩ := hq4
  subst e4
  subst e5
  have hPn : lP (cm) (if k_remove cm ar (sX xs i 1) = 0 then (s_remove ar (sX xs i 1)) else ar) := by
    by_cases z : k_remove cm ar (sX xs i 1) = 0
    · rw [if_pos z]; exact lP_remove hP z
    · rw [if_neg z]; exact hP
  refine m_iload C dL_law_565 1 rfl ?_
  refine m_icmp_eq (tgt := 572) C dL_law_567 (by decide) (fun _ => ?_) (fun h => absurd rfl h)
  refine m_iload C dL_law_572 1 rfl ?_
  refine m_if_ne (tgt := 589) C dL_law_574 (by decide) (fun _ => ?_) (fun h0 => ?_)
  · refine m_goto (tgt := 1806) C dL_law_589 (by decide) ?_
    refine m_sub (L' := [(0, .ref b), (1, .ref (Z 0)), (2, .ref o2), (3, .ref q3), (4, .int (nI i))]) [2, 3, 4, 5, 6] rfl ?_
    refine m_widen (k' := k + 60) (n' := n + 2600) (by omega) (by omega) ?_
    exact kk _ ⟨Z', _, _, _, aw', hz', hI3, hPn⟩
  · have hv := hv3 h0
    have ha := hans h0
    refine m_aload_n C dL_law_577 rfl 5 rfl ?_
    refine m_iconst (v := 0) C dL_law_578 (by decide) ?_
    refine m_lald C hI3.ans (by unfold vp_in; decide) dL_law_579 ?_
    refine m_iload C dL_law_580 0 rfl ?_
    refine m_i2l (v := Int32.toInt64 r) C dL_law_582 rfl ?_
    refine m_lcmp C dL_law_583 ?_
    refine m_if_eq (tgt := 589) C dL_law_584 (by decide) (fun _ => ?_) (fun h => absurd ((lg_cmp_eq _ _).mpr (by rw [hv]; exact ha)) h)
    refine m_goto (tgt := 1806) C dL_law_589 (by decide) ?_
    refine m_sub (L' := [(0, .ref b), (1, .ref (Z 0)), (2, .ref o2), (3, .ref q3), (4, .int (nI i))]) [2, 3, 4, 5, 6] rfl ?_
    refine m_widen (k' := k + 60) (n' := n + 2600) (by omega) (by omega) ?_
    exact kk _ ⟨Z', _, _, _, aw', hz', hI3, hPn⟩
set_option maxHeartbeats 4000000 in
set_option maxRecDepth 100000 in
theorem law_move {p : Program} {l : Launch} {e : Env} {s : State} {m : MethodId} {args : Array Value} {below : List Frame} {meth : Method} {c : Code} {D : mD} {A : Nat → Prop} {Q : State → Prop} {y0 : MethodName} {ret0 : Option FieldType} {b N : Nat} {xs : Nat → Int32} (hC : lX p m meth c s args D A y0 ret0 b N xs l) {o1 o2 q3 : Nat} {G : Nat → Nat} {M : Mm} {k n i : Nat} (hi : i + 8 ≤ N) (hJ : lJ D o1 G o2 q3 M) (hk : k + 60 ≤ room_1.cells ∧ n + 2600 ≤ room_1.slots) (kk : ∀ M' : Mm, lJ D o1 G o2 q3 M' → mV p l e room_1 s m args below meth c 9 D A Q M' (k + 60) (n + 2600) [(0, .ref b), (1, .ref o1), (2, .ref o2), (3, .ref q3), (4, .int (nI i))] [] 1806) : mV p l e room_1 s m args below meth c 9 D A Q M k n [(0, .ref b), (1, .ref o1), (2, .ref o2), (3, .ref q3), (4, .int (nI i))] [] 592 := by
  have C := hC.1
  have hst := hC.2.2.2.2.2
  obtain ⟨Z, cm, g, ar, aw, hz, hI, hP⟩ := hJ
  subst hz
  obtain ⟨mf1, hm1⟩ := hI.z0
  obtain ⟨mf2, hm2⟩ := hI.r0
  refine m_aload_n C dL_law_592 rfl 1 rfl ?_
  refine m_S hC hi 1 (by decide) (by decide) 0 4 rfl rfl dL_law_593 dL_law_594 dL_law_596 dL_law_597 dL_law_598 ?_
  refine m_S hC hi 2 (by decide) (by decide) 0 4 rfl rfl dL_law_599 dL_law_600 dL_law_602 dL_law_603 dL_law_604 ?_
  refine m_S hC hi 3 (by decide) (by decide) 0 4 rfl rfl dL_law_605 dL_law_606 dL_law_608 dL_law_609 dL_law_610 ?_
  refine m_aload_n C dL_law_611 rfl 3 rfl ?_
  refine m_callSHi (As := [.ref (Z 0), .int (sX xs i 1), .int (sX xs i 2), .int (sX xs i 3), .ref q3]) (st := []) C (c_L_move D A l hst hI hP.1 hP.2.1) (vx_cwSW 5 C.1.2.2.2.2 gL_law_L_move rfl rfl rfl (by decide +kernel) ⟨Nat.le_of_ble_eq_true rfl, Nat.le_of_ble_eq_true rfl⟩) rfl rfl (Nat.le_of_ble_eq_true rfl) dL_law_612 ⟨Nat.le_trans (by omega) hk.1, Nat.le_trans (by omega) hk.2⟩ (fun r M1 hq1 => ?_)
  obtain ⟨hr1, Z', aw', hz', hans, hI1⟩ := hq1
  subst hr1
  refine m_istore (L' := [(5, .int (k_move cm ar (sX xs i 1) (sX xs i 2) (sX xs i 3))), (0, .ref b), (1, .ref (Z 0)), (2, .ref o2), (3, .ref q3), (4, .int (nI i))]) C dL_law_615 (by decide) rfl ?_
  refine m_aload_n C dL_law_617 rfl 3 rfl ?_
  refine m_S hC hi 1 (by decide) (by decide) 1 5 rfl rfl dL_law_618 dL_law_619 dL_law_621 dL_law_622 dL_law_623 ?_
  refine m_S hC hi 2 (by decide) (by decide) 1 5 rfl rfl dL_law_624 dL_law_625 dL_law_627 dL_law_628 dL_law_629 ?_
  refine m_S hC hi 3 (by decide) (by decide) 1 5 rfl rfl dL_law_630 dL_law_631 dL_law_633 dL_law_634 dL_law_635 ?_
  obtain ⟨Fr, od, u, t, hr, hre⟩ := hI1.ref
  refine m_callVi (As := [.int (sX xs i 1), .int (sX xs i 2), .int (sX xs i 3)]) (st := []) C hr.1 rfl (c_X8_move D A l hr hP.1 (sX xs i 1) (sX xs i 2) (sX xs i 3)) (cwV 3 C.1.2.2.2.2 gL_law_X8_move rfl rfl rfl (by decide +kernel) ⟨Nat.le_of_ble_eq_true rfl, Nat.le_of_ble_eq_true rfl⟩) rfl rfl (Nat.le_of_ble_eq_true rfl) dL_law_636 ⟨Nat.le_trans (by omega) hk.1, Nat.le_trans (by omega) hk.2⟩ (fun r M2 hq2 => ?_)
  have hq3 : ∃ (u' : Int32) (od' : Nat → Int32), rW D G o2 Fr (k_move cm ar (sX xs i 1) (sX xs i 2) (sX xs i 3)) (nI (cm)) g u' (upA (if k_move cm ar (sX xs i 1) (sX xs i 2) (sX xs i 3) = 0 then (s_move ar (sX xs i 1) (sX xs i 2) (sX xs i 3)) else ar) 17 od') M2 ∧ (k_move cm ar (sX xs i 1) (sX xs i 2) (sX xs i 3) = 0 → r = nI (plc ar (jN (sX xs i 1)))) := by
    obtain ⟨y1, y2⟩ := hq2
    exact ⟨u, od, y1, y2⟩
  obtain ⟨u3, od3, hr3, hv3⟩ := hq3
  have hI3 := hre _ _ _ _ _ _ _ hr3
  refine m_istore (L' := [(6, .int r), (5, .int (k_move cm ar (sX xs i 1) (sX xs i 2) (sX xs i 3))), (0, .ref b), (1, .ref (Z 0)), (2, .ref o2), (3, .ref q3), (4, .int (nI i))]) C dL_law_639 (by decide) rfl ?_
  refine m_aload_n C dL_law_641 rfl 4 rfl ?_
  refine m_callVi (As := []) (st := []) C hr3.1 rfl (c_X8_thrown D A l hr3) (cwV 0 C.1.2.2.2.2 gL_law_X8_thrown rfl rfl rfl (by decide +kernel) ⟨Nat.le_of_ble_eq_true rfl, Nat.le_of_ble_eq_true rfl⟩) rfl rfl (Nat.le_of_ble_eq_true rfl) dL_law_642 ⟨Nat.le_trans (by omega) hk.1, Nat.le_trans (by omega) hk.2⟩ (fun r4 M4 hq4 => ?_)
  obtain ⟨e4, e5⟩ := hq4
  subst e4
  subst e5
  have hPn : lP (cm) (if k_move cm ar (sX xs i 1) (sX xs i 2) (sX xs i 3) = 0 then (s_move ar (sX xs i 1) (sX xs i 2) (sX xs i 3)) else ar) := by
    by_cases z : k_move cm ar (sX xs i 1) (sX xs i 2) (sX xs i 3) = 0
    · rw [if_pos z]; exact lP_move hP z
    · rw [if_neg z]; exact hP
  refine m_iload C dL_law_645 1 rfl ?_
  refine m_icmp_eq (tgt := 652) C dL_law_647 (by decide) (fun _ => ?_) (fun h => absurd rfl h)
  refine m_iload C dL_law_652 1 rfl ?_
  refine m_if_ne (tgt := 669) C dL_law_654 (by decide) (fun _ => ?_) (fun h0 => ?_)
  · refine m_goto (tgt := 1806) C dL_law_669 (by decide) ?_
    refine m_sub (L' := [(0, .ref b), (1, .ref (Z 0)), (2, .ref o2), (3, .ref q3), (4, .int (nI i))]) [2, 3, 4, 5, 6] rfl ?_
    refine m_widen (k' := k + 60) (n' := n + 2600) (by omega) (by omega) ?_
    exact kk _ ⟨Z', _, _, _, aw', hz', hI3, hPn⟩
  · have hv := hv3 h0
    have ha := hans h0
    refine m_aload_n C dL_law_657 rfl 5 rfl ?_
    refine m_iconst (v := 0) C dL_law_658 (by decide) ?_
    refine m_lald C hI3.ans (by unfold vp_in; decide) dL_law_659 ?_
    refine m_iload C dL_law_660 0 rfl ?_
    refine m_i2l (v := Int32.toInt64 r) C dL_law_662 rfl ?_
    refine m_lcmp C dL_law_663 ?_
    refine m_if_eq (tgt := 669) C dL_law_664 (by decide) (fun _ => ?_) (fun h => absurd ((lg_cmp_eq _ _).mpr (by rw [hv]; exact ha)) h)
    refine m_goto (tgt := 1806) C dL_law_669 (by decide) ?_
    refine m_sub (L' := [(0, .ref b), (1, .ref (Z 0)), (2, .ref o2), (3, .ref q3), (4, .int (nI i))]) [2, 3, 4, 5, 6] rfl ?_
    refine m_widen (k' := k + 60) (n' := n + 2600) (by omega) (by omega) ?_
    exact kk _ ⟨Z', _, _, _, aw', hz', hI3, hPn⟩
set_option maxHeartbeats 4000000 in
set_option maxRecDepth 100000 in
theorem law_node {p : Program} {l : Launch} {e : Env} {s : State} {m : MethodId} {args : Array Value} {below : List Frame} {meth : Method} {c : Code} {D : mD} {A : Nat → Prop} {Q : State → Prop} {y0 : MethodName} {ret0 : Option FieldType} {b N : Nat} {xs : Nat → Int32} (hC : lX p m meth c s args D A y0 ret0 b N xs l) {o1 o2 q3 : Nat} {G : Nat → Nat} {M : Mm} {k n i : Nat} (hi : i + 8 ≤ N) (hJ : lJ D o1 G o2 q3 M) (hk : k + 60 ≤ room_1.cells ∧ n + 2600 ≤ room_1.slots) (kk : ∀ M' : Mm, lJ D o1 G o2 q3 M' → mV p l e room_1 s m args below meth c 9 D A Q M' (k + 60) (n + 2600) [(0, .ref b), (1, .ref o1), (2, .ref o2), (3, .ref q3), (4, .int (nI i))] [] 1806) : mV p l e room_1 s m args below meth c 9 D A Q M k n [(0, .ref b), (1, .ref o1), (2, .ref o2), (3, .ref q3), (4, .int (nI i))] [] 672 := by
  have C := hC.1
  have hst := hC.2.2.2.2.2
  obtain ⟨Z, cm, g, ar, aw, hz, hI, hP⟩ := hJ
  subst hz
  obtain ⟨mf1, hm1⟩ := hI.z0
  obtain ⟨mf2, hm2⟩ := hI.r0
  refine m_aload_n C dL_law_672 rfl 1 rfl ?_
  refine m_S hC hi 1 (by decide) (by decide) 0 4 rfl rfl dL_law_673 dL_law_674 dL_law_676 dL_law_677 dL_law_678 ?_
  refine m_S hC hi 2 (by decide) (by decide) 0 4 rfl rfl dL_law_679 dL_law_680 dL_law_682 dL_law_683 dL_law_684 ?_
  refine m_aload_n C dL_law_685 rfl 3 rfl ?_
  refine m_callSHi (As := [.ref (Z 0), .int (sX xs i 1), .int (sX xs i 2), .ref q3]) (st := []) C (c_L_node D A l hst hI hP.1 hP.2.1) (vx_cwSW 4 C.1.2.2.2.2 gL_law_L_node rfl rfl rfl (by decide +kernel) ⟨Nat.le_of_ble_eq_true rfl, Nat.le_of_ble_eq_true rfl⟩) rfl rfl (Nat.le_of_ble_eq_true rfl) dL_law_686 ⟨Nat.le_trans (by omega) hk.1, Nat.le_trans (by omega) hk.2⟩ (fun r M1 hq1 => ?_)
  obtain ⟨hr1, Z', aw', hz', hans, hI1⟩ := hq1
  subst hr1
  refine m_istore (L' := [(5, .int (k_node cm ar (sX xs i 1) (sX xs i 2))), (0, .ref b), (1, .ref (Z 0)), (2, .ref o2), (3, .ref q3), (4, .int (nI i))]) C dL_law_689 (by decide) rfl ?_
  refine m_aload_n C dL_law_691 rfl 3 rfl ?_
  refine m_S hC hi 1 (by decide) (by decide) 1 5 rfl rfl dL_law_692 dL_law_693 dL_law_695 dL_law_696 dL_law_697 ?_
  refine m_S hC hi 2 (by decide) (by decide) 1 5 rfl rfl dL_law_698 dL_law_699 dL_law_701 dL_law_702 dL_law_703 ?_
  obtain ⟨Fr, od, u, t, hr, hre⟩ := hI1.ref
  refine m_callVi (As := [.int (sX xs i 1), .int (sX xs i 2)]) (st := []) C hr.1 rfl (c_X8_node D A l hr hP.1 (sX xs i 1) (sX xs i 2)) (cwV 2 C.1.2.2.2.2 gL_law_X8_node rfl rfl rfl (by decide +kernel) ⟨Nat.le_of_ble_eq_true rfl, Nat.le_of_ble_eq_true rfl⟩) rfl rfl (Nat.le_of_ble_eq_true rfl) dL_law_704 ⟨Nat.le_trans (by omega) hk.1, Nat.le_trans (by omega) hk.2⟩ (fun r M2 hq2 => ?_)
  have hq3 : ∃ (u' : Int32) (od' : Nat → Int32), rW D G o2 Fr (k_node cm ar (sX xs i 1) (sX xs i 2)) (nI (cm)) g u' (upA ar 17 od') M2 ∧ (k_node cm ar (sX xs i 1) (sX xs i 2) = 0 → r = q_tldv ar (sX xs i 1) (sX xs i 2)) := by
    obtain ⟨y1, y2⟩ := hq2
    rw [ite_self] at y1
    exact ⟨u, od, y1, y2⟩
  obtain ⟨u3, od3, hr3, hv3⟩ := hq3
  have hI3 := hre _ _ _ _ _ _ _ hr3
  refine m_istore (L' := [(6, .int r), (5, .int (k_node cm ar (sX xs i 1) (sX xs i 2))), (0, .ref b), (1, .ref (Z 0)), (2, .ref o2), (3, .ref q3), (4, .int (nI i))]) C dL_law_707 (by decide) rfl ?_
  refine m_aload_n C dL_law_709 rfl 4 rfl ?_
  refine m_callVi (As := []) (st := []) C hr3.1 rfl (c_X8_thrown D A l hr3) (cwV 0 C.1.2.2.2.2 gL_law_X8_thrown rfl rfl rfl (by decide +kernel) ⟨Nat.le_of_ble_eq_true rfl, Nat.le_of_ble_eq_true rfl⟩) rfl rfl (Nat.le_of_ble_eq_true rfl) dL_law_710 ⟨Nat.le_trans (by omega) hk.1, Nat.le_trans (by omega) hk.2⟩ (fun r4 M4 hq4 => ?_)
  obtain ⟨e4, e5⟩ := hq4
  subst e4
  subst e5
  have hPn : lP cm ar := hP
  refine m_iload C dL_law_713 1 rfl ?_
  refine m_icmp_eq (tgt := 720) C dL_law_715 (by decide) (fun _ => ?_) (fun h => absurd rfl h)
  refine m_iload C dL_law_720 1 rfl ?_
  refine m_if_ne (tgt := 737) C dL_law_722 (by decide) (fun _ => ?_) (fun h0 => ?_)
  · refine m_goto (tgt := 1806) C dL_law_737 (by decide) ?_
    refine m_sub (L' := [(0, .ref b), (1, .ref (Z 0)), (2, .ref o2), (3, .ref q3), (4, .int (nI i))]) [2, 3, 4, 5, 6] rfl ?_
    refine m_widen (k' := k + 60) (n' := n + 2600) (by omega) (by omega) ?_
    exact kk _ ⟨Z', _, _, _, aw', hz', hI3, hPn⟩
  · have hv := hv3 h0
    have ha := hans h0
    refine m_aload_n C dL_law_725 rfl 5 rfl ?_
    refine m_iconst (v := 0) C dL_law_726 (by decide) ?_
    refine m_lald C hI3.ans (by unfold vp_in; decide) dL_law_727 ?_
    refine m_iload C dL_law_728 0 rfl ?_
    refine m_i2l (v := Int32.toInt64 r) C dL_law_730 rfl ?_
    refine m_lcmp C dL_law_731 ?_
    refine m_if_eq (tgt := 737) C dL_law_732 (by decide) (fun _ => ?_) (fun h => absurd ((lg_cmp_eq _ _).mpr (by rw [hv]; exact ha)) h)
    refine m_goto (tgt := 1806) C dL_law_737 (by decide) ?_
    refine m_sub (L' := [(0, .ref b), (1, .ref (Z 0)), (2, .ref o2), (3, .ref q3), (4, .int (nI i))]) [2, 3, 4, 5, 6] rfl ?_
    refine m_widen (k' := k + 60) (n' := n + 2600) (by omega) (by omega) ?_
    exact kk _ ⟨Z', _, _, _, aw', hz', hI3, hPn⟩
set_option maxHeartbeats 4000000 in
set_option maxRecDepth 100000 in
theorem law_child {p : Program} {l : Launch} {e : Env} {s : State} {m : MethodId} {args : Array Value} {below : List Frame} {meth : Method} {c : Code} {D : mD} {A : Nat → Prop} {Q : State → Prop} {y0 : MethodName} {ret0 : Option FieldType} {b N : Nat} {xs : Nat → Int32} (hC : lX p m meth c s args D A y0 ret0 b N xs l) {o1 o2 q3 : Nat} {G : Nat → Nat} {M : Mm} {k n i : Nat} (hi : i + 8 ≤ N) (hJ : lJ D o1 G o2 q3 M) (hk : k + 60 ≤ room_1.cells ∧ n + 2600 ≤ room_1.slots) (kk : ∀ M' : Mm, lJ D o1 G o2 q3 M' → mV p l e room_1 s m args below meth c 9 D A Q M' (k + 60) (n + 2600) [(0, .ref b), (1, .ref o1), (2, .ref o2), (3, .ref q3), (4, .int (nI i))] [] 1806) : mV p l e room_1 s m args below meth c 9 D A Q M k n [(0, .ref b), (1, .ref o1), (2, .ref o2), (3, .ref q3), (4, .int (nI i))] [] 740 := by
  have C := hC.1
  have hst := hC.2.2.2.2.2
  obtain ⟨Z, cm, g, ar, aw, hz, hI, hP⟩ := hJ
  subst hz
  obtain ⟨mf1, hm1⟩ := hI.z0
  obtain ⟨mf2, hm2⟩ := hI.r0
  refine m_aload_n C dL_law_740 rfl 1 rfl ?_
  refine m_S hC hi 1 (by decide) (by decide) 0 4 rfl rfl dL_law_741 dL_law_742 dL_law_744 dL_law_745 dL_law_746 ?_
  refine m_S hC hi 2 (by decide) (by decide) 0 4 rfl rfl dL_law_747 dL_law_748 dL_law_750 dL_law_751 dL_law_752 ?_
  refine m_aload_n C dL_law_753 rfl 3 rfl ?_
  refine m_callSHi (As := [.ref (Z 0), .int (sX xs i 1), .int (sX xs i 2), .ref q3]) (st := []) C (c_L_child D A l hst hI hP.1 hP.2.1) (vx_cwSW 4 C.1.2.2.2.2 gL_law_L_child rfl rfl rfl (by decide +kernel) ⟨Nat.le_of_ble_eq_true rfl, Nat.le_of_ble_eq_true rfl⟩) rfl rfl (Nat.le_of_ble_eq_true rfl) dL_law_754 ⟨Nat.le_trans (by omega) hk.1, Nat.le_trans (by omega) hk.2⟩ (fun r M1 hq1 => ?_)
  obtain ⟨hr1, Z', aw', hz', hans, hI1⟩ := hq1
  subst hr1
  refine m_istore (L' := [(5, .int (k_child cm ar (sX xs i 1) (sX xs i 2))), (0, .ref b), (1, .ref (Z 0)), (2, .ref o2), (3, .ref q3), (4, .int (nI i))]) C dL_law_757 (by decide) rfl ?_
  refine m_aload_n C dL_law_759 rfl 3 rfl ?_
  refine m_S hC hi 1 (by decide) (by decide) 1 5 rfl rfl dL_law_760 dL_law_761 dL_law_763 dL_law_764 dL_law_765 ?_
  refine m_S hC hi 2 (by decide) (by decide) 1 5 rfl rfl dL_law_766 dL_law_767 dL_law_769 dL_law_770 dL_law_771 ?_
  obtain ⟨Fr, od, u, t, hr, hre⟩ := hI1.ref
  refine m_callVi (As := [.int (sX xs i 1), .int (sX xs i 2)]) (st := []) C hr.1 rfl (c_X8_child D A l hr hP.1 (sX xs i 1) (sX xs i 2)) (cwV 2 C.1.2.2.2.2 gL_law_X8_child rfl rfl rfl (by decide +kernel) ⟨Nat.le_of_ble_eq_true rfl, Nat.le_of_ble_eq_true rfl⟩) rfl rfl (Nat.le_of_ble_eq_true rfl) dL_law_772 ⟨Nat.le_trans (by omega) hk.1, Nat.le_trans (by omega) hk.2⟩ (fun r M2 hq2 => ?_)
  have hq3 : ∃ (u' : Int32) (od' : Nat → Int32), rW D G o2 Fr (k_child cm ar (sX xs i 1) (sX xs i 2)) (nI (cm)) g u' (upA ar 17 od') M2 ∧ (k_child cm ar (sX xs i 1) (sX xs i 2) = 0 → r = v_child ar (sX xs i 1) (sX xs i 2)) := by
    obtain ⟨y1, y2⟩ := hq2
    rw [ite_self] at y1
    exact ⟨u, od, y1, y2⟩
  obtain ⟨u3, od3, hr3, hv3⟩ := hq3
  have hI3 := hre _ _ _ _ _ _ _ hr3
  refine m_istore (L' := [(6, .int r), (5, .int (k_child cm ar (sX xs i 1) (sX xs i 2))), (0, .ref b), (1, .ref (Z 0)), (2, .ref o2), (3, .ref q3), (4, .int (nI i))]) C dL_law_775 (by decide) rfl ?_
  refine m_aload_n C dL_law_777 rfl 4 rfl ?_
  refine m_callVi (As := []) (st := []) C hr3.1 rfl (c_X8_thrown D A l hr3) (cwV 0 C.1.2.2.2.2 gL_law_X8_thrown rfl rfl rfl (by decide +kernel) ⟨Nat.le_of_ble_eq_true rfl, Nat.le_of_ble_eq_true rfl⟩) rfl rfl (Nat.le_of_ble_eq_true rfl) dL_law_778 ⟨Nat.le_trans (by omega) hk.1, Nat.le_trans (by omega) hk.2⟩ (fun r4 M4 hq4 => ?_)
  obtain ⟨e4, e5⟩ := hq4
  subst e4
  subst e5
  have hPn : lP cm ar := hP
  refine m_iload C dL_law_781 1 rfl ?_
  refine m_icmp_eq (tgt := 788) C dL_law_783 (by decide) (fun _ => ?_) (fun h => absurd rfl h)
  refine m_iload C dL_law_788 1 rfl ?_
  refine m_if_ne (tgt := 805) C dL_law_790 (by decide) (fun _ => ?_) (fun h0 => ?_)
  · refine m_goto (tgt := 1806) C dL_law_805 (by decide) ?_
    refine m_sub (L' := [(0, .ref b), (1, .ref (Z 0)), (2, .ref o2), (3, .ref q3), (4, .int (nI i))]) [2, 3, 4, 5, 6] rfl ?_
    refine m_widen (k' := k + 60) (n' := n + 2600) (by omega) (by omega) ?_
    exact kk _ ⟨Z', _, _, _, aw', hz', hI3, hPn⟩
  · have hv := hv3 h0
    have ha := hans h0
    refine m_aload_n C dL_law_793 rfl 5 rfl ?_
    refine m_iconst (v := 0) C dL_law_794 (by decide) ?_
    refine m_lald C hI3.ans (by unfold vp_in; decide) dL_law_795 ?_
    refine m_iload C dL_law_796 0 rfl ?_
    refine m_i2l (v := Int32.toInt64 r) C dL_law_798 rfl ?_
    refine m_lcmp C dL_law_799 ?_
    refine m_if_eq (tgt := 805) C dL_law_800 (by decide) (fun _ => ?_) (fun h => absurd ((lg_cmp_eq _ _).mpr (by rw [hv]; exact ha)) h)
    refine m_goto (tgt := 1806) C dL_law_805 (by decide) ?_
    refine m_sub (L' := [(0, .ref b), (1, .ref (Z 0)), (2, .ref o2), (3, .ref q3), (4, .int (nI i))]) [2, 3, 4, 5, 6] rfl ?_
    refine m_widen (k' := k + 60) (n' := n + 2600) (by omega) (by omega) ?_
    exact kk _ ⟨Z', _, _, _, aw', hz', hI3, hPn⟩
set_option maxHeartbeats 4000000 in
set_option maxRecDepth 100000 in
theorem law_place {p : Program} {l : Launch} {e : Env} {s : State} {m : MethodId} {args : Array Value} {below : List Frame} {meth : Method} {c : Code} {D : mD} {A : Nat → Prop} {Q : State → Prop} {y0 : MethodName} {ret0 : Option FieldType} {b N : Nat} {xs : Nat → Int32} (hC : lX p m meth c s args D A y0 ret0 b N xs l) {o1 o2 q3 : Nat} {G : Nat → Nat} {M : Mm} {k n i : Nat} (hi : i + 8 ≤ N) (hJ : lJ D o1 G o2 q3 M) (hk : k + 60 ≤ room_1.cells ∧ n + 2600 ≤ room_1.slots) (kk : ∀ M' : Mm, lJ D o1 G o2 q3 M' → mV p l e room_1 s m args below meth c 9 D A Q M' (k + 60) (n + 2600) [(0, .ref b), (1, .ref o1), (2, .ref o2), (3, .ref q3), (4, .int (nI i))] [] 1806) : mV p l e room_1 s m args below meth c 9 D A Q M k n [(0, .ref b), (1, .ref o1), (2, .ref o2), (3, .ref q3), (4, .int (nI i))] [] 821 := by
  have C := hC.1
  have hst := hC.2.2.2.2.2
  obtain ⟨Z, cm, g, ar, aw, hz, hI, hP⟩ := hJ
  subst hz
  obtain ⟨mf1, hm1⟩ := hI.z0
  obtain ⟨mf2, hm2⟩ := hI.r0
  refine m_aload_n C dL_law_821 rfl 1 rfl ?_
  refine m_S hC hi 1 (by decide) (by decide) 0 4 rfl rfl dL_law_822 dL_law_823 dL_law_825 dL_law_826 dL_law_827 ?_
  refine m_S hC hi 2 (by decide) (by decide) 0 4 rfl rfl dL_law_828 dL_law_829 dL_law_831 dL_law_832 dL_law_833 ?_
  refine m_S hC hi 3 (by decide) (by decide) 0 4 rfl rfl dL_law_834 dL_law_835 dL_law_837 dL_law_838 dL_law_839 ?_
  refine m_aload_n C dL_law_840 rfl 3 rfl ?_
  refine m_callSHi (As := [.ref (Z 0), .int (sX xs i 1), .int (sX xs i 2), .int (sX xs i 3), .ref q3]) (st := []) C (c_L_place D A l hst hI hP.1 hP.2.1) (vx_cwSW 5 C.1.2.2.2.2 gL_law_L_place rfl rfl rfl (by decide +kernel) ⟨Nat.le_of_ble_eq_true rfl, Nat.le_of_ble_eq_true rfl⟩) rfl rfl (Nat.le_of_ble_eq_true rfl) dL_law_841 ⟨Nat.le_trans (by omega) hk.1, Nat.le_trans (by omega) hk.2⟩ (fun r M1 hq1 => ?_)
  obtain ⟨hr1, Z', aw', hz', hans, hI1⟩ := hq1
  subst hr1
  refine m_istore (L' := [(5, .int (k_place cm ar (sX xs i 1) (sX xs i 2) (sX xs i 3))), (0, .ref b), (1, .ref (Z 0)), (2, .ref o2), (3, .ref q3), (4, .int (nI i))]) C dL_law_844 (by decide) rfl ?_
  refine m_aload_n C dL_law_846 rfl 3 rfl ?_
  refine m_S hC hi 1 (by decide) (by decide) 1 5 rfl rfl dL_law_847 dL_law_848 dL_law_850 dL_law_851 dL_law_852 ?_
  refine m_S hC hi 2 (by decide) (by decide) 1 5 rfl rfl dL_law_853 dL_law_854 dL_law_856 dL_law_857 dL_law_858 ?_
  refine m_S hC hi 3 (by decide) (by decide) 1 5 rfl rfl dL_law_859 dL_law_860 dL_law_862 dL_law_863 dL_law_864 ?_
  obtain ⟨Fr, od, u, t, hr, hre⟩ := hI1.ref
  refine m_callVi (As := [.int (sX xs i 1), .int (sX xs i 2), .int (sX xs i 3)]) (st := []) C hr.1 rfl (c_X8_place D A l hr hP.1 (sX xs i 1) (sX xs i 2) (sX xs i 3)) (cwV 3 C.1.2.2.2.2 gL_law_X8_place rfl rfl rfl (by decide +kernel) ⟨Nat.le_of_ble_eq_true rfl, Nat.le_of_ble_eq_true rfl⟩) rfl rfl (Nat.le_of_ble_eq_true rfl) dL_law_865 ⟨Nat.le_trans (by omega) hk.1, Nat.le_trans (by omega) hk.2⟩ (fun r M2 hq2 => ?_)
  have hq3 : ∃ (u' : Int32) (od' : Nat → Int32), rW D G o2 Fr (k_place cm ar (sX xs i 1) (sX xs i 2) (sX xs i 3)) (nI (cm)) g u' (upA (if k_place cm ar (sX xs i 1) (sX xs i 2) (sX xs i 3) = 0 then (s_place ar (sX xs i 1) (sX xs i 2) (sX xs i 3)) else ar) 17 od') M2 ∧ (k_place cm ar (sX xs i 1) (sX xs i 2) (sX xs i 3) = 0 → r = ar 8 (jN (sX xs i 1))) := by
    obtain ⟨y1, y2⟩ := hq2
    exact ⟨u, od, y1, y2⟩
  obtain ⟨u3, od3, hr3, hv3⟩ := hq3
  have hI3 := hre _ _ _ _ _ _ _ hr3
  refine m_istore (L' := [(6, .int r), (5, .int (k_place cm ar (sX xs i 1) (sX xs i 2) (sX xs i 3))), (0, .ref b), (1, .ref (Z 0)), (2, .ref o2), (3, .ref q3), (4, .int (nI i))]) C dL_law_868 (by decide) rfl ?_
  refine m_aload_n C dL_law_870 rfl 4 rfl ?_
  refine m_callVi (As := []) (st := []) C hr3.1 rfl (c_X8_thrown D A l hr3) (cwV 0 C.1.2.2.2.2 gL_law_X8_thrown rfl rfl rfl (by decide +kernel) ⟨Nat.le_of_ble_eq_true rfl, Nat.le_of_ble_eq_true rfl⟩) rfl rfl (Nat.le_of_ble_eq_true rfl) dL_law_871 ⟨Nat.le_trans (by omega) hk.1, Nat.le_trans (by omega) hk.2⟩ (fun r4 M4 hq4 => ?_)
  obtain ⟨e4, e5⟩ := hq4
  subst e4
  subst e5
  have hPn : lP (cm) (if k_place cm ar (sX xs i 1) (sX xs i 2) (sX xs i 3) = 0 then (s_place ar (sX xs i 1) (sX xs i 2) (sX xs i 3)) else ar) := by
    by_cases z : k_place cm ar (sX xs i 1) (sX xs i 2) (sX xs i 3) = 0
    · rw [if_pos z]; exact lP_place hP z
    · rw [if_neg z]; exact hP
  refine m_iload C dL_law_874 1 rfl ?_
  refine m_icmp_eq (tgt := 881) C dL_law_876 (by decide) (fun _ => ?_) (fun h => absurd rfl h)
  refine m_iload C dL_law_881 1 rfl ?_
  refine m_if_ne (tgt := 898) C dL_law_883 (by decide) (fun _ => ?_) (fun h0 => ?_)
  · refine m_goto (tgt := 1806) C dL_law_898 (by decide) ?_
    refine m_sub (L' := [(0, .ref b), (1, .ref (Z 0)), (2, .ref o2), (3, .ref q3), (4, .int (nI i))]) [2, 3, 4, 5, 6] rfl ?_
    refine m_widen (k' := k + 60) (n' := n + 2600) (by omega) (by omega) ?_
    exact kk _ ⟨Z', _, _, _, aw', hz', hI3, hPn⟩
  · have hv := hv3 h0
    have ha := hans h0
    refine m_aload_n C dL_law_886 rfl 5 rfl ?_
    refine m_iconst (v := 0) C dL_law_887 (by decide) ?_
    refine m_lald C hI3.ans (by unfold vp_in; decide) dL_law_888 ?_
    refine m_iload C dL_law_889 0 rfl ?_
    refine m_i2l (v := Int32.toInt64 r) C dL_law_891 rfl ?_
    refine m_lcmp C dL_law_892 ?_
    refine m_if_eq (tgt := 898) C dL_law_893 (by decide) (fun _ => ?_) (fun h => absurd ((lg_cmp_eq _ _).mpr (by rw [hv]; exact ha)) h)
    refine m_goto (tgt := 1806) C dL_law_898 (by decide) ?_
    refine m_sub (L' := [(0, .ref b), (1, .ref (Z 0)), (2, .ref o2), (3, .ref q3), (4, .int (nI i))]) [2, 3, 4, 5, 6] rfl ?_
    refine m_widen (k' := k + 60) (n' := n + 2600) (by omega) (by omega) ?_
    exact kk _ ⟨Z', _, _, _, aw', hz', hI3, hPn⟩
set_option maxHeartbeats 4000000 in
set_option maxRecDepth 100000 in
theorem law_setFill {p : Program} {l : Launch} {e : Env} {s : State} {m : MethodId} {args : Array Value} {below : List Frame} {meth : Method} {c : Code} {D : mD} {A : Nat → Prop} {Q : State → Prop} {y0 : MethodName} {ret0 : Option FieldType} {b N : Nat} {xs : Nat → Int32} (hC : lX p m meth c s args D A y0 ret0 b N xs l) {o1 o2 q3 : Nat} {G : Nat → Nat} {M : Mm} {k n i : Nat} (hi : i + 8 ≤ N) (hJ : lJ D o1 G o2 q3 M) (hk : k + 60 ≤ room_1.cells ∧ n + 2600 ≤ room_1.slots) (kk : ∀ M' : Mm, lJ D o1 G o2 q3 M' → mV p l e room_1 s m args below meth c 9 D A Q M' (k + 60) (n + 2600) [(0, .ref b), (1, .ref o1), (2, .ref o2), (3, .ref q3), (4, .int (nI i))] [] 1806) : mV p l e room_1 s m args below meth c 9 D A Q M k n [(0, .ref b), (1, .ref o1), (2, .ref o2), (3, .ref q3), (4, .int (nI i))] [] 901 := by
  have C := hC.1
  have hst := hC.2.2.2.2.2
  obtain ⟨Z, cm, g, ar, aw, hz, hI, hP⟩ := hJ
  subst hz
  obtain ⟨mf1, hm1⟩ := hI.z0
  obtain ⟨mf2, hm2⟩ := hI.r0
  refine m_aload_n C dL_law_901 rfl 1 rfl ?_
  refine m_S hC hi 1 (by decide) (by decide) 0 4 rfl rfl dL_law_902 dL_law_903 dL_law_905 dL_law_906 dL_law_907 ?_
  refine m_S hC hi 2 (by decide) (by decide) 0 4 rfl rfl dL_law_908 dL_law_909 dL_law_911 dL_law_912 dL_law_913 ?_
  refine m_aload_n C dL_law_914 rfl 3 rfl ?_
  refine m_callSHi (As := [.ref (Z 0), .int (sX xs i 1), .int (sX xs i 2), .ref q3]) (st := []) C (c_L_setFill D A l hst hI hP.1 hP.2.1) (vx_cwSW 4 C.1.2.2.2.2 gL_law_L_setFill rfl rfl rfl (by decide +kernel) ⟨Nat.le_of_ble_eq_true rfl, Nat.le_of_ble_eq_true rfl⟩) rfl rfl (Nat.le_of_ble_eq_true rfl) dL_law_915 ⟨Nat.le_trans (by omega) hk.1, Nat.le_trans (by omega) hk.2⟩ (fun r M1 hq1 => ?_)
  obtain ⟨hr1, Z', aw', hz', hans, hI1⟩ := hq1
  subst hr1
  refine m_istore (L' := [(5, .int (k_setFill cm ar (sX xs i 1) (sX xs i 2))), (0, .ref b), (1, .ref (Z 0)), (2, .ref o2), (3, .ref q3), (4, .int (nI i))]) C dL_law_918 (by decide) rfl ?_
  refine m_aload_n C dL_law_920 rfl 3 rfl ?_
  refine m_S hC hi 1 (by decide) (by decide) 1 5 rfl rfl dL_law_921 dL_law_922 dL_law_924 dL_law_925 dL_law_926 ?_
  refine m_S hC hi 2 (by decide) (by decide) 1 5 rfl rfl dL_law_927 dL_law_928 dL_law_930 dL_law_931 dL_law_932 ?_
  obtain ⟨Fr, od, u, t, hr, hre⟩ := hI1.ref
  refine m_callVi (As := [.int (sX xs i 1), .int (sX xs i 2)]) (st := []) C hr.1 rfl (c_X8_setFill D A l hr hP.1 (sX xs i 1) (sX xs i 2)) (cwV 2 C.1.2.2.2.2 gL_law_X8_setFill rfl rfl rfl (by decide +kernel) ⟨Nat.le_of_ble_eq_true rfl, Nat.le_of_ble_eq_true rfl⟩) rfl rfl (Nat.le_of_ble_eq_true rfl) dL_law_933 ⟨Nat.le_trans (by omega) hk.1, Nat.le_trans (by omega) hk.2⟩ (fun r M2 hq2 => ?_)
  have hq3 : ∃ (u' : Int32) (od' : Nat → Int32), rW D G o2 Fr (k_setFill cm ar (sX xs i 1) (sX xs i 2)) (nI (cm)) g u' (upA (if k_setFill cm ar (sX xs i 1) (sX xs i 2) = 0 then (s_setFill ar (sX xs i 1) (sX xs i 2)) else ar) 17 od') M2 ∧ (k_setFill cm ar (sX xs i 1) (sX xs i 2) = 0 → r = ar 10 (jN (sX xs i 1))) := by
    obtain ⟨y1, y2⟩ := hq2
    exact ⟨u, od, y1, y2⟩
  obtain ⟨u3, od3, hr3, hv3⟩ := hq3
  have hI3 := hre _ _ _ _ _ _ _ hr3
  refine m_istore (L' := [(6, .int r), (5, .int (k_setFill cm ar (sX xs i 1) (sX xs i 2))), (0, .ref b), (1, .ref (Z 0)), (2, .ref o2), (3, .ref q3), (4, .int (nI i))]) C dL_law_936 (by decide) rfl ?_
  refine m_aload_n C dL_law_938 rfl 4 rfl ?_
  refine m_callVi (As := []) (st := []) C hr3.1 rfl (c_X8_thrown D A l hr3) (cwV 0 C.1.2.2.2.2 gL_law_X8_thrown rfl rfl rfl (by decide +kernel) ⟨Nat.le_of_ble_eq_true rfl, Nat.le_of_ble_eq_true rfl⟩) rfl rfl (Nat.le_of_ble_eq_true rfl) dL_law_939 ⟨Nat.le_trans (by omega) hk.1, Nat.le_trans (by omega) hk.2⟩ (fun r4 M4 hq4 => ?_)
  obtain ⟨e4, e5⟩ := hq4
  subst e4
  subst e5
  have hPn : lP (cm) (if k_setFill cm ar (sX xs i 1) (sX xs i 2) = 0 then (s_setFill ar (sX xs i 1) (sX xs i 2)) else ar) := by
    by_cases z : k_setFill cm ar (sX xs i 1) (sX xs i 2) = 0
    · rw [if_pos z]; exact lP_setFill hP z
    · rw [if_neg z]; exact hP
  refine m_iload C dL_law_942 1 rfl ?_
  refine m_icmp_eq (tgt := 949) C dL_law_944 (by decide) (fun _ => ?_) (fun h => absurd rfl h)
  refine m_iload C dL_law_949 1 rfl ?_
  refine m_if_ne (tgt := 966) C dL_law_951 (by decide) (fun _ => ?_) (fun h0 => ?_)
  · refine m_goto (tgt := 1806) C dL_law_966 (by decide) ?_
    refine m_sub (L' := [(0, .ref b), (1, .ref (Z 0)), (2, .ref o2), (3, .ref q3), (4, .int (nI i))]) [2, 3, 4, 5, 6] rfl ?_
    refine m_widen (k' := k + 60) (n' := n + 2600) (by omega) (by omega) ?_
    exact kk _ ⟨Z', _, _, _, aw', hz', hI3, hPn⟩
  · have hv := hv3 h0
    have ha := hans h0
    refine m_aload_n C dL_law_954 rfl 5 rfl ?_
    refine m_iconst (v := 0) C dL_law_955 (by decide) ?_
    refine m_lald C hI3.ans (by unfold vp_in; decide) dL_law_956 ?_
    refine m_iload C dL_law_957 0 rfl ?_
    refine m_i2l (v := Int32.toInt64 r) C dL_law_959 rfl ?_
    refine m_lcmp C dL_law_960 ?_
    refine m_if_eq (tgt := 966) C dL_law_961 (by decide) (fun _ => ?_) (fun h => absurd ((lg_cmp_eq _ _).mpr (by rw [hv]; exact ha)) h)
    refine m_goto (tgt := 1806) C dL_law_966 (by decide) ?_
    refine m_sub (L' := [(0, .ref b), (1, .ref (Z 0)), (2, .ref o2), (3, .ref q3), (4, .int (nI i))]) [2, 3, 4, 5, 6] rfl ?_
    refine m_widen (k' := k + 60) (n' := n + 2600) (by omega) (by omega) ?_
    exact kk _ ⟨Z', _, _, _, aw', hz', hI3, hPn⟩
set_option maxHeartbeats 4000000 in
set_option maxRecDepth 100000 in
theorem law_setOpacity {p : Program} {l : Launch} {e : Env} {s : State} {m : MethodId} {args : Array Value} {below : List Frame} {meth : Method} {c : Code} {D : mD} {A : Nat → Prop} {Q : State → Prop} {y0 : MethodName} {ret0 : Option FieldType} {b N : Nat} {xs : Nat → Int32} (hC : lX p m meth c s args D A y0 ret0 b N xs l) {o1 o2 q3 : Nat} {G : Nat → Nat} {M : Mm} {k n i : Nat} (hi : i + 8 ≤ N) (hJ : lJ D o1 G o2 q3 M) (hk : k + 60 ≤ room_1.cells ∧ n + 2600 ≤ room_1.slots) (kk : ∀ M' : Mm, lJ D o1 G o2 q3 M' → mV p l e room_1 s m args below meth c 9 D A Q M' (k + 60) (n + 2600) [(0, .ref b), (1, .ref o1), (2, .ref o2), (3, .ref q3), (4, .int (nI i))] [] 1806) : mV p l e room_1 s m args below meth c 9 D A Q M k n [(0, .ref b), (1, .ref o1), (2, .ref o2), (3, .ref q3), (4, .int (nI i))] [] 969 := by
  have C := hC.1
  have hst := hC.2.2.2.2.2
  obtain ⟨Z, cm, g, ar, aw, hz, hI, hP⟩ := hJ
  subst hz
  obtain ⟨mf1, hm1⟩ := hI.z0
  obtain ⟨mf2, hm2⟩ := hI.r0
  refine m_aload_n C dL_law_969 rfl 1 rfl ?_
  refine m_S hC hi 1 (by decide) (by decide) 0 4 rfl rfl dL_law_970 dL_law_971 dL_law_973 dL_law_974 dL_law_975 ?_
  refine m_S hC hi 2 (by decide) (by decide) 0 4 rfl rfl dL_law_976 dL_law_977 dL_law_979 dL_law_980 dL_law_981 ?_
  refine m_S hC hi 3 (by decide) (by decide) 0 4 rfl rfl dL_law_982 dL_law_983 dL_law_985 dL_law_986 dL_law_987 ?_
  refine m_nz C dL_law_988 dL_law_991 dL_law_992 dL_law_995 ?_
  refine m_aload_n C dL_law_996 rfl 3 rfl ?_
  refine m_callSHi (As := [.ref (Z 0), .int (sX xs i 1), .int (sX xs i 2), .int (bI (!decide (sX xs i 3 = 0))), .ref q3]) (st := []) C (c_L_setOpacity D A l hst hI hP.1 hP.2.1) (vx_cwSW 5 C.1.2.2.2.2 gL_law_L_setOpacity rfl rfl rfl (by decide +kernel) ⟨Nat.le_of_ble_eq_true rfl, Nat.le_of_ble_eq_true rfl⟩) rfl rfl (Nat.le_of_ble_eq_true rfl) dL_law_997 ⟨Nat.le_trans (by omega) hk.1, Nat.le_trans (by omega) hk.2⟩ (fun r M1 hq1 => ?_)
  obtain ⟨hr1, Z', aw', hz', hans, hI1⟩ := hq1
  subst hr1
  refine m_istore (L' := [(5, .int (k_setOpacity cm ar (sX xs i 1) (sX xs i 2))), (0, .ref b), (1, .ref (Z 0)), (2, .ref o2), (3, .ref q3), (4, .int (nI i))]) C dL_law_1000 (by decide) rfl ?_
  refine m_aload_n C dL_law_1002 rfl 3 rfl ?_
  refine m_S hC hi 1 (by decide) (by decide) 1 5 rfl rfl dL_law_1003 dL_law_1004 dL_law_1006 dL_law_1007 dL_law_1008 ?_
  refine m_S hC hi 2 (by decide) (by decide) 1 5 rfl rfl dL_law_1009 dL_law_1010 dL_law_1012 dL_law_1013 dL_law_1014 ?_
  refine m_S hC hi 3 (by decide) (by decide) 1 5 rfl rfl dL_law_1015 dL_law_1016 dL_law_1018 dL_law_1019 dL_law_1020 ?_
  refine m_nz C dL_law_1021 dL_law_1024 dL_law_1025 dL_law_1028 ?_
  obtain ⟨Fr, od, u, t, hr, hre⟩ := hI1.ref
  refine m_callVi (As := [.int (sX xs i 1), .int (sX xs i 2), .int (bI (!decide (sX xs i 3 = 0)))]) (st := []) C hr.1 rfl (c_X8_setOpacity D A l hr hP.1 (sX xs i 1) (sX xs i 2) (!decide (sX xs i 3 = 0))) (cwV 3 C.1.2.2.2.2 gL_law_X8_setOpacity rfl rfl rfl (by decide +kernel) ⟨Nat.le_of_ble_eq_true rfl, Nat.le_of_ble_eq_true rfl⟩) rfl rfl (Nat.le_of_ble_eq_true rfl) dL_law_1029 ⟨Nat.le_trans (by omega) hk.1, Nat.le_trans (by omega) hk.2⟩ (fun r M2 hq2 => ?_)
  have hq3 : ∃ (u' : Int32) (od' : Nat → Int32), rW D G o2 Fr (k_setOpacity cm ar (sX xs i 1) (sX xs i 2)) (nI (cm)) g u' (upA (if k_setOpacity cm ar (sX xs i 1) (sX xs i 2) = 0 then (s_setOpacity ar (sX xs i 1) (sX xs i 2) (!decide (sX xs i 3 = 0))) else ar) 17 od') M2 ∧ (k_setOpacity cm ar (sX xs i 1) (sX xs i 2) = 0 → r = ar 11 (jN (sX xs i 1))) := by
    obtain ⟨y1, y2⟩ := hq2
    exact ⟨u, od, y1, y2⟩
  obtain ⟨u3, od3, hr3, hv3⟩ := hq3
  have hI3 := hre _ _ _ _ _ _ _ hr3
  refine m_istore (L' := [(6, .int r), (5, .int (k_setOpacity cm ar (sX xs i 1) (sX xs i 2))), (0, .ref b), (1, .ref (Z 0)), (2, .ref o2), (3, .ref q3), (4, .int (nI i))]) C dL_law_1032 (by decide) rfl ?_
  refine m_aload_n C dL_law_1034 rfl 4 rfl ?_
  refine m_callVi (As := []) (st := []) C hr3.1 rfl (c_X8_thrown D A l hr3) (cwV 0 C.1.2.2.2.2 gL_law_X8_thrown rfl rfl rfl (by decide +kernel) ⟨Nat.le_of_ble_eq_true rfl, Nat.le_of_ble_eq_true rfl⟩) rfl rfl (Nat.le_of_ble_eq_true rfl) dL_law_1035 ⟨Nat.le_trans (by omega) hk.1, Nat.le_trans (by omega) hk.2⟩ (fun r4 M4 hq4 => ?_)
  obtain ⟨e4, e5⟩ := hq4
  subst e4
  subst e5
  have hPn : lP (cm) (if k_setOpacity cm ar (sX xs i 1) (sX xs i 2) = 0 then (s_setOpacity ar (sX xs i 1) (sX xs i 2) (!decide (sX xs i 3 = 0))) else ar) := by
    by_cases z : k_setOpacity cm ar (sX xs i 1) (sX xs i 2) = 0
    · rw [if_pos z]; exact lP_setOpacity hP z
    · rw [if_neg z]; exact hP
  refine m_iload C dL_law_1038 1 rfl ?_
  refine m_icmp_eq (tgt := 1045) C dL_law_1040 (by decide) (fun _ => ?_) (fun h => absurd rfl h)
  refine m_iload C dL_law_1045 1 rfl ?_
  refine m_if_ne (tgt := 1062) C dL_law_1047 (by decide) (fun _ => ?_) (fun h0 => ?_)
  · refine m_goto (tgt := 1806) C dL_law_1062 (by decide) ?_
    refine m_sub (L' := [(0, .ref b), (1, .ref (Z 0)), (2, .ref o2), (3, .ref q3), (4, .int (nI i))]) [2, 3, 4, 5, 6] rfl ?_
    refine m_widen (k' := k + 60) (n' := n + 2600) (by omega) (by omega) ?_
    exact kk _ ⟨Z', _, _, _, aw', hz', hI3, hPn⟩
  · have hv := hv3 h0
    have ha := hans h0
    refine m_aload_n C dL_law_1050 rfl 5 rfl ?_
    refine m_iconst (v := 0) C dL_law_1051 (by decide) ?_
    refine m_lald C hI3.ans (by unfold vp_in; decide) dL_law_1052 ?_
    refine m_iload C dL_law_1053 0 rfl ?_
    refine m_i2l (v := Int32.toInt64 r) C dL_law_1055 rfl ?_
    refine m_lcmp C dL_law_1056 ?_
    refine m_if_eq (tgt := 1062) C dL_law_1057 (by decide) (fun _ => ?_) (fun h => absurd ((lg_cmp_eq _ _).mpr (by rw [hv]; exact ha)) h)
    refine m_goto (tgt := 1806) C dL_law_1062 (by decide) ?_
    refine m_sub (L' := [(0, .ref b), (1, .ref (Z 0)), (2, .ref o2), (3, .ref q3), (4, .int (nI i))]) [2, 3, 4, 5, 6] rfl ?_
    refine m_widen (k' := k + 60) (n' := n + 2600) (by omega) (by omega) ?_
    exact kk _ ⟨Z', _, _, _, aw', hz', hI3, hPn⟩
set_option maxHeartbeats 4000000 in
set_option maxRecDepth 100000 in
theorem law_setClip {p : Program} {l : Launch} {e : Env} {s : State} {m : MethodId} {args : Array Value} {below : List Frame} {meth : Method} {c : Code} {D : mD} {A : Nat → Prop} {Q : State → Prop} {y0 : MethodName} {ret0 : Option FieldType} {b N : Nat} {xs : Nat → Int32} (hC : lX p m meth c s args D A y0 ret0 b N xs l) {o1 o2 q3 : Nat} {G : Nat → Nat} {M : Mm} {k n i : Nat} (hi : i + 8 ≤ N) (hJ : lJ D o1 G o2 q3 M) (hk : k + 60 ≤ room_1.cells ∧ n + 2600 ≤ room_1.slots) (kk : ∀ M' : Mm, lJ D o1 G o2 q3 M' → mV p l e room_1 s m args below meth c 9 D A Q M' (k + 60) (n + 2600) [(0, .ref b), (1, .ref o1), (2, .ref o2), (3, .ref q3), (4, .int (nI i))] [] 1806) : mV p l e room_1 s m args below meth c 9 D A Q M k n [(0, .ref b), (1, .ref o1), (2, .ref o2), (3, .ref q3), (4, .int (nI i))] [] 1065 := by
  have C := hC.1
  have hst := hC.2.2.2.2.2
  obtain ⟨Z, cm, g, ar, aw, hz, hI, hP⟩ := hJ
  subst hz
  obtain ⟨mf1, hm1⟩ := hI.z0
  obtain ⟨mf2, hm2⟩ := hI.r0
  refine m_aload_n C dL_law_1065 rfl 1 rfl ?_
  refine m_S hC hi 1 (by decide) (by decide) 0 4 rfl rfl dL_law_1066 dL_law_1067 dL_law_1069 dL_law_1070 dL_law_1071 ?_
  refine m_S hC hi 2 (by decide) (by decide) 0 4 rfl rfl dL_law_1072 dL_law_1073 dL_law_1075 dL_law_1076 dL_law_1077 ?_
  refine m_S hC hi 3 (by decide) (by decide) 0 4 rfl rfl dL_law_1078 dL_law_1079 dL_law_1081 dL_law_1082 dL_law_1083 ?_
  refine m_S hC hi 4 (by decide) (by decide) 0 4 rfl rfl dL_law_1084 dL_law_1085 dL_law_1087 dL_law_1088 dL_law_1089 ?_
  refine m_S hC hi 5 (by decide) (by decide) 0 4 rfl rfl dL_law_1090 dL_law_1091 dL_law_1093 dL_law_1094 dL_law_1095 ?_
  refine m_aload_n C dL_law_1096 rfl 3 rfl ?_
  refine m_callSHi (As := [.ref (Z 0), .int (sX xs i 1), .int (sX xs i 2), .int (sX xs i 3), .int (sX xs i 4), .int (sX xs i 5), .ref q3]) (st := []) C (c_L_setClip D A l hst hI hP.1 hP.2.1) (vx_cwSW 7 C.1.2.2.2.2 gL_law_L_setClip rfl rfl rfl (by decide +kernel) ⟨Nat.le_of_ble_eq_true rfl, Nat.le_of_ble_eq_true rfl⟩) rfl rfl (Nat.le_of_ble_eq_true rfl) dL_law_1097 ⟨Nat.le_trans (by omega) hk.1, Nat.le_trans (by omega) hk.2⟩ (fun r M1 hq1 => ?_)
  obtain ⟨hr1, Z', aw', hz', hans, hI1⟩ := hq1
  subst hr1
  refine m_istore (L' := [(5, .int (k_setClip cm ar (sX xs i 1) (sX xs i 2) (sX xs i 3) (sX xs i 4) (sX xs i 5))), (0, .ref b), (1, .ref (Z 0)), (2, .ref o2), (3, .ref q3), (4, .int (nI i))]) C dL_law_1100 (by decide) rfl ?_
  refine m_aload_n C dL_law_1102 rfl 3 rfl ?_
  refine m_S hC hi 1 (by decide) (by decide) 1 5 rfl rfl dL_law_1103 dL_law_1104 dL_law_1106 dL_law_1107 dL_law_1108 ?_
  refine m_S hC hi 2 (by decide) (by decide) 1 5 rfl rfl dL_law_1109 dL_law_1110 dL_law_1112 dL_law_1113 dL_law_1114 ?_
  refine m_S hC hi 3 (by decide) (by decide) 1 5 rfl rfl dL_law_1115 dL_law_1116 dL_law_1118 dL_law_1119 dL_law_1120 ?_
  refine m_S hC hi 4 (by decide) (by decide) 1 5 rfl rfl dL_law_1121 dL_law_1122 dL_law_1124 dL_law_1125 dL_law_1126 ?_
  refine m_S hC hi 5 (by decide) (by decide) 1 5 rfl rfl dL_law_1127 dL_law_1128 dL_law_1130 dL_law_1131 dL_law_1132 ?_
  obtain ⟨Fr, od, u, t, hr, hre⟩ := hI1.ref
  refine m_callVi (As := [.int (sX xs i 1), .int (sX xs i 2), .int (sX xs i 3), .int (sX xs i 4), .int (sX xs i 5)]) (st := []) C hr.1 rfl (c_X8_setClip D A l hr hP.1 (sX xs i 1) (sX xs i 2) (sX xs i 3) (sX xs i 4) (sX xs i 5)) (cwV 5 C.1.2.2.2.2 gL_law_X8_setClip rfl rfl rfl (by decide +kernel) ⟨Nat.le_of_ble_eq_true rfl, Nat.le_of_ble_eq_true rfl⟩) rfl rfl (Nat.le_of_ble_eq_true rfl) dL_law_1133 ⟨Nat.le_trans (by omega) hk.1, Nat.le_trans (by omega) hk.2⟩ (fun r M2 hq2 => ?_)
  have hq3 : ∃ (u' : Int32) (od' : Nat → Int32), rW D G o2 Fr (k_setClip cm ar (sX xs i 1) (sX xs i 2) (sX xs i 3) (sX xs i 4) (sX xs i 5)) (nI (cm)) g u' (upA (if k_setClip cm ar (sX xs i 1) (sX xs i 2) (sX xs i 3) (sX xs i 4) (sX xs i 5) = 0 then (s_setClip ar (sX xs i 1) (sX xs i 2) (sX xs i 3) (sX xs i 4) (sX xs i 5)) else ar) 17 od') M2 ∧ (k_setClip cm ar (sX xs i 1) (sX xs i 2) (sX xs i 3) (sX xs i 4) (sX xs i 5) = 0 → r = (if 0 < ar 14 (4 * jN (sX xs i 1) + 2) then 1 else 0)) := by
    obtain ⟨y1, y2⟩ := hq2
    exact ⟨u, od, y1, y2⟩
  obtain ⟨u3, od3, hr3, hv3⟩ := hq3
  have hI3 := hre _ _ _ _ _ _ _ hr3
  refine m_istore (L' := [(6, .int r), (5, .int (k_setClip cm ar (sX xs i 1) (sX xs i 2) (sX xs i 3) (sX xs i 4) (sX xs i 5))), (0, .ref b), (1, .ref (Z 0)), (2, .ref o2), (3, .ref q3), (4, .int (nI i))]) C dL_law_1136 (by decide) rfl ?_
  refine m_aload_n C dL_law_1138 rfl 4 rfl ?_
  refine m_callVi (As := []) (st := []) C hr3.1 rfl (c_X8_thrown D A l hr3) (cwV 0 C.1.2.2.2.2 gL_law_X8_thrown rfl rfl rfl (by decide +kernel) ⟨Nat.le_of_ble_eq_true rfl, Nat.le_of_ble_eq_true rfl⟩) rfl rfl (Nat.le_of_ble_eq_true rfl) dL_law_1139 ⟨Nat.le_trans (by omega) hk.1, Nat.le_trans (by omega) hk.2⟩ (fun r4 M4 hq4 => ?_)
  obtain ⟨e4, e5⟩ := hq4
  subst e4
  subst e5
  have hPn : lP (cm) (if k_setClip cm ar (sX xs i 1) (sX xs i 2) (sX xs i 3) (sX xs i 4) (sX xs i 5) = 0 then (s_setClip ar (sX xs i 1) (sX xs i 2) (sX xs i 3) (sX xs i 4) (sX xs i 5)) else ar) := by
    by_cases z : k_setClip cm ar (sX xs i 1) (sX xs i 2) (sX xs i 3) (sX xs i 4) (sX xs i 5) = 0
    · rw [if_pos z]; exact lP_setClip hP z
    · rw [if_neg z]; exact hP
  refine m_iload C dL_law_1142 1 rfl ?_
  refine m_icmp_eq (tgt := 1149) C dL_law_1144 (by decide) (fun _ => ?_) (fun h => absurd rfl h)
  refine m_iload C dL_law_1149 1 rfl ?_
  refine m_if_ne (tgt := 1173) C dL_law_1151 (by decide) (fun _ => ?_) (fun h0 => ?_)
  · refine m_goto (tgt := 1806) C dL_law_1173 (by decide) ?_
    refine m_sub (L' := [(0, .ref b), (1, .ref (Z 0)), (2, .ref o2), (3, .ref q3), (4, .int (nI i))]) [2, 3, 4, 5, 6] rfl ?_
    refine m_widen (k' := k + 60) (n' := n + 2600) (by omega) (by omega) ?_
    exact kk _ ⟨Z', _, _, _, aw', hz', hI3, hPn⟩
  · have hv := hv3 h0
    have ha := hans h0
    refine m_aload_n C dL_law_1154 rfl 5 rfl ?_
    refine m_iconst (v := 0) C dL_law_1155 (by decide) ?_
    refine m_lald C hI3.ans (by unfold vp_in; decide) dL_law_1156 ?_
    refine m_iload C dL_law_1157 0 rfl ?_
    refine m_if_eq (tgt := 1166) C dL_law_1159 (by decide) (fun h9 => ?_) (fun h9 => ?_)
    · refine m_lconst (v := 0) C dL_law_1166 (by decide) ?_
      refine m_lcmp C dL_law_1167 ?_
      refine m_if_eq (tgt := 1173) C dL_law_1168 (by decide) (fun _ => ?_) (fun h => absurd ((lg_cmp_eq _ _).mpr (ha.trans (if_pos (by rw [← hv]; exact h9)))) h)
      refine m_goto (tgt := 1806) C dL_law_1173 (by decide) ?_
      refine m_sub (L' := [(0, .ref b), (1, .ref (Z 0)), (2, .ref o2), (3, .ref q3), (4, .int (nI i))]) [2, 3, 4, 5, 6] rfl ?_
      refine m_widen (k' := k + 60) (n' := n + 2600) (by omega) (by omega) ?_
      exact kk _ ⟨Z', _, _, _, aw', hz', hI3, hPn⟩
    · refine m_lconst (v := 1) C dL_law_1162 (by decide) ?_
      refine m_goto (tgt := 1167) C dL_law_1163 (by decide) ?_
      refine m_lcmp C dL_law_1167 ?_
      refine m_if_eq (tgt := 1173) C dL_law_1168 (by decide) (fun _ => ?_) (fun h => absurd ((lg_cmp_eq _ _).mpr (ha.trans (if_neg (by rw [← hv]; exact h9)))) h)
      refine m_goto (tgt := 1806) C dL_law_1173 (by decide) ?_
      refine m_sub (L' := [(0, .ref b), (1, .ref (Z 0)), (2, .ref o2), (3, .ref q3), (4, .int (nI i))]) [2, 3, 4, 5, 6] rfl ?_
      refine m_widen (k' := k + 60) (n' := n + 2600) (by omega) (by omega) ?_
      exact kk _ ⟨Z', _, _, _, aw', hz', hI3, hPn⟩
set_option maxHeartbeats 4000000 in
set_option maxRecDepth 100000 in
theorem law_setMask {p : Program} {l : Launch} {e : Env} {s : State} {m : MethodId} {args : Array Value} {below : List Frame} {meth : Method} {c : Code} {D : mD} {A : Nat → Prop} {Q : State → Prop} {y0 : MethodName} {ret0 : Option FieldType} {b N : Nat} {xs : Nat → Int32} (hC : lX p m meth c s args D A y0 ret0 b N xs l) {o1 o2 q3 : Nat} {G : Nat → Nat} {M : Mm} {k n i : Nat} (hi : i + 8 ≤ N) (hJ : lJ D o1 G o2 q3 M) (hk : k + 60 ≤ room_1.cells ∧ n + 2600 ≤ room_1.slots) (kk : ∀ M' : Mm, lJ D o1 G o2 q3 M' → mV p l e room_1 s m args below meth c 9 D A Q M' (k + 60) (n + 2600) [(0, .ref b), (1, .ref o1), (2, .ref o2), (3, .ref q3), (4, .int (nI i))] [] 1806) : mV p l e room_1 s m args below meth c 9 D A Q M k n [(0, .ref b), (1, .ref o1), (2, .ref o2), (3, .ref q3), (4, .int (nI i))] [] 1176 := by
  have C := hC.1
  have hst := hC.2.2.2.2.2
  obtain ⟨Z, cm, g, ar, aw, hz, hI, hP⟩ := hJ
  subst hz
  obtain ⟨mf1, hm1⟩ := hI.z0
  obtain ⟨mf2, hm2⟩ := hI.r0
  refine m_aload_n C dL_law_1176 rfl 1 rfl ?_
  refine m_S hC hi 1 (by decide) (by decide) 0 4 rfl rfl dL_law_1177 dL_law_1178 dL_law_1180 dL_law_1181 dL_law_1182 ?_
  refine m_S hC hi 2 (by decide) (by decide) 0 4 rfl rfl dL_law_1183 dL_law_1184 dL_law_1186 dL_law_1187 dL_law_1188 ?_
  refine m_nz C dL_law_1189 dL_law_1192 dL_law_1193 dL_law_1196 ?_
  refine m_aload_n C dL_law_1197 rfl 3 rfl ?_
  refine m_callSHi (As := [.ref (Z 0), .int (sX xs i 1), .int (bI (!decide (sX xs i 2 = 0))), .ref q3]) (st := []) C (c_L_setMask D A l hst hI hP.1 hP.2.1 hP.2.2) (vx_cwSW 4 C.1.2.2.2.2 gL_law_L_setMask rfl rfl rfl (by decide +kernel) ⟨Nat.le_of_ble_eq_true rfl, Nat.le_of_ble_eq_true rfl⟩) rfl rfl (Nat.le_of_ble_eq_true rfl) dL_law_1198 ⟨Nat.le_trans (by omega) hk.1, Nat.le_trans (by omega) hk.2⟩ (fun r M1 hq1 => ?_)
  obtain ⟨hr1, Z', aw', hz', hans, hI1⟩ := hq1
  subst hr1
  refine m_istore (L' := [(5, .int (k_setMask cm ar (sX xs i 1))), (0, .ref b), (1, .ref (Z 0)), (2, .ref o2), (3, .ref q3), (4, .int (nI i))]) C dL_law_1201 (by decide) rfl ?_
  refine m_aload_n C dL_law_1203 rfl 3 rfl ?_
  refine m_S hC hi 1 (by decide) (by decide) 1 5 rfl rfl dL_law_1204 dL_law_1205 dL_law_1207 dL_law_1208 dL_law_1209 ?_
  refine m_S hC hi 2 (by decide) (by decide) 1 5 rfl rfl dL_law_1210 dL_law_1211 dL_law_1213 dL_law_1214 dL_law_1215 ?_
  refine m_nz C dL_law_1216 dL_law_1219 dL_law_1220 dL_law_1223 ?_
  obtain ⟨Fr, od, u, t, hr, hre⟩ := hI1.ref
  refine m_callVi (As := [.int (sX xs i 1), .int (bI (!decide (sX xs i 2 = 0)))]) (st := []) C hr.1 rfl (c_X8_setMask D A l hr hP.1 hP.2.2 (sX xs i 1) (!decide (sX xs i 2 = 0))) (cwV 2 C.1.2.2.2.2 gL_law_X8_setMask rfl rfl rfl (by decide +kernel) ⟨Nat.le_of_ble_eq_true rfl, Nat.le_of_ble_eq_true rfl⟩) rfl rfl (Nat.le_of_ble_eq_true rfl) dL_law_1224 ⟨Nat.le_trans (by omega) hk.1, Nat.le_trans (by omega) hk.2⟩ (fun r M2 hq2 => ?_)
  have hq3 : ∃ (u' : Int32) (od' : Nat → Int32), rW D G o2 Fr (k_setMask cm ar (sX xs i 1)) (nI (cm)) g u' (upA (if k_setMask cm ar (sX xs i 1) = 0 then (s_setMask ar (sX xs i 1) (!decide (sX xs i 2 = 0))) else ar) 17 od') M2 ∧ (k_setMask cm ar (sX xs i 1) = 0 → r = ar 13 (jN (sX xs i 1))) := by
    obtain ⟨y1, y2⟩ := hq2
    exact ⟨u, od, y1, y2⟩
  obtain ⟨u3, od3, hr3, hv3⟩ := hq3
  have hI3 := hre _ _ _ _ _ _ _ hr3
  refine m_istore (L' := [(6, .int r), (5, .int (k_setMask cm ar (sX xs i 1))), (0, .ref b), (1, .ref (Z 0)), (2, .ref o2), (3, .ref q3), (4, .int (nI i))]) C dL_law_1227 (by decide) rfl ?_
  refine m_aload_n C dL_law_1229 rfl 4 rfl ?_
  refine m_callVi (As := []) (st := []) C hr3.1 rfl (c_X8_thrown D A l hr3) (cwV 0 C.1.2.2.2.2 gL_law_X8_thrown rfl rfl rfl (by decide +kernel) ⟨Nat.le_of_ble_eq_true rfl, Nat.le_of_ble_eq_true rfl⟩) rfl rfl (Nat.le_of_ble_eq_true rfl) dL_law_1230 ⟨Nat.le_trans (by omega) hk.1, Nat.le_trans (by omega) hk.2⟩ (fun r4 M4 hq4 => ?_)
  obtain ⟨e4, e5⟩ := hq4
  subst e4
  subst e5
  have hPn : lP (cm) (if k_setMask cm ar (sX xs i 1) = 0 then (s_setMask ar (sX xs i 1) (!decide (sX xs i 2 = 0))) else ar) := by
    by_cases z : k_setMask cm ar (sX xs i 1) = 0
    · rw [if_pos z]; exact lP_setMask hP z
    · rw [if_neg z]; exact hP
  refine m_iload C dL_law_1233 1 rfl ?_
  refine m_icmp_eq (tgt := 1240) C dL_law_1235 (by decide) (fun _ => ?_) (fun h => absurd rfl h)
  refine m_iload C dL_law_1240 1 rfl ?_
  refine m_if_ne (tgt := 1264) C dL_law_1242 (by decide) (fun _ => ?_) (fun h0 => ?_)
  · refine m_goto (tgt := 1806) C dL_law_1264 (by decide) ?_
    refine m_sub (L' := [(0, .ref b), (1, .ref (Z 0)), (2, .ref o2), (3, .ref q3), (4, .int (nI i))]) [2, 3, 4, 5, 6] rfl ?_
    refine m_widen (k' := k + 60) (n' := n + 2600) (by omega) (by omega) ?_
    exact kk _ ⟨Z', _, _, _, aw', hz', hI3, hPn⟩
  · have hv := hv3 h0
    have ha := hans h0
    refine m_aload_n C dL_law_1245 rfl 5 rfl ?_
    refine m_iconst (v := 0) C dL_law_1246 (by decide) ?_
    refine m_lald C hI3.ans (by unfold vp_in; decide) dL_law_1247 ?_
    refine m_iload C dL_law_1248 0 rfl ?_
    refine m_if_eq (tgt := 1257) C dL_law_1250 (by decide) (fun h9 => ?_) (fun h9 => ?_)
    · refine m_lconst (v := 0) C dL_law_1257 (by decide) ?_
      refine m_lcmp C dL_law_1258 ?_
      refine m_if_eq (tgt := 1264) C dL_law_1259 (by decide) (fun _ => ?_) (fun h => absurd ((lg_cmp_eq _ _).mpr (ha.trans (if_pos (by rw [← hv]; exact h9)))) h)
      refine m_goto (tgt := 1806) C dL_law_1264 (by decide) ?_
      refine m_sub (L' := [(0, .ref b), (1, .ref (Z 0)), (2, .ref o2), (3, .ref q3), (4, .int (nI i))]) [2, 3, 4, 5, 6] rfl ?_
      refine m_widen (k' := k + 60) (n' := n + 2600) (by omega) (by omega) ?_
      exact kk _ ⟨Z', _, _, _, aw', hz', hI3, hPn⟩
    · refine m_lconst (v := 1) C dL_law_1253 (by decide) ?_
      refine m_goto (tgt := 1258) C dL_law_1254 (by decide) ?_
      refine m_lcmp C dL_law_1258 ?_
      refine m_if_eq (tgt := 1264) C dL_law_1259 (by decide) (fun _ => ?_) (fun h => absurd ((lg_cmp_eq _ _).mpr (ha.trans (if_neg (by rw [← hv]; exact h9)))) h)
      refine m_goto (tgt := 1806) C dL_law_1264 (by decide) ?_
      refine m_sub (L' := [(0, .ref b), (1, .ref (Z 0)), (2, .ref o2), (3, .ref q3), (4, .int (nI i))]) [2, 3, 4, 5, 6] rfl ?_
      refine m_widen (k' := k + 60) (n' := n + 2600) (by omega) (by omega) ?_
      exact kk _ ⟨Z', _, _, _, aw', hz', hI3, hPn⟩
set_option maxHeartbeats 4000000 in
set_option maxRecDepth 100000 in
theorem law_setGround {p : Program} {l : Launch} {e : Env} {s : State} {m : MethodId} {args : Array Value} {below : List Frame} {meth : Method} {c : Code} {D : mD} {A : Nat → Prop} {Q : State → Prop} {y0 : MethodName} {ret0 : Option FieldType} {b N : Nat} {xs : Nat → Int32} (hC : lX p m meth c s args D A y0 ret0 b N xs l) {o1 o2 q3 : Nat} {G : Nat → Nat} {M : Mm} {k n i : Nat} (hi : i + 8 ≤ N) (hJ : lJ D o1 G o2 q3 M) (hk : k + 60 ≤ room_1.cells ∧ n + 2600 ≤ room_1.slots) (kk : ∀ M' : Mm, lJ D o1 G o2 q3 M' → mV p l e room_1 s m args below meth c 9 D A Q M' (k + 60) (n + 2600) [(0, .ref b), (1, .ref o1), (2, .ref o2), (3, .ref q3), (4, .int (nI i))] [] 1806) : mV p l e room_1 s m args below meth c 9 D A Q M k n [(0, .ref b), (1, .ref o1), (2, .ref o2), (3, .ref q3), (4, .int (nI i))] [] 1267 := by
  have C := hC.1
  have hst := hC.2.2.2.2.2
  obtain ⟨Z, cm, g, ar, aw, hz, hI, hP⟩ := hJ
  subst hz
  obtain ⟨mf1, hm1⟩ := hI.z0
  obtain ⟨mf2, hm2⟩ := hI.r0
  refine m_aload_n C dL_law_1267 rfl 1 rfl ?_
  refine m_S hC hi 1 (by decide) (by decide) 0 4 rfl rfl dL_law_1268 dL_law_1269 dL_law_1271 dL_law_1272 dL_law_1273 ?_
  refine m_aload_n C dL_law_1274 rfl 3 rfl ?_
  refine m_callSHi (As := [.ref (Z 0), .int (sX xs i 1), .ref q3]) (st := []) C (c_L_setGround D A l hst hI hP.1 hP.2.1) (vx_cwSW 3 C.1.2.2.2.2 gL_law_L_setGround rfl rfl rfl (by decide +kernel) ⟨Nat.le_of_ble_eq_true rfl, Nat.le_of_ble_eq_true rfl⟩) rfl rfl (Nat.le_of_ble_eq_true rfl) dL_law_1275 ⟨Nat.le_trans (by omega) hk.1, Nat.le_trans (by omega) hk.2⟩ (fun r M1 hq1 => ?_)
  obtain ⟨hr1, Z', aw', hz', hans, hI1⟩ := hq1
  subst hr1
  refine m_istore (L' := [(5, .int (k_setGround (sX xs i 1))), (0, .ref b), (1, .ref (Z 0)), (2, .ref o2), (3, .ref q3), (4, .int (nI i))]) C dL_law_1278 (by decide) rfl ?_
  refine m_aload_n C dL_law_1280 rfl 3 rfl ?_
  refine m_S hC hi 1 (by decide) (by decide) 1 5 rfl rfl dL_law_1281 dL_law_1282 dL_law_1284 dL_law_1285 dL_law_1286 ?_
  obtain ⟨Fr, od, u, t, hr, hre⟩ := hI1.ref
  refine m_callVi (As := [.int (sX xs i 1)]) (st := []) C hr.1 rfl (c_X8_setGround D A l hr (sX xs i 1)) (cwV 1 C.1.2.2.2.2 gL_law_X8_setGround rfl rfl rfl (by decide +kernel) ⟨Nat.le_of_ble_eq_true rfl, Nat.le_of_ble_eq_true rfl⟩) rfl rfl (Nat.le_of_ble_eq_true rfl) dL_law_1287 ⟨Nat.le_trans (by omega) hk.1, Nat.le_trans (by omega) hk.2⟩ (fun r M2 hq2 => ?_)
  have hq3 : ∃ (u' : Int32) (od' : Nat → Int32), rW D G o2 Fr (k_setGround (sX xs i 1)) (nI (cm)) (if k_setGround (sX xs i 1) = 0 then (sX xs i 1) else g) u' (upA ar 17 od') M2 ∧ (k_setGround (sX xs i 1) = 0 → r = g) := by
    obtain ⟨y1, y2⟩ := hq2
    exact ⟨u, od, y1, y2⟩
  obtain ⟨u3, od3, hr3, hv3⟩ := hq3
  have hI3 := hre _ _ _ _ _ _ _ hr3
  refine m_istore (L' := [(6, .int r), (5, .int (k_setGround (sX xs i 1))), (0, .ref b), (1, .ref (Z 0)), (2, .ref o2), (3, .ref q3), (4, .int (nI i))]) C dL_law_1290 (by decide) rfl ?_
  refine m_aload_n C dL_law_1292 rfl 4 rfl ?_
  refine m_callVi (As := []) (st := []) C hr3.1 rfl (c_X8_thrown D A l hr3) (cwV 0 C.1.2.2.2.2 gL_law_X8_thrown rfl rfl rfl (by decide +kernel) ⟨Nat.le_of_ble_eq_true rfl, Nat.le_of_ble_eq_true rfl⟩) rfl rfl (Nat.le_of_ble_eq_true rfl) dL_law_1293 ⟨Nat.le_trans (by omega) hk.1, Nat.le_trans (by omega) hk.2⟩ (fun r4 M4 hq4 => ?_)
  obtain ⟨e4, e5⟩ := hq4
  subst e4
  subst e5
  have hPn : lP cm ar := hP
  refine m_iload C dL_law_1296 1 rfl ?_
  refine m_icmp_eq (tgt := 1303) C dL_law_1298 (by decide) (fun _ => ?_) (fun h => absurd rfl h)
  refine m_iload C dL_law_1303 1 rfl ?_
  refine m_if_ne (tgt := 1320) C dL_law_1305 (by decide) (fun _ => ?_) (fun h0 => ?_)
  · refine m_goto (tgt := 1806) C dL_law_1320 (by decide) ?_
    refine m_sub (L' := [(0, .ref b), (1, .ref (Z 0)), (2, .ref o2), (3, .ref q3), (4, .int (nI i))]) [2, 3, 4, 5, 6] rfl ?_
    refine m_widen (k' := k + 60) (n' := n + 2600) (by omega) (by omega) ?_
    exact kk _ ⟨Z', _, _, _, aw', hz', hI3, hPn⟩
  · have hv := hv3 h0
    have ha := hans h0
    refine m_aload_n C dL_law_1308 rfl 5 rfl ?_
    refine m_iconst (v := 0) C dL_law_1309 (by decide) ?_
    refine m_lald C hI3.ans (by unfold vp_in; decide) dL_law_1310 ?_
    refine m_iload C dL_law_1311 0 rfl ?_
    refine m_i2l (v := Int32.toInt64 r) C dL_law_1313 rfl ?_
    refine m_lcmp C dL_law_1314 ?_
    refine m_if_eq (tgt := 1320) C dL_law_1315 (by decide) (fun _ => ?_) (fun h => absurd ((lg_cmp_eq _ _).mpr (by rw [hv]; exact ha)) h)
    refine m_goto (tgt := 1806) C dL_law_1320 (by decide) ?_
    refine m_sub (L' := [(0, .ref b), (1, .ref (Z 0)), (2, .ref o2), (3, .ref q3), (4, .int (nI i))]) [2, 3, 4, 5, 6] rfl ?_
    refine m_widen (k' := k + 60) (n' := n + 2600) (by omega) (by omega) ?_
    exact kk _ ⟨Z', _, _, _, aw', hz', hI3, hPn⟩
set_option maxHeartbeats 4000000 in
set_option maxRecDepth 100000 in
theorem law_value {p : Program} {l : Launch} {e : Env} {s : State} {m : MethodId} {args : Array Value} {below : List Frame} {meth : Method} {c : Code} {D : mD} {A : Nat → Prop} {Q : State → Prop} {y0 : MethodName} {ret0 : Option FieldType} {b N : Nat} {xs : Nat → Int32} (hC : lX p m meth c s args D A y0 ret0 b N xs l) {o1 o2 q3 : Nat} {G : Nat → Nat} {M : Mm} {k n i : Nat} (hi : i + 8 ≤ N) (hJ : lJ D o1 G o2 q3 M) (hk : k + 60 ≤ room_1.cells ∧ n + 2600 ≤ room_1.slots) (kk : ∀ M' : Mm, lJ D o1 G o2 q3 M' → mV p l e room_1 s m args below meth c 9 D A Q M' (k + 60) (n + 2600) [(0, .ref b), (1, .ref o1), (2, .ref o2), (3, .ref q3), (4, .int (nI i))] [] 1806) : mV p l e room_1 s m args below meth c 9 D A Q M k n [(0, .ref b), (1, .ref o1), (2, .ref o2), (3, .ref q3), (4, .int (nI i))] [] 1323 := by
  have C := hC.1
  have hst := hC.2.2.2.2.2
  obtain ⟨Z, cm, g, ar, aw, hz, hI, hP⟩ := hJ
  subst hz
  obtain ⟨mf1, hm1⟩ := hI.z0
  obtain ⟨mf2, hm2⟩ := hI.r0
  refine m_aload_n C dL_law_1323 rfl 1 rfl ?_
  refine m_S hC hi 1 (by decide) (by decide) 0 4 rfl rfl dL_law_1324 dL_law_1325 dL_law_1327 dL_law_1328 dL_law_1329 ?_
  refine m_S hC hi 2 (by decide) (by decide) 0 4 rfl rfl dL_law_1330 dL_law_1331 dL_law_1333 dL_law_1334 dL_law_1335 ?_
  refine m_aload_n C dL_law_1336 rfl 3 rfl ?_
  refine m_callSHi (As := [.ref (Z 0), .int (sX xs i 1), .int (sX xs i 2), .ref q3]) (st := []) C (c_L_value D A l hst hI hP.1 hP.2.1) (vx_cwSW 4 C.1.2.2.2.2 gL_law_L_value rfl rfl rfl (by decide +kernel) ⟨Nat.le_of_ble_eq_true rfl, Nat.le_of_ble_eq_true rfl⟩) rfl rfl (Nat.le_of_ble_eq_true rfl) dL_law_1337 ⟨Nat.le_trans (by omega) hk.1, Nat.le_trans (by omega) hk.2⟩ (fun r M1 hq1 => ?_)
  obtain ⟨hr1, Z', aw', hz', hans, hI1⟩ := hq1
  subst hr1
  refine m_istore (L' := [(5, .int (k_pix (sX xs i 1) (sX xs i 2))), (0, .ref b), (1, .ref (Z 0)), (2, .ref o2), (3, .ref q3), (4, .int (nI i))]) C dL_law_1340 (by decide) rfl ?_
  refine m_aload_n C dL_law_1342 rfl 3 rfl ?_
  refine m_S hC hi 1 (by decide) (by decide) 1 5 rfl rfl dL_law_1343 dL_law_1344 dL_law_1346 dL_law_1347 dL_law_1348 ?_
  refine m_S hC hi 2 (by decide) (by decide) 1 5 rfl rfl dL_law_1349 dL_law_1350 dL_law_1352 dL_law_1353 dL_law_1354 ?_
  obtain ⟨Fr, od, u, t, hr, hre⟩ := hI1.ref
  refine m_callVi (As := [.int (sX xs i 1), .int (sX xs i 2)]) (st := []) C hr.1 rfl (c_X8_value D A l hr hP.1 (sX xs i 1) (sX xs i 2)) (cwV 2 C.1.2.2.2.2 gL_law_X8_value rfl rfl rfl (by decide +kernel) ⟨Nat.le_of_ble_eq_true rfl, Nat.le_of_ble_eq_true rfl⟩) rfl rfl (Nat.le_of_ble_eq_true rfl) dL_law_1355 ⟨Nat.le_trans (by omega) hk.1, Nat.le_trans (by omega) hk.2⟩ (fun r M2 hq2 => ?_)
  have hq3 : ∃ (u' : Int32) (od' : Nat → Int32), rW D G o2 Fr (k_pix (sX xs i 1) (sX xs i 2)) (nI (cm)) g u' (upA ar 17 od') M2 ∧ (k_pix (sX xs i 1) (sX xs i 2) = 0 → r = q_val ar g (pre9 ar 0) (sX xs i 1) (sX xs i 2)) := by
    obtain ⟨⟨od2, u2, y1⟩, y2⟩ := hq2
    exact ⟨u2, od2, y1, y2⟩
  obtain ⟨u3, od3, hr3, hv3⟩ := hq3
  have hI3 := hre _ _ _ _ _ _ _ hr3
  refine m_istore (L' := [(6, .int r), (5, .int (k_pix (sX xs i 1) (sX xs i 2))), (0, .ref b), (1, .ref (Z 0)), (2, .ref o2), (3, .ref q3), (4, .int (nI i))]) C dL_law_1358 (by decide) rfl ?_
  refine m_aload_n C dL_law_1360 rfl 4 rfl ?_
  refine m_callVi (As := []) (st := []) C hr3.1 rfl (c_X8_thrown D A l hr3) (cwV 0 C.1.2.2.2.2 gL_law_X8_thrown rfl rfl rfl (by decide +kernel) ⟨Nat.le_of_ble_eq_true rfl, Nat.le_of_ble_eq_true rfl⟩) rfl rfl (Nat.le_of_ble_eq_true rfl) dL_law_1361 ⟨Nat.le_trans (by omega) hk.1, Nat.le_trans (by omega) hk.2⟩ (fun r4 M4 hq4 => ?_)
  obtain ⟨e4, e5⟩ := hq4
  subst e4
  subst e5
  have hPn : lP cm ar := hP
  refine m_iload C dL_law_1364 1 rfl ?_
  refine m_icmp_eq (tgt := 1371) C dL_law_1366 (by decide) (fun _ => ?_) (fun h => absurd rfl h)
  refine m_iload C dL_law_1371 1 rfl ?_
  refine m_if_ne (tgt := 1388) C dL_law_1373 (by decide) (fun _ => ?_) (fun h0 => ?_)
  · refine m_goto (tgt := 1806) C dL_law_1388 (by decide) ?_
    refine m_sub (L' := [(0, .ref b), (1, .ref (Z 0)), (2, .ref o2), (3, .ref q3), (4, .int (nI i))]) [2, 3, 4, 5, 6] rfl ?_
    refine m_widen (k' := k + 60) (n' := n + 2600) (by omega) (by omega) ?_
    exact kk _ ⟨Z', _, _, _, aw', hz', hI3, hPn⟩
  · have hv := hv3 h0
    have ha := hans h0
    refine m_aload_n C dL_law_1376 rfl 5 rfl ?_
    refine m_iconst (v := 0) C dL_law_1377 (by decide) ?_
    refine m_lald C hI3.ans (by unfold vp_in; decide) dL_law_1378 ?_
    refine m_iload C dL_law_1379 0 rfl ?_
    refine m_i2l (v := Int32.toInt64 r) C dL_law_1381 rfl ?_
    refine m_lcmp C dL_law_1382 ?_
    refine m_if_eq (tgt := 1388) C dL_law_1383 (by decide) (fun _ => ?_) (fun h => absurd ((lg_cmp_eq _ _).mpr (by rw [hv]; exact ha)) h)
    refine m_goto (tgt := 1806) C dL_law_1388 (by decide) ?_
    refine m_sub (L' := [(0, .ref b), (1, .ref (Z 0)), (2, .ref o2), (3, .ref q3), (4, .int (nI i))]) [2, 3, 4, 5, 6] rfl ?_
    refine m_widen (k' := k + 60) (n' := n + 2600) (by omega) (by omega) ?_
    exact kk _ ⟨Z', _, _, _, aw', hz', hI3, hPn⟩
set_option maxHeartbeats 4000000 in
set_option maxRecDepth 100000 in
theorem law_hit {p : Program} {l : Launch} {e : Env} {s : State} {m : MethodId} {args : Array Value} {below : List Frame} {meth : Method} {c : Code} {D : mD} {A : Nat → Prop} {Q : State → Prop} {y0 : MethodName} {ret0 : Option FieldType} {b N : Nat} {xs : Nat → Int32} (hC : lX p m meth c s args D A y0 ret0 b N xs l) {o1 o2 q3 : Nat} {G : Nat → Nat} {M : Mm} {k n i : Nat} (hi : i + 8 ≤ N) (hJ : lJ D o1 G o2 q3 M) (hk : k + 60 ≤ room_1.cells ∧ n + 2600 ≤ room_1.slots) (kk : ∀ M' : Mm, lJ D o1 G o2 q3 M' → mV p l e room_1 s m args below meth c 9 D A Q M' (k + 60) (n + 2600) [(0, .ref b), (1, .ref o1), (2, .ref o2), (3, .ref q3), (4, .int (nI i))] [] 1806) : mV p l e room_1 s m args below meth c 9 D A Q M k n [(0, .ref b), (1, .ref o1), (2, .ref o2), (3, .ref q3), (4, .int (nI i))] [] 1391 := by
  have C := hC.1
  have hst := hC.2.2.2.2.2
  obtain ⟨Z, cm, g, ar, aw, hz, hI, hP⟩ := hJ
  subst hz
  obtain ⟨mf1, hm1⟩ := hI.z0
  obtain ⟨mf2, hm2⟩ := hI.r0
  refine m_aload_n C dL_law_1391 rfl 1 rfl ?_
  refine m_S hC hi 1 (by decide) (by decide) 0 4 rfl rfl dL_law_1392 dL_law_1393 dL_law_1395 dL_law_1396 dL_law_1397 ?_
  refine m_S hC hi 2 (by decide) (by decide) 0 4 rfl rfl dL_law_1398 dL_law_1399 dL_law_1401 dL_law_1402 dL_law_1403 ?_
  refine m_aload_n C dL_law_1404 rfl 3 rfl ?_
  refine m_callSHi (As := [.ref (Z 0), .int (sX xs i 1), .int (sX xs i 2), .ref q3]) (st := []) C (c_L_hit D A l hst hI hP.1 hP.2.1) (vx_cwSW 4 C.1.2.2.2.2 gL_law_L_hit rfl rfl rfl (by decide +kernel) ⟨Nat.le_of_ble_eq_true rfl, Nat.le_of_ble_eq_true rfl⟩) rfl rfl (Nat.le_of_ble_eq_true rfl) dL_law_1405 ⟨Nat.le_trans (by omega) hk.1, Nat.le_trans (by omega) hk.2⟩ (fun r M1 hq1 => ?_)
  obtain ⟨hr1, Z', aw', hz', hans, hI1⟩ := hq1
  subst hr1
  refine m_istore (L' := [(5, .int (k_pix (sX xs i 1) (sX xs i 2))), (0, .ref b), (1, .ref (Z 0)), (2, .ref o2), (3, .ref q3), (4, .int (nI i))]) C dL_law_1408 (by decide) rfl ?_
  refine m_aload_n C dL_law_1410 rfl 3 rfl ?_
  refine m_S hC hi 1 (by decide) (by decide) 1 5 rfl rfl dL_law_1411 dL_law_1412 dL_law_1414 dL_law_1415 dL_law_1416 ?_
  refine m_S hC hi 2 (by decide) (by decide) 1 5 rfl rfl dL_law_1417 dL_law_1418 dL_law_1420 dL_law_1421 dL_law_1422 ?_
  obtain ⟨Fr, od, u, t, hr, hre⟩ := hI1.ref
  refine m_callVi (As := [.int (sX xs i 1), .int (sX xs i 2)]) (st := []) C hr.1 rfl (c_X8_hit D A l hr hP.1 (sX xs i 1) (sX xs i 2)) (cwV 2 C.1.2.2.2.2 gL_law_X8_hit rfl rfl rfl (by decide +kernel) ⟨Nat.le_of_ble_eq_true rfl, Nat.le_of_ble_eq_true rfl⟩) rfl rfl (Nat.le_of_ble_eq_true rfl) dL_law_1423 ⟨Nat.le_trans (by omega) hk.1, Nat.le_trans (by omega) hk.2⟩ (fun r M2 hq2 => ?_)
  have hq3 : ∃ (u' : Int32) (od' : Nat → Int32), rW D G o2 Fr (k_pix (sX xs i 1) (sX xs i 2)) (nI (cm)) g u' (upA ar 17 od') M2 ∧ (k_pix (sX xs i 1) (sX xs i 2) = 0 → r = q_hitL ar (pre9 ar 0) (sX xs i 1) (sX xs i 2)) := by
    obtain ⟨⟨od2, u2, y1⟩, y2⟩ := hq2
    exact ⟨u2, od2, y1, y2⟩
  obtain ⟨u3, od3, hr3, hv3⟩ := hq3
  have hI3 := hre _ _ _ _ _ _ _ hr3
  refine m_istore (L' := [(6, .int r), (5, .int (k_pix (sX xs i 1) (sX xs i 2))), (0, .ref b), (1, .ref (Z 0)), (2, .ref o2), (3, .ref q3), (4, .int (nI i))]) C dL_law_1426 (by decide) rfl ?_
  refine m_aload_n C dL_law_1428 rfl 4 rfl ?_
  refine m_callVi (As := []) (st := []) C hr3.1 rfl (c_X8_thrown D A l hr3) (cwV 0 C.1.2.2.2.2 gL_law_X8_thrown rfl rfl rfl (by decide +kernel) ⟨Nat.le_of_ble_eq_true rfl, Nat.le_of_ble_eq_true rfl⟩) rfl rfl (Nat.le_of_ble_eq_true rfl) dL_law_1429 ⟨Nat.le_trans (by omega) hk.1, Nat.le_trans (by omega) hk.2⟩ (fun r4 M4 hq4 => ?_)
  obtain ⟨e4, e5⟩ := hq4
  subst e4
  subst e5
  have hPn : lP cm ar := hP
  refine m_iload C dL_law_1432 1 rfl ?_
  refine m_icmp_eq (tgt := 1439) C dL_law_1434 (by decide) (fun _ => ?_) (fun h => absurd rfl h)
  refine m_iload C dL_law_1439 1 rfl ?_
  refine m_if_ne (tgt := 1456) C dL_law_1441 (by decide) (fun _ => ?_) (fun h0 => ?_)
  · refine m_goto (tgt := 1806) C dL_law_1456 (by decide) ?_
    refine m_sub (L' := [(0, .ref b), (1, .ref (Z 0)), (2, .ref o2), (3, .ref q3), (4, .int (nI i))]) [2, 3, 4, 5, 6] rfl ?_
    refine m_widen (k' := k + 60) (n' := n + 2600) (by omega) (by omega) ?_
    exact kk _ ⟨Z', _, _, _, aw', hz', hI3, hPn⟩
  · have hv := hv3 h0
    have ha := hans h0
    refine m_aload_n C dL_law_1444 rfl 5 rfl ?_
    refine m_iconst (v := 0) C dL_law_1445 (by decide) ?_
    refine m_lald C hI3.ans (by unfold vp_in; decide) dL_law_1446 ?_
    refine m_iload C dL_law_1447 0 rfl ?_
    refine m_i2l (v := Int32.toInt64 r) C dL_law_1449 rfl ?_
    refine m_lcmp C dL_law_1450 ?_
    refine m_if_eq (tgt := 1456) C dL_law_1451 (by decide) (fun _ => ?_) (fun h => absurd ((lg_cmp_eq _ _).mpr (by rw [hv]; exact ha)) h)
    refine m_goto (tgt := 1806) C dL_law_1456 (by decide) ?_
    refine m_sub (L' := [(0, .ref b), (1, .ref (Z 0)), (2, .ref o2), (3, .ref q3), (4, .int (nI i))]) [2, 3, 4, 5, 6] rfl ?_
    refine m_widen (k' := k + 60) (n' := n + 2600) (by omega) (by omega) ?_
    exact kk _ ⟨Z', _, _, _, aw', hz', hI3, hPn⟩
set_option maxHeartbeats 4000000 in
set_option maxRecDepth 100000 in
theorem law_shows {p : Program} {l : Launch} {e : Env} {s : State} {m : MethodId} {args : Array Value} {below : List Frame} {meth : Method} {c : Code} {D : mD} {A : Nat → Prop} {Q : State → Prop} {y0 : MethodName} {ret0 : Option FieldType} {b N : Nat} {xs : Nat → Int32} (hC : lX p m meth c s args D A y0 ret0 b N xs l) {o1 o2 q3 : Nat} {G : Nat → Nat} {M : Mm} {k n i : Nat} (hi : i + 8 ≤ N) (hJ : lJ D o1 G o2 q3 M) (hk : k + 60 ≤ room_1.cells ∧ n + 2600 ≤ room_1.slots) (kk : ∀ M' : Mm, lJ D o1 G o2 q3 M' → mV p l e room_1 s m args below meth c 9 D A Q M' (k + 60) (n + 2600) [(0, .ref b), (1, .ref o1), (2, .ref o2), (3, .ref q3), (4, .int (nI i))] [] 1806) : mV p l e room_1 s m args below meth c 9 D A Q M k n [(0, .ref b), (1, .ref o1), (2, .ref o2), (3, .ref q3), (4, .int (nI i))] [] 1459 := by
  have C := hC.1
  have hst := hC.2.2.2.2.2
  obtain ⟨Z, cm, g, ar, aw, hz, hI, hP⟩ := hJ
  subst hz
  obtain ⟨mf1, hm1⟩ := hI.z0
  obtain ⟨mf2, hm2⟩ := hI.r0
  refine m_aload_n C dL_law_1459 rfl 1 rfl ?_
  refine m_S hC hi 1 (by decide) (by decide) 0 4 rfl rfl dL_law_1460 dL_law_1461 dL_law_1463 dL_law_1464 dL_law_1465 ?_
  refine m_S hC hi 2 (by decide) (by decide) 0 4 rfl rfl dL_law_1466 dL_law_1467 dL_law_1469 dL_law_1470 dL_law_1471 ?_
  refine m_S hC hi 3 (by decide) (by decide) 0 4 rfl rfl dL_law_1472 dL_law_1473 dL_law_1475 dL_law_1476 dL_law_1477 ?_
  refine m_aload_n C dL_law_1478 rfl 3 rfl ?_
  refine m_callSHi (As := [.ref (Z 0), .int (sX xs i 1), .int (sX xs i 2), .int (sX xs i 3), .ref q3]) (st := []) C (c_L_shows D A l hst hI hP.1 hP.2.1) (vx_cwSW 5 C.1.2.2.2.2 gL_law_L_shows rfl rfl rfl (by decide +kernel) ⟨Nat.le_of_ble_eq_true rfl, Nat.le_of_ble_eq_true rfl⟩) rfl rfl (Nat.le_of_ble_eq_true rfl) dL_law_1479 ⟨Nat.le_trans (by omega) hk.1, Nat.le_trans (by omega) hk.2⟩ (fun r M1 hq1 => ?_)
  obtain ⟨hr1, Z', aw', hz', hans, hI1⟩ := hq1
  subst hr1
  refine m_istore (L' := [(5, .int (k_shows cm ar (sX xs i 1) (sX xs i 2) (sX xs i 3))), (0, .ref b), (1, .ref (Z 0)), (2, .ref o2), (3, .ref q3), (4, .int (nI i))]) C dL_law_1482 (by decide) rfl ?_
  refine m_aload_n C dL_law_1484 rfl 3 rfl ?_
  refine m_S hC hi 1 (by decide) (by decide) 1 5 rfl rfl dL_law_1485 dL_law_1486 dL_law_1488 dL_law_1489 dL_law_1490 ?_
  refine m_S hC hi 2 (by decide) (by decide) 1 5 rfl rfl dL_law_1491 dL_law_1492 dL_law_1494 dL_law_1495 dL_law_1496 ?_
  refine m_S hC hi 3 (by decide) (by decide) 1 5 rfl rfl dL_law_1497 dL_law_1498 dL_law_1500 dL_law_1501 dL_law_1502 ?_
  obtain ⟨Fr, od, u, t, hr, hre⟩ := hI1.ref
  refine m_callVi (As := [.int (sX xs i 1), .int (sX xs i 2), .int (sX xs i 3)]) (st := []) C hr.1 rfl (c_X8_shows D A l hr hP.1 (sX xs i 1) (sX xs i 2) (sX xs i 3)) (cwV 3 C.1.2.2.2.2 gL_law_X8_shows rfl rfl rfl (by decide +kernel) ⟨Nat.le_of_ble_eq_true rfl, Nat.le_of_ble_eq_true rfl⟩) rfl rfl (Nat.le_of_ble_eq_true rfl) dL_law_1503 ⟨Nat.le_trans (by omega) hk.1, Nat.le_trans (by omega) hk.2⟩ (fun r M2 hq2 => ?_)
  have hq3 : ∃ (u' : Int32) (od' : Nat → Int32), rW D G o2 Fr (k_shows cm ar (sX xs i 1) (sX xs i 2) (sX xs i 3)) (nI (cm)) g u' (upA ar 17 od') M2 ∧ (k_shows cm ar (sX xs i 1) (sX xs i 2) (sX xs i 3) = 0 → r = bI (q_any ar (pre9 ar (jN (sX xs i 1))) (sX xs i 2) (sX xs i 3))) := by
    obtain ⟨⟨od2, u2, y1⟩, y2⟩ := hq2
    exact ⟨u2, od2, y1, y2⟩
  obtain ⟨u3, od3, hr3, hv3⟩ := hq3
  have hI3 := hre _ _ _ _ _ _ _ hr3
  refine m_istore (L' := [(6, .int r), (5, .int (k_shows cm ar (sX xs i 1) (sX xs i 2) (sX xs i 3))), (0, .ref b), (1, .ref (Z 0)), (2, .ref o2), (3, .ref q3), (4, .int (nI i))]) C dL_law_1506 (by decide) rfl ?_
  refine m_aload_n C dL_law_1508 rfl 4 rfl ?_
  refine m_callVi (As := []) (st := []) C hr3.1 rfl (c_X8_thrown D A l hr3) (cwV 0 C.1.2.2.2.2 gL_law_X8_thrown rfl rfl rfl (by decide +kernel) ⟨Nat.le_of_ble_eq_true rfl, Nat.le_of_ble_eq_true rfl⟩) rfl rfl (Nat.le_of_ble_eq_true rfl) dL_law_1509 ⟨Nat.le_trans (by omega) hk.1, Nat.le_trans (by omega) hk.2⟩ (fun r4 M4 hq4 => ?_)
  obtain ⟨e4, e5⟩ := hq4
  subst e4
  subst e5
  have hPn : lP cm ar := hP
  refine m_iload C dL_law_1512 1 rfl ?_
  refine m_icmp_eq (tgt := 1519) C dL_law_1514 (by decide) (fun _ => ?_) (fun h => absurd rfl h)
  refine m_iload C dL_law_1519 1 rfl ?_
  refine m_if_ne (tgt := 1543) C dL_law_1521 (by decide) (fun _ => ?_) (fun h0 => ?_)
  · refine m_goto (tgt := 1806) C dL_law_1543 (by decide) ?_
    refine m_sub (L' := [(0, .ref b), (1, .ref (Z 0)), (2, .ref o2), (3, .ref q3), (4, .int (nI i))]) [2, 3, 4, 5, 6] rfl ?_
    refine m_widen (k' := k + 60) (n' := n + 2600) (by omega) (by omega) ?_
    exact kk _ ⟨Z', _, _, _, aw', hz', hI3, hPn⟩
  · have hv := hv3 h0
    have ha := hans h0
    refine m_aload_n C dL_law_1524 rfl 5 rfl ?_
    refine m_iconst (v := 0) C dL_law_1525 (by decide) ?_
    refine m_lald C hI3.ans (by unfold vp_in; decide) dL_law_1526 ?_
    refine m_iload C dL_law_1527 0 rfl ?_
    refine m_if_eq (tgt := 1536) C dL_law_1529 (by decide) (fun h9 => ?_) (fun h9 => ?_)
    · refine m_lconst (v := 0) C dL_law_1536 (by decide) ?_
      refine m_lcmp C dL_law_1537 ?_
      refine m_if_eq (tgt := 1543) C dL_law_1538 (by decide) (fun _ => ?_) (fun h => absurd ((lg_cmp_eq _ _).mpr (ha.trans (if_pos (by rw [← hv]; exact h9)))) h)
      refine m_goto (tgt := 1806) C dL_law_1543 (by decide) ?_
      refine m_sub (L' := [(0, .ref b), (1, .ref (Z 0)), (2, .ref o2), (3, .ref q3), (4, .int (nI i))]) [2, 3, 4, 5, 6] rfl ?_
      refine m_widen (k' := k + 60) (n' := n + 2600) (by omega) (by omega) ?_
      exact kk _ ⟨Z', _, _, _, aw', hz', hI3, hPn⟩
    · refine m_lconst (v := 1) C dL_law_1532 (by decide) ?_
      refine m_goto (tgt := 1537) C dL_law_1533 (by decide) ?_
      refine m_lcmp C dL_law_1537 ?_
      refine m_if_eq (tgt := 1543) C dL_law_1538 (by decide) (fun _ => ?_) (fun h => absurd ((lg_cmp_eq _ _).mpr (ha.trans (if_neg (by rw [← hv]; exact h9)))) h)
      refine m_goto (tgt := 1806) C dL_law_1543 (by decide) ?_
      refine m_sub (L' := [(0, .ref b), (1, .ref (Z 0)), (2, .ref o2), (3, .ref q3), (4, .int (nI i))]) [2, 3, 4, 5, 6] rfl ?_
      refine m_widen (k' := k + 60) (n' := n + 2600) (by omega) (by omega) ?_
      exact kk _ ⟨Z', _, _, _, aw', hz', hI3, hPn⟩
set_option maxHeartbeats 4000000 in
set_option maxRecDepth 100000 in
theorem law_extent {p : Program} {l : Launch} {e : Env} {s : State} {m : MethodId} {args : Array Value} {below : List Frame} {meth : Method} {c : Code} {D : mD} {A : Nat → Prop} {Q : State → Prop} {y0 : MethodName} {ret0 : Option FieldType} {b N : Nat} {xs : Nat → Int32} (hC : lX p m meth c s args D A y0 ret0 b N xs l) {o1 o2 q3 : Nat} {G : Nat → Nat} {M : Mm} {k n i : Nat} (hi : i + 8 ≤ N) (hJ : lJ D o1 G o2 q3 M) (hk : k + 60 ≤ room_1.cells ∧ n + 2600 ≤ room_1.slots) (kk : ∀ M' : Mm, lJ D o1 G o2 q3 M' → mV p l e room_1 s m args below meth c 9 D A Q M' (k + 60) (n + 2600) [(0, .ref b), (1, .ref o1), (2, .ref o2), (3, .ref q3), (4, .int (nI i))] [] 1806) : mV p l e room_1 s m args below meth c 9 D A Q M k n [(0, .ref b), (1, .ref o1), (2, .ref o2), (3, .ref q3), (4, .int (nI i))] [] 1546 := by
  have C := hC.1
  have hst := hC.2.2.2.2.2
  obtain ⟨Z, cm, g, ar, aw, hz, hI, hP⟩ := hJ
  subst hz
  obtain ⟨mf1, hm1⟩ := hI.z0
  obtain ⟨mf2, hm2⟩ := hI.r0
  refine m_aload_n C dL_law_1546 rfl 1 rfl ?_
  refine m_S hC hi 1 (by decide) (by decide) 0 4 rfl rfl dL_law_1547 dL_law_1548 dL_law_1550 dL_law_1551 dL_law_1552 ?_
  refine m_S hC hi 2 (by decide) (by decide) 0 4 rfl rfl dL_law_1553 dL_law_1554 dL_law_1556 dL_law_1557 dL_law_1558 ?_
  refine m_aload_n C dL_law_1559 rfl 3 rfl ?_
  refine m_callSHi (As := [.ref (Z 0), .int (sX xs i 1), .int (sX xs i 2), .ref q3]) (st := []) C (c_L_extent D A l hst hI hP.1 hP.2.1) (vx_cwSW 4 C.1.2.2.2.2 gL_law_L_extent rfl rfl rfl (by decide +kernel) ⟨Nat.le_of_ble_eq_true rfl, Nat.le_of_ble_eq_true rfl⟩) rfl rfl (Nat.le_of_ble_eq_true rfl) dL_law_1560 ⟨Nat.le_trans (by omega) hk.1, Nat.le_trans (by omega) hk.2⟩ (fun r M1 hq1 => ?_)
  obtain ⟨hr1, Z', aw', hz', hans, hI1⟩ := hq1
  subst hr1
  refine m_istore (L' := [(5, .int (k_extent cm ar (sX xs i 1) (sX xs i 2))), (0, .ref b), (1, .ref (Z 0)), (2, .ref o2), (3, .ref q3), (4, .int (nI i))]) C dL_law_1563 (by decide) rfl ?_
  refine m_aload_n C dL_law_1565 rfl 3 rfl ?_
  refine m_S hC hi 1 (by decide) (by decide) 1 5 rfl rfl dL_law_1566 dL_law_1567 dL_law_1569 dL_law_1570 dL_law_1571 ?_
  refine m_S hC hi 2 (by decide) (by decide) 1 5 rfl rfl dL_law_1572 dL_law_1573 dL_law_1575 dL_law_1576 dL_law_1577 ?_
  obtain ⟨Fr, od, u, t, hr, hre⟩ := hI1.ref
  refine m_callVi (As := [.int (sX xs i 1), .int (sX xs i 2)]) (st := []) C hr.1 rfl (c_X8_extent D A l hr hP.1 (sX xs i 1) (sX xs i 2)) (cwV 2 C.1.2.2.2.2 gL_law_X8_extent rfl rfl rfl (by decide +kernel) ⟨Nat.le_of_ble_eq_true rfl, Nat.le_of_ble_eq_true rfl⟩) rfl rfl (Nat.le_of_ble_eq_true rfl) dL_law_1578 ⟨Nat.le_trans (by omega) hk.1, Nat.le_trans (by omega) hk.2⟩ (fun r M2 hq2 => ?_)
  have hq3 : ∃ (u' : Int32) (od' : Nat → Int32), rW D G o2 Fr (k_extent cm ar (sX xs i 1) (sX xs i 2)) (nI (cm)) g u' (upA ar 17 od') M2 ∧ (k_extent cm ar (sX xs i 1) (sX xs i 2) = 0 → r = v_extent ar (sX xs i 1) (sX xs i 2)) := by
    obtain ⟨⟨od2, u2, y1⟩, y2⟩ := hq2
    exact ⟨u2, od2, y1, y2⟩
  obtain ⟨u3, od3, hr3, hv3⟩ := hq3
  have hI3 := hre _ _ _ _ _ _ _ hr3
  refine m_istore (L' := [(6, .int r), (5, .int (k_extent cm ar (sX xs i 1) (sX xs i 2))), (0, .ref b), (1, .ref (Z 0)), (2, .ref o2), (3, .ref q3), (4, .int (nI i))]) C dL_law_1581 (by decide) rfl ?_
  refine m_aload_n C dL_law_1583 rfl 4 rfl ?_
  refine m_callVi (As := []) (st := []) C hr3.1 rfl (c_X8_thrown D A l hr3) (cwV 0 C.1.2.2.2.2 gL_law_X8_thrown rfl rfl rfl (by decide +kernel) ⟨Nat.le_of_ble_eq_true rfl, Nat.le_of_ble_eq_true rfl⟩) rfl rfl (Nat.le_of_ble_eq_true rfl) dL_law_1584 ⟨Nat.le_trans (by omega) hk.1, Nat.le_trans (by omega) hk.2⟩ (fun r4 M4 hq4 => ?_)
  obtain ⟨e4, e5⟩ := hq4
  subst e4
  subst e5
  have hPn : lP cm ar := hP
  refine m_iload C dL_law_1587 1 rfl ?_
  refine m_icmp_eq (tgt := 1594) C dL_law_1589 (by decide) (fun _ => ?_) (fun h => absurd rfl h)
  refine m_iload C dL_law_1594 1 rfl ?_
  refine m_if_ne (tgt := 1611) C dL_law_1596 (by decide) (fun _ => ?_) (fun h0 => ?_)
  · refine m_goto (tgt := 1806) C dL_law_1611 (by decide) ?_
    refine m_sub (L' := [(0, .ref b), (1, .ref (Z 0)), (2, .ref o2), (3, .ref q3), (4, .int (nI i))]) [2, 3, 4, 5, 6] rfl ?_
    refine m_widen (k' := k + 60) (n' := n + 2600) (by omega) (by omega) ?_
    exact kk _ ⟨Z', _, _, _, aw', hz', hI3, hPn⟩
  · have hv := hv3 h0
    have ha := hans h0
    refine m_aload_n C dL_law_1599 rfl 5 rfl ?_
    refine m_iconst (v := 0) C dL_law_1600 (by decide) ?_
    refine m_lald C hI3.ans (by unfold vp_in; decide) dL_law_1601 ?_
    refine m_iload C dL_law_1602 0 rfl ?_
    refine m_i2l (v := Int32.toInt64 r) C dL_law_1604 rfl ?_
    refine m_lcmp C dL_law_1605 ?_
    refine m_if_eq (tgt := 1611) C dL_law_1606 (by decide) (fun _ => ?_) (fun h => absurd ((lg_cmp_eq _ _).mpr (by rw [hv]; exact ha)) h)
    refine m_goto (tgt := 1806) C dL_law_1611 (by decide) ?_
    refine m_sub (L' := [(0, .ref b), (1, .ref (Z 0)), (2, .ref o2), (3, .ref q3), (4, .int (nI i))]) [2, 3, 4, 5, 6] rfl ?_
    refine m_widen (k' := k + 60) (n' := n + 2600) (by omega) (by omega) ?_
    exact kk _ ⟨Z', _, _, _, aw', hz', hI3, hPn⟩
set_option maxHeartbeats 4000000 in
set_option maxRecDepth 100000 in
theorem law_changed {p : Program} {l : Launch} {e : Env} {s : State} {m : MethodId} {args : Array Value} {below : List Frame} {meth : Method} {c : Code} {D : mD} {A : Nat → Prop} {Q : State → Prop} {y0 : MethodName} {ret0 : Option FieldType} {b N : Nat} {xs : Nat → Int32} (hC : lX p m meth c s args D A y0 ret0 b N xs l) {o1 o2 q3 : Nat} {G : Nat → Nat} {M : Mm} {k n i : Nat} (hi : i + 8 ≤ N) (hJ : lJ D o1 G o2 q3 M) (hk : k + 60 ≤ room_1.cells ∧ n + 2600 ≤ room_1.slots) (kk : ∀ M' : Mm, lJ D o1 G o2 q3 M' → mV p l e room_1 s m args below meth c 9 D A Q M' (k + 60) (n + 2600) [(0, .ref b), (1, .ref o1), (2, .ref o2), (3, .ref q3), (4, .int (nI i))] [] 1806) : mV p l e room_1 s m args below meth c 9 D A Q M k n [(0, .ref b), (1, .ref o1), (2, .ref o2), (3, .ref q3), (4, .int (nI i))] [] 1614 := by
  have C := hC.1
  have hst := hC.2.2.2.2.2
  obtain ⟨Z, cm, g, ar, aw, hz, hI, hP⟩ := hJ
  subst hz
  obtain ⟨mf1, hm1⟩ := hI.z0
  obtain ⟨mf2, hm2⟩ := hI.r0
  refine m_aload_n C dL_law_1614 rfl 1 rfl ?_
  refine m_S hC hi 1 (by decide) (by decide) 0 4 rfl rfl dL_law_1615 dL_law_1616 dL_law_1618 dL_law_1619 dL_law_1620 ?_
  refine m_aload_n C dL_law_1621 rfl 3 rfl ?_
  refine m_callSHi (As := [.ref (Z 0), .int (sX xs i 1), .ref q3]) (st := []) C (c_L_changed D A l hst hI hP.1 hP.2.1) (vx_cwSW 3 C.1.2.2.2.2 gL_law_L_changed rfl rfl rfl (by decide +kernel) ⟨Nat.le_of_ble_eq_true rfl, Nat.le_of_ble_eq_true rfl⟩) rfl rfl (Nat.le_of_ble_eq_true rfl) dL_law_1622 ⟨Nat.le_trans (by omega) hk.1, Nat.le_trans (by omega) hk.2⟩ (fun r M1 hq1 => ?_)
  obtain ⟨hr1, Z', aw', hz', hans, hI1⟩ := hq1
  subst hr1
  refine m_istore (L' := [(5, .int (k_tile (sX xs i 1))), (0, .ref b), (1, .ref (Z 0)), (2, .ref o2), (3, .ref q3), (4, .int (nI i))]) C dL_law_1625 (by decide) rfl ?_
  refine m_aload_n C dL_law_1627 rfl 3 rfl ?_
  refine m_S hC hi 1 (by decide) (by decide) 1 5 rfl rfl dL_law_1628 dL_law_1629 dL_law_1631 dL_law_1632 dL_law_1633 ?_
  obtain ⟨Fr, od, u, t, hr, hre⟩ := hI1.ref
  refine m_callVi (As := [.int (sX xs i 1)]) (st := []) C hr.1 rfl (c_X8_changed D A l hr hP.1 (sX xs i 1)) (cwV 1 C.1.2.2.2.2 gL_law_X8_changed rfl rfl rfl (by decide +kernel) ⟨Nat.le_of_ble_eq_true rfl, Nat.le_of_ble_eq_true rfl⟩) rfl rfl (Nat.le_of_ble_eq_true rfl) dL_law_1634 ⟨Nat.le_trans (by omega) hk.1, Nat.le_trans (by omega) hk.2⟩ (fun r M2 hq2 => ?_)
  have hq3 : ∃ (u' : Int32) (od' : Nat → Int32), rW D G o2 Fr (k_tile (sX xs i 1)) (nI (cm)) g u' (upA ar 17 od') M2 ∧ (k_tile (sX xs i 1) = 0 → r = nI (q_chg ar g (pre9 ar 0) (jN (sX xs i 1)) 64)) := by
    obtain ⟨⟨od2, u2, y1⟩, y2⟩ := hq2
    exact ⟨u2, od2, y1, y2⟩
  obtain ⟨u3, od3, hr3, hv3⟩ := hq3
  have hI3 := hre _ _ _ _ _ _ _ hr3
  refine m_istore (L' := [(6, .int r), (5, .int (k_tile (sX xs i 1))), (0, .ref b), (1, .ref (Z 0)), (2, .ref o2), (3, .ref q3), (4, .int (nI i))]) C dL_law_1637 (by decide) rfl ?_
  refine m_aload_n C dL_law_1639 rfl 4 rfl ?_
  refine m_callVi (As := []) (st := []) C hr3.1 rfl (c_X8_thrown D A l hr3) (cwV 0 C.1.2.2.2.2 gL_law_X8_thrown rfl rfl rfl (by decide +kernel) ⟨Nat.le_of_ble_eq_true rfl, Nat.le_of_ble_eq_true rfl⟩) rfl rfl (Nat.le_of_ble_eq_true rfl) dL_law_1640 ⟨Nat.le_trans (by omega) hk.1, Nat.le_trans (by omega) hk.2⟩ (fun r4 M4 hq4 => ?_)
  obtain ⟨e4, e5⟩ := hq4
  subst e4
  subst e5
  have hPn : lP cm ar := hP
  refine m_iload C dL_law_1643 1 rfl ?_
  refine m_icmp_eq (tgt := 1650) C dL_law_1645 (by decide) (fun _ => ?_) (fun h => absurd rfl h)
  refine m_iload C dL_law_1650 1 rfl ?_
  refine m_if_ne (tgt := 1667) C dL_law_1652 (by decide) (fun _ => ?_) (fun h0 => ?_)
  · refine m_goto (tgt := 1806) C dL_law_1667 (by decide) ?_
    refine m_sub (L' := [(0, .ref b), (1, .ref (Z 0)), (2, .ref o2), (3, .ref q3), (4, .int (nI i))]) [2, 3, 4, 5, 6] rfl ?_
    refine m_widen (k' := k + 60) (n' := n + 2600) (by omega) (by omega) ?_
    exact kk _ ⟨Z', _, _, _, aw', hz', hI3, hPn⟩
  · have hv := hv3 h0
    have ha := hans h0
    refine m_aload_n C dL_law_1655 rfl 5 rfl ?_
    refine m_iconst (v := 0) C dL_law_1656 (by decide) ?_
    refine m_lald C hI3.ans (by unfold vp_in; decide) dL_law_1657 ?_
    refine m_iload C dL_law_1658 0 rfl ?_
    refine m_i2l (v := Int32.toInt64 r) C dL_law_1660 rfl ?_
    refine m_lcmp C dL_law_1661 ?_
    refine m_if_eq (tgt := 1667) C dL_law_1662 (by decide) (fun _ => ?_) (fun h => absurd ((lg_cmp_eq _ _).mpr (by rw [hv]; exact ha)) h)
    refine m_goto (tgt := 1806) C dL_law_1667 (by decide) ?_
    refine m_sub (L' := [(0, .ref b), (1, .ref (Z 0)), (2, .ref o2), (3, .ref q3), (4, .int (nI i))]) [2, 3, 4, 5, 6] rfl ?_
    refine m_widen (k' := k + 60) (n' := n + 2600) (by omega) (by omega) ?_
    exact kk _ ⟨Z', _, _, _, aw', hz', hI3, hPn⟩
set_option maxHeartbeats 4000000 in
set_option maxRecDepth 100000 in
theorem law_painted {p : Program} {l : Launch} {e : Env} {s : State} {m : MethodId} {args : Array Value} {below : List Frame} {meth : Method} {c : Code} {D : mD} {A : Nat → Prop} {Q : State → Prop} {y0 : MethodName} {ret0 : Option FieldType} {b N : Nat} {xs : Nat → Int32} (hC : lX p m meth c s args D A y0 ret0 b N xs l) {o1 o2 q3 : Nat} {G : Nat → Nat} {M : Mm} {k n i : Nat} (hi : i + 8 ≤ N) (hJ : lJ D o1 G o2 q3 M) (hk : k + 60 ≤ room_1.cells ∧ n + 2600 ≤ room_1.slots) (kk : ∀ M' : Mm, lJ D o1 G o2 q3 M' → mV p l e room_1 s m args below meth c 9 D A Q M' (k + 60) (n + 2600) [(0, .ref b), (1, .ref o1), (2, .ref o2), (3, .ref q3), (4, .int (nI i))] [] 1806) : mV p l e room_1 s m args below meth c 9 D A Q M k n [(0, .ref b), (1, .ref o1), (2, .ref o2), (3, .ref q3), (4, .int (nI i))] [] 1683 := by
  have C := hC.1
  have hst := hC.2.2.2.2.2
  obtain ⟨Z, cm, g, ar, aw, hz, hI, hP⟩ := hJ
  subst hz
  obtain ⟨mf1, hm1⟩ := hI.z0
  obtain ⟨mf2, hm2⟩ := hI.r0
  refine m_aload_n C dL_law_1683 rfl 1 rfl ?_
  refine m_S hC hi 1 (by decide) (by decide) 0 4 rfl rfl dL_law_1684 dL_law_1685 dL_law_1687 dL_law_1688 dL_law_1689 ?_
  refine m_S hC hi 2 (by decide) (by decide) 0 4 rfl rfl dL_law_1690 dL_law_1691 dL_law_1693 dL_law_1694 dL_law_1695 ?_
  refine m_aload_n C dL_law_1696 rfl 3 rfl ?_
  refine m_callSHi (As := [.ref (Z 0), .int (sX xs i 1), .int (sX xs i 2), .ref q3]) (st := []) C (c_L_painted D A l hst hI hP.1 hP.2.1) (vx_cwSW 4 C.1.2.2.2.2 gL_law_L_painted rfl rfl rfl (by decide +kernel) ⟨Nat.le_of_ble_eq_true rfl, Nat.le_of_ble_eq_true rfl⟩) rfl rfl (Nat.le_of_ble_eq_true rfl) dL_law_1697 ⟨Nat.le_trans (by omega) hk.1, Nat.le_trans (by omega) hk.2⟩ (fun r M1 hq1 => ?_)
  obtain ⟨hr1, Z', aw', hz', hans, hI1⟩ := hq1
  subst hr1
  refine m_istore (L' := [(5, .int (k_pix (sX xs i 1) (sX xs i 2))), (0, .ref b), (1, .ref (Z 0)), (2, .ref o2), (3, .ref q3), (4, .int (nI i))]) C dL_law_1700 (by decide) rfl ?_
  refine m_aload_n C dL_law_1702 rfl 3 rfl ?_
  refine m_S hC hi 1 (by decide) (by decide) 1 5 rfl rfl dL_law_1703 dL_law_1704 dL_law_1706 dL_law_1707 dL_law_1708 ?_
  refine m_S hC hi 2 (by decide) (by decide) 1 5 rfl rfl dL_law_1709 dL_law_1710 dL_law_1712 dL_law_1713 dL_law_1714 ?_
  obtain ⟨Fr, od, u, t, hr, hre⟩ := hI1.ref
  refine m_callVi (As := [.int (sX xs i 1), .int (sX xs i 2)]) (st := []) C hr.1 rfl (c_X8_painted D A l hr hP.1 (sX xs i 1) (sX xs i 2)) (cwV 2 C.1.2.2.2.2 gL_law_X8_painted rfl rfl rfl (by decide +kernel) ⟨Nat.le_of_ble_eq_true rfl, Nat.le_of_ble_eq_true rfl⟩) rfl rfl (Nat.le_of_ble_eq_true rfl) dL_law_1715 ⟨Nat.le_trans (by omega) hk.1, Nat.le_trans (by omega) hk.2⟩ (fun r M2 hq2 => ?_)
  have hq3 : ∃ (u' : Int32) (od' : Nat → Int32), rW D G o2 Fr (k_pix (sX xs i 1) (sX xs i 2)) (nI (cm)) g u' (upA ar 17 od') M2 ∧ (k_pix (sX xs i 1) (sX xs i 2) = 0 → r = v_painted ar (sX xs i 1) (sX xs i 2)) := by
    obtain ⟨⟨od2, u2, y1⟩, y2⟩ := hq2
    exact ⟨u2, od2, y1, y2⟩
  obtain ⟨u3, od3, hr3, hv3⟩ := hq3
  have hI3 := hre _ _ _ _ _ _ _ hr3
  refine m_istore (L' := [(6, .int r), (5, .int (k_pix (sX xs i 1) (sX xs i 2))), (0, .ref b), (1, .ref (Z 0)), (2, .ref o2), (3, .ref q3), (4, .int (nI i))]) C dL_law_1718 (by decide) rfl ?_
  refine m_aload_n C dL_law_1720 rfl 4 rfl ?_
  refine m_callVi (As := []) (st := []) C hr3.1 rfl (c_X8_thrown D A l hr3) (cwV 0 C.1.2.2.2.2 gL_law_X8_thrown rfl rfl rfl (by decide +kernel) ⟨Nat.le_of_ble_eq_true rfl, Nat.le_of_ble_eq_true rfl⟩) rfl rfl (Nat.le_of_ble_eq_true rfl) dL_law_1721 ⟨Nat.le_trans (by omega) hk.1, Nat.le_trans (by omega) hk.2⟩ (fun r4 M4 hq4 => ?_)
  obtain ⟨e4, e5⟩ := hq4
  subst e4
  subst e5
  have hPn : lP cm ar := hP
  refine m_iload C dL_law_1724 1 rfl ?_
  refine m_icmp_eq (tgt := 1731) C dL_law_1726 (by decide) (fun _ => ?_) (fun h => absurd rfl h)
  refine m_iload C dL_law_1731 1 rfl ?_
  refine m_if_ne (tgt := 1748) C dL_law_1733 (by decide) (fun _ => ?_) (fun h0 => ?_)
  · refine m_goto (tgt := 1806) C dL_law_1748 (by decide) ?_
    refine m_sub (L' := [(0, .ref b), (1, .ref (Z 0)), (2, .ref o2), (3, .ref q3), (4, .int (nI i))]) [2, 3, 4, 5, 6] rfl ?_
    refine m_widen (k' := k + 60) (n' := n + 2600) (by omega) (by omega) ?_
    exact kk _ ⟨Z', _, _, _, aw', hz', hI3, hPn⟩
  · have hv := hv3 h0
    have ha := hans h0
    refine m_aload_n C dL_law_1736 rfl 5 rfl ?_
    refine m_iconst (v := 0) C dL_law_1737 (by decide) ?_
    refine m_lald C hI3.ans (by unfold vp_in; decide) dL_law_1738 ?_
    refine m_iload C dL_law_1739 0 rfl ?_
    refine m_i2l (v := Int32.toInt64 r) C dL_law_1741 rfl ?_
    refine m_lcmp C dL_law_1742 ?_
    refine m_if_eq (tgt := 1748) C dL_law_1743 (by decide) (fun _ => ?_) (fun h => absurd ((lg_cmp_eq _ _).mpr (by rw [hv]; exact ha)) h)
    refine m_goto (tgt := 1806) C dL_law_1748 (by decide) ?_
    refine m_sub (L' := [(0, .ref b), (1, .ref (Z 0)), (2, .ref o2), (3, .ref q3), (4, .int (nI i))]) [2, 3, 4, 5, 6] rfl ?_
    refine m_widen (k' := k + 60) (n' := n + 2600) (by omega) (by omega) ?_
    exact kk _ ⟨Z', _, _, _, aw', hz', hI3, hPn⟩
