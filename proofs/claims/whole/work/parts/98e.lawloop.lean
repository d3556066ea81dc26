/-! ===== the law's loop ===== -/
theorem a31 (v : Int32) : ∃ j : Nat, j < 32 ∧ v &&& 31 = nI j := by
  refine ⟨v.toBitVec.toNat % 32, by omega, ?_⟩
  rw [← Int32.toBitVec_inj, Int32.toBitVec_and]
  apply BitVec.eq_of_toNat_eq
  rw [BitVec.toNat_and]
  show v.toBitVec.toNat &&& (2 ^ 5 - 1) = (BitVec.ofNat 32 (v.toBitVec.toNat % 32)).toNat
  rw [Nat.and_two_pow_sub_one_eq_mod, BitVec.toNat_ofNat]
  omega
theorem sub8 {N i : Nat} (hN : N ≤ 4096) (hi : i ≤ 4200) (h : ¬ Int32.ofNat N - 8 < nI i) : i + 8 ≤ N := by
  rw [Int32.lt_iff_toInt_lt, nI_toInt (by omega)] at h
  have h1 : (Int32.ofNat N - 8).toInt = (N : Int) - 8 := by
    have h2 : (Int32.ofNat N).toInt = (N : Int) := nI_toInt (by omega)
    have h3 : (8 : Int32).toInt = 8 := by decide
    rw [Int32.toInt_sub, h2, h3, Int.bmod_def]
    omega
  rw [h1] at h
  omega
set_option maxHeartbeats 4000000 in
set_option maxRecDepth 100000 in
theorem law_loop {p : Program} {l : Launch} {e : Env} {s : State} {m : MethodId} {args : Array Value} {below : List Frame} {meth : Method} {c : Code} {D : mD} {A : Nat → Prop} {Q : State → Prop} {y0 : MethodName} {ret0 : Option FieldType} {b N : Nat} {xs : Nat → Int32} (hC : lX p m meth c s args D A y0 ret0 b N xs l) {o1 o2 q3 : Nat} {G : Nat → Nat} (fin : ∀ (i : Nat) (M : Mm) (k n : Nat), k ≤ room_1.cells → n ≤ room_1.slots → mV p l e room_1 s m args below meth c 9 D A Q M k n [(0, .ref b), (1, .ref o1), (2, .ref o2), (3, .ref q3), (4, .int (nI i))] [] 1812) :
    ∀ (t i : Nat) (M : Mm) (k n : Nat), N ≤ i + 8 * t → i ≤ 4200 → lJ D o1 G o2 q3 M → k + 60 * t ≤ room_1.cells → n + 2600 * t ≤ room_1.slots → mV p l e room_1 s m args below meth c 9 D A Q M k n [(0, .ref b), (1, .ref o1), (2, .ref o2), (3, .ref q3), (4, .int (nI i))] [] 23 := by
  have C := hC.1
  obtain ⟨-, hX, hbl, hbA, hN, -⟩ := id hC
  have head : ∀ (i : Nat) (M : Mm) (k n : Nat), i ≤ 4200 → k ≤ room_1.cells → n ≤ room_1.slots → (i + 8 ≤ N → mV p l e room_1 s m args below meth c 9 D A Q M k n [(0, .ref b), (1, .ref o1), (2, .ref o2), (3, .ref q3), (4, .int (nI i))] [] 33) → mV p l e room_1 s m args below meth c 9 D A Q M k n [(0, .ref b), (1, .ref o1), (2, .ref o2), (3, .ref q3), (4, .int (nI i))] [] 23 := by
    intro i M k n hi hk hn kk
    refine m_iload C dL_law_23 4 rfl ?_
    refine m_aload_n C dL_law_25 rfl 0 rfl ?_
    refine m_slen C hX hbl hbA dL_law_26 ?_
    refine m_bipush (v := 8) C dL_law_27 (by decide) ?_
    refine m_isub C dL_law_29 ?_
    refine m_icmp_gt (tgt := 1812) C dL_law_30 (by decide) (fun h => ?_) (fun h => ?_)
    · exact fin i M k n hk hn
    · exact kk (sub8 hN hi h)
  intro t
  induction t with
  | zero =>
    intro i M k n h1 hi hJ hk hn
    exact head i M k n hi (by omega) (by omega) (fun h => absurd h (by omega))
  | succ t ih =>
    intro i M k n h1 hi hJ hk hn
    refine head i M k n hi (by omega) (by omega) (fun h8 => ?_)
    have hk9 : k + 60 ≤ room_1.cells ∧ n + 2600 ≤ room_1.slots := ⟨by omega, by omega⟩
    have kk : ∀ M' : Mm, lJ D o1 G o2 q3 M' → mV p l e room_1 s m args below meth c 9 D A Q M' (k + 60) (n + 2600) [(0, .ref b), (1, .ref o1), (2, .ref o2), (3, .ref q3), (4, .int (nI i))] [] 1806 := by
      intro M' hJ'
      refine m_iinc (v := nI (i + 8)) (q := 4) (L' := [(4, .int (nI (i + 8))), (0, .ref b), (1, .ref o1), (2, .ref o2), (3, .ref q3)]) C dL_law_1806 rfl (nI_add i 8) (by decide) rfl ?_
      refine m_goto (tgt := 23) C dL_law_1809 (by decide) ?_
      refine m_sub (L' := [(0, .ref b), (1, .ref o1), (2, .ref o2), (3, .ref q3), (4, .int (nI (i + 8)))]) [1, 2, 3, 4, 0] rfl ?_
      exact ih (i + 8) M' (k + 60) (n + 2600) (by omega) (by omega) hJ' (by omega) (by omega)
    refine m_aload_n C dL_law_33 rfl 0 rfl ?_
    refine m_iload C dL_law_34 4 rfl ?_
    refine m_sld C hX hbl hbA (vp_in_nI (by omega) (by omega)) dL_law_36 ?_
    refine m_bipush (v := 31) C dL_law_37 (by decide) ?_
    refine m_iand C dL_law_39 ?_
    obtain ⟨j, hj, ej⟩ := a31 (xs (nI i).toNatClampNeg)
    rw [ej]
    match j, hj with
    | 0, _ => exact m_tableIn (off := 112) (tgt := 152) C dL_law_40 (by decide) (by decide) (by decide) (by decide) (law_addGroup hC h8 hJ hk9 kk)
    | 1, _ => exact m_tableIn (off := 168) (tgt := 208) C dL_law_40 (by decide) (by decide) (by decide) (by decide) (law_addRectangle hC h8 hJ hk9 kk)
    | 2, _ => exact m_tableIn (off := 272) (tgt := 312) C dL_law_40 (by decide) (by decide) (by decide) (by decide) (law_addDisc hC h8 hJ hk9 kk)
    | 3, _ => exact m_tableIn (off := 364) (tgt := 404) C dL_law_40 (by decide) (by decide) (by decide) (by decide) (law_addTriangle hC h8 hJ hk9 kk)
    | 4, _ => exact m_tableIn (off := 496) (tgt := 536) C dL_law_40 (by decide) (by decide) (by decide) (by decide) (law_remove hC h8 hJ hk9 kk)
    | 5, _ => exact m_tableIn (off := 552) (tgt := 592) C dL_law_40 (by decide) (by decide) (by decide) (by decide) (law_move hC h8 hJ hk9 kk)
    | 6, _ => exact m_tableIn (off := 632) (tgt := 672) C dL_law_40 (by decide) (by decide) (by decide) (by decide) (law_node hC h8 hJ hk9 kk)
    | 7, _ => exact m_tableIn (off := 700) (tgt := 740) C dL_law_40 (by decide) (by decide) (by decide) (by decide) (law_child hC h8 hJ hk9 kk)
    | 8, _ => exact m_tableIn (off := 768) (tgt := 808) C dL_law_40 (by decide) (by decide) (by decide) (by decide) (law_count hC h8 hJ hk9 kk)
    | 9, _ => exact m_tableIn (off := 781) (tgt := 821) C dL_law_40 (by decide) (by decide) (by decide) (by decide) (law_place hC h8 hJ hk9 kk)
    | 10, _ => exact m_tableIn (off := 861) (tgt := 901) C dL_law_40 (by decide) (by decide) (by decide) (by decide) (law_setFill hC h8 hJ hk9 kk)
    | 11, _ => exact m_tableIn (off := 929) (tgt := 969) C dL_law_40 (by decide) (by decide) (by decide) (by decide) (law_setOpacity hC h8 hJ hk9 kk)
    | 12, _ => exact m_tableIn (off := 1025) (tgt := 1065) C dL_law_40 (by decide) (by decide) (by decide) (by decide) (law_setClip hC h8 hJ hk9 kk)
    | 13, _ => exact m_tableIn (off := 1136) (tgt := 1176) C dL_law_40 (by decide) (by decide) (by decide) (by decide) (law_setMask hC h8 hJ hk9 kk)
    | 14, _ => exact m_tableIn (off := 1227) (tgt := 1267) C dL_law_40 (by decide) (by decide) (by decide) (by decide) (law_setGround hC h8 hJ hk9 kk)
    | 15, _ => exact m_tableIn (off := 1283) (tgt := 1323) C dL_law_40 (by decide) (by decide) (by decide) (by decide) (law_value hC h8 hJ hk9 kk)
    | 16, _ => exact m_tableIn (off := 1351) (tgt := 1391) C dL_law_40 (by decide) (by decide) (by decide) (by decide) (law_hit hC h8 hJ hk9 kk)
    | 17, _ => exact m_tableIn (off := 1419) (tgt := 1459) C dL_law_40 (by decide) (by decide) (by decide) (by decide) (law_shows hC h8 hJ hk9 kk)
    | 18, _ => exact m_tableIn (off := 1506) (tgt := 1546) C dL_law_40 (by decide) (by decide) (by decide) (by decide) (law_extent hC h8 hJ hk9 kk)
    | 19, _ => exact m_tableIn (off := 1574) (tgt := 1614) C dL_law_40 (by decide) (by decide) (by decide) (by decide) (law_changed hC h8 hJ hk9 kk)
    | 20, _ => exact m_tableIn (off := 1630) (tgt := 1670) C dL_law_40 (by decide) (by decide) (by decide) (by decide) (law_paint hC h8 hJ hk9 kk)
    | 21, _ => exact m_tableIn (off := 1643) (tgt := 1683) C dL_law_40 (by decide) (by decide) (by decide) (by decide) (law_painted hC h8 hJ hk9 kk)
    | 22, _ => exact m_tableIn (off := 1711) (tgt := 1751) C dL_law_40 (by decide) (by decide) (by decide) (by decide) (law_mean hC h8 hJ hk9 kk)
    | 23, _ => exact m_tableIn (off := 1752) (tgt := 1792) C dL_law_40 (by decide) (by decide) (by decide) (by decide) (law_digest hC h8 hJ hk9 kk)
    | 24, _ => exact m_tableOut (tgt := 1806) C dL_law_40 (by decide) (by decide) (m_widen (k' := k + 60) (n' := n + 2600) (by omega) (by omega) (kk M hJ))
    | 25, _ => exact m_tableOut (tgt := 1806) C dL_law_40 (by decide) (by decide) (m_widen (k' := k + 60) (n' := n + 2600) (by omega) (by omega) (kk M hJ))
    | 26, _ => exact m_tableOut (tgt := 1806) C dL_law_40 (by decide) (by decide) (m_widen (k' := k + 60) (n' := n + 2600) (by omega) (by omega) (kk M hJ))
    | 27, _ => exact m_tableOut (tgt := 1806) C dL_law_40 (by decide) (by decide) (m_widen (k' := k + 60) (n' := n + 2600) (by omega) (by omega) (kk M hJ))
    | 28, _ => exact m_tableOut (tgt := 1806) C dL_law_40 (by decide) (by decide) (m_widen (k' := k + 60) (n' := n + 2600) (by omega) (by omega) (kk M hJ))
    | 29, _ => exact m_tableOut (tgt := 1806) C dL_law_40 (by decide) (by decide) (m_widen (k' := k + 60) (n' := n + 2600) (by omega) (by omega) (kk M hJ))
    | 30, _ => exact m_tableOut (tgt := 1806) C dL_law_40 (by decide) (by decide) (m_widen (k' := k + 60) (n' := n + 2600) (by omega) (by omega) (kk M hJ))
    | 31, _ => exact m_tableOut (tgt := 1806) C dL_law_40 (by decide) (by decide) (m_widen (k' := k + 60) (n' := n + 2600) (by omega) (by omega) (kk M hJ))
    | j + 32, h => exact absurd h (by omega)
