set_option maxHeartbeats 4000000 in
set_option maxRecDepth 100000 in
theorem law_count {p : Program} {l : Launch} {e : Env} {s : State} {m : MethodId} {args : Array Value} {below : List Frame} {meth : Method} {c : Code} {D : mD} {A : Nat → Prop} {Q : State → Prop} {y0 : MethodName} {ret0 : Option FieldType} {b N : Nat} {xs : Nat → Int32} (hC : lX p m meth c s args D A y0 ret0 b N xs l) {o1 o2 q3 : Nat} {G : Nat → Nat} {M : Mm} {k n i : Nat} (hi : i + 8 ≤ N) (hJ : lJ D o1 G o2 q3 M) (hk : k + 60 ≤ room_1.cells ∧ n + 2600 ≤ room_1.slots) (kk : ∀ M' : Mm, lJ D o1 G o2 q3 M' → mV p l e room_1 s m args below meth c 9 D A Q M' (k + 60) (n + 2600) [(0, .ref b), (1, .ref o1), (2, .ref o2), (3, .ref q3), (4, .int (nI i))] [] 1806) : mV p l e room_1 s m args below meth c 9 D A Q M k n [(0, .ref b), (1, .ref o1), (2, .ref o2), (3, .ref q3), (4, .int (nI i))] [] 808 := by
  have C := hC.1
  have hst := hC.2.2.2.2.2
  obtain ⟨Z, cm, g, ar, aw, hz, hI, hP⟩ := hJ
  subst hz
  obtain ⟨mf1, hm1⟩ := hI.z0
  obtain ⟨mf2, hm2⟩ := hI.r0
  obtain ⟨F, hc, hre1⟩ := hI.cls
  refine m_aload_n C dL_law_808 rfl 1 rfl ?_
  refine m_callVi (As := []) (st := []) C hm1 rfl (c_X7_count D A l hc hP.1 hP.2.1) (cwV 0 C.1.2.2.2.2 gL_law_X7_count rfl rfl rfl (by decide +kernel) ⟨Nat.le_of_ble_eq_true rfl, Nat.le_of_ble_eq_true rfl⟩) rfl rfl (Nat.le_of_ble_eq_true rfl) dL_law_809 ⟨Nat.le_trans (by omega) hk.1, Nat.le_trans (by omega) hk.2⟩ (fun r M1 hq1 => ?_)
  obtain ⟨hr1, hc1⟩ := hq1
  have hI1 := hre1 _ _ _ _ _ _ (fun _ _ h => h) hc1
  obtain ⟨Fr, od, u, t, hr, hre⟩ := hI1.ref
  refine m_aload_n C dL_law_812 rfl 2 rfl ?_
  refine m_callVi (As := []) (st := [.int r]) C hr.1 rfl (c_X8_count D A l hr hP.1) (cwV 0 C.1.2.2.2.2 gL_law_X8_count rfl rfl rfl (by decide +kernel) ⟨Nat.le_of_ble_eq_true rfl, Nat.le_of_ble_eq_true rfl⟩) rfl rfl (Nat.le_of_ble_eq_true rfl) dL_law_813 ⟨Nat.le_trans (by omega) hk.1, Nat.le_trans (by omega) hk.2⟩ (fun r2 M2 hq2 => ?_)
  obtain ⟨hr2, hr3⟩ := hq2
  have hI3 := hre _ _ _ _ _ _ _ hr3
  refine m_icmp_eq (tgt := 1806) C dL_law_816 (by decide) (fun _ => ?_) (fun h => absurd (hr1.trans hr2.symm) h)
  refine m_widen (k' := k + 60) (n' := n + 2600) (by omega) (by omega) ?_
  exact kk _ ⟨Z, _, _, _, aw, rfl, hI3, hP⟩
set_option maxHeartbeats 4000000 in
set_option maxRecDepth 100000 in
theorem law_paint {p : Program} {l : Launch} {e : Env} {s : State} {m : MethodId} {args : Array Value} {below : List Frame} {meth : Method} {c : Code} {D : mD} {A : Nat → Prop} {Q : State → Prop} {y0 : MethodName} {ret0 : Option FieldType} {b N : Nat} {xs : Nat → Int32} (hC : lX p m meth c s args D A y0 ret0 b N xs l) {o1 o2 q3 : Nat} {G : Nat → Nat} {M : Mm} {k n i : Nat} (hi : i + 8 ≤ N) (hJ : lJ D o1 G o2 q3 M) (hk : k + 60 ≤ room_1.cells ∧ n + 2600 ≤ room_1.slots) (kk : ∀ M' : Mm, lJ D o1 G o2 q3 M' → mV p l e room_1 s m args below meth c 9 D A Q M' (k + 60) (n + 2600) [(0, .ref b), (1, .ref o1), (2, .ref o2), (3, .ref q3), (4, .int (nI i))] [] 1806) : mV p l e room_1 s m args below meth c 9 D A Q M k n [(0, .ref b), (1, .ref o1), (2, .ref o2), (3, .ref q3), (4, .int (nI i))] [] 1670 := by
  have C := hC.1
  have hst := hC.2.2.2.2.2
  obtain ⟨Z, cm, g, ar, aw, hz, hI, hP⟩ := hJ
  subst hz
  obtain ⟨mf1, hm1⟩ := hI.z0
  obtain ⟨mf2, hm2⟩ := hI.r0
  obtain ⟨F, hc, hre1⟩ := hI.cls
  refine m_aload_n C dL_law_1670 rfl 1 rfl ?_
  refine m_callVi (As := []) (st := []) C hm1 rfl (c_X7_paint D A l hc hP.1 hP.2.1) (cwV 0 C.1.2.2.2.2 gL_law_X7_paint rfl rfl rfl (by decide +kernel) ⟨Nat.le_of_ble_eq_true rfl, Nat.le_of_ble_eq_true rfl⟩) rfl rfl (Nat.le_of_ble_eq_true rfl) dL_law_1671 ⟨Nat.le_trans (by omega) hk.1, Nat.le_trans (by omega) hk.2⟩ (fun r M1 hq1 => ?_)
  obtain ⟨hr1, hc1⟩ := hq1
  have hI1 := hre1 _ _ _ _ _ _ (fun _ _ h => h) hc1
  obtain ⟨Fr, od, u, t, hr, hre⟩ := hI1.ref
  refine m_aload_n C dL_law_1674 rfl 2 rfl ?_
  refine m_callVi (As := []) (st := [.int r]) C hr.1 rfl (c_X8_paint D A l hr hP.1) (cwV 0 C.1.2.2.2.2 gL_law_X8_paint rfl rfl rfl (by decide +kernel) ⟨Nat.le_of_ble_eq_true rfl, Nat.le_of_ble_eq_true rfl⟩) rfl rfl (Nat.le_of_ble_eq_true rfl) dL_law_1675 ⟨Nat.le_trans (by omega) hk.1, Nat.le_trans (by omega) hk.2⟩ (fun r2 M2 hq2 => ?_)
  obtain ⟨hr2, od2, u2, hr3⟩ := hq2
  have hI3 := hre _ _ _ _ _ _ _ hr3
  refine m_icmp_eq (tgt := 1806) C dL_law_1678 (by decide) (fun _ => ?_) (fun h => absurd (hr1.trans hr2.symm) h)
  refine m_widen (k' := k + 60) (n' := n + 2600) (by omega) (by omega) ?_
  exact kk _ ⟨Z, _, _, _, aw, rfl, hI3, ⟨cv_wf hP.1, hP.2.1, hP.2.2⟩⟩
set_option maxHeartbeats 4000000 in
set_option maxRecDepth 100000 in
theorem law_digest {p : Program} {l : Launch} {e : Env} {s : State} {m : MethodId} {args : Array Value} {below : List Frame} {meth : Method} {c : Code} {D : mD} {A : Nat → Prop} {Q : State → Prop} {y0 : MethodName} {ret0 : Option FieldType} {b N : Nat} {xs : Nat → Int32} (hC : lX p m meth c s args D A y0 ret0 b N xs l) {o1 o2 q3 : Nat} {G : Nat → Nat} {M : Mm} {k n i : Nat} (hi : i + 8 ≤ N) (hJ : lJ D o1 G o2 q3 M) (hk : k + 60 ≤ room_1.cells ∧ n + 2600 ≤ room_1.slots) (kk : ∀ M' : Mm, lJ D o1 G o2 q3 M' → mV p l e room_1 s m args below meth c 9 D A Q M' (k + 60) (n + 2600) [(0, .ref b), (1, .ref o1), (2, .ref o2), (3, .ref q3), (4, .int (nI i))] [] 1806) : mV p l e room_1 s m args below meth c 9 D A Q M k n [(0, .ref b), (1, .ref o1), (2, .ref o2), (3, .ref q3), (4, .int (nI i))] [] 1792 := by
  have C := hC.1
  have hst := hC.2.2.2.2.2
  obtain ⟨Z, cm, g, ar, aw, hz, hI, hP⟩ := hJ
  subst hz
  obtain ⟨mf1, hm1⟩ := hI.z0
  obtain ⟨mf2, hm2⟩ := hI.r0
  obtain ⟨F, hc, hre1⟩ := hI.cls
  refine m_aload_n C dL_law_1792 rfl 1 rfl ?_
  refine m_callVl (As := []) (st := []) C hm1 rfl (c_X7_digest D A l hc hP.1 hP.2.1) (cwV 0 C.1.2.2.2.2 gL_law_X7_digest rfl rfl rfl (by decide +kernel) ⟨Nat.le_of_ble_eq_true rfl, Nat.le_of_ble_eq_true rfl⟩) rfl rfl (Nat.le_of_ble_eq_true rfl) dL_law_1793 ⟨Nat.le_trans (by omega) hk.1, Nat.le_trans (by omega) hk.2⟩ (fun r M1 hq1 => ?_)
  obtain ⟨hr1, hc1⟩ := hq1
  have hI1 := hre1 _ _ _ _ _ _ (fun _ _ h => h) hc1
  obtain ⟨Fr, od, u, t, hr, hre⟩ := hI1.ref
  refine m_aload_n C dL_law_1796 rfl 2 rfl ?_
  refine m_callVl (As := []) (st := [.long r]) C hr.1 rfl (c_X8_digest D A l hr hP.1) (cwV 0 C.1.2.2.2.2 gL_law_X8_digest rfl rfl rfl (by decide +kernel) ⟨Nat.le_of_ble_eq_true rfl, Nat.le_of_ble_eq_true rfl⟩) rfl rfl (Nat.le_of_ble_eq_true rfl) dL_law_1797 ⟨Nat.le_trans (by omega) hk.1, Nat.le_trans (by omega) hk.2⟩ (fun r2 M2 hq2 => ?_)
  obtain ⟨hr2, od2, u2, hr3⟩ := hq2
  have hI3 := hre _ _ _ _ _ _ _ hr3
  refine m_lcmp C dL_law_1800 ?_
  refine m_if_eq (tgt := 1806) C dL_law_1801 (by decide) (fun _ => ?_) (fun h => absurd ((lg_cmp_eq _ _).mpr (hr1.trans hr2.symm)) h)
  refine m_widen (k' := k + 60) (n' := n + 2600) (by omega) (by omega) ?_
  exact kk _ ⟨Z, _, _, _, aw, rfl, hI3, hP⟩
set_option maxHeartbeats 4000000 in
set_option maxRecDepth 100000 in
theorem law_mean {p : Program} {l : Launch} {e : Env} {s : State} {m : MethodId} {args : Array Value} {below : List Frame} {meth : Method} {c : Code} {D : mD} {A : Nat → Prop} {Q : State → Prop} {y0 : MethodName} {ret0 : Option FieldType} {b N : Nat} {xs : Nat → Int32} (hC : lX p m meth c s args D A y0 ret0 b N xs l) {o1 o2 q3 : Nat} {G : Nat → Nat} {M : Mm} {k n i : Nat} (hi : i + 8 ≤ N) (hJ : lJ D o1 G o2 q3 M) (hk : k + 60 ≤ room_1.cells ∧ n + 2600 ≤ room_1.slots) (kk : ∀ M' : Mm, lJ D o1 G o2 q3 M' → mV p l e room_1 s m args below meth c 9 D A Q M' (k + 60) (n + 2600) [(0, .ref b), (1, .ref o1), (2, .ref o2), (3, .ref q3), (4, .int (nI i))] [] 1806) : mV p l e room_1 s m args below meth c 9 D A Q M k n [(0, .ref b), (1, .ref o1), (2, .ref o2), (3, .ref q3), (4, .int (nI i))] [] 1751 := by
  have C := hC.1
  have hst := hC.2.2.2.2.2
  obtain ⟨Z, cm, g, ar, aw, hz, hI, hP⟩ := hJ
  subst hz
  obtain ⟨mf1, hm1⟩ := hI.z0
  obtain ⟨mf2, hm2⟩ := hI.r0
  obtain ⟨F, hc, hre1⟩ := hI.cls
  refine m_aload_n C dL_law_1751 rfl 1 rfl ?_
  refine m_callVd (As := []) (st := []) C hm1 rfl (c_X7_mean D A l hc hP.1 hP.2.1) (cwV 0 C.1.2.2.2.2 gL_law_X7_mean rfl rfl rfl (by decide +kernel) ⟨Nat.le_of_ble_eq_true rfl, Nat.le_of_ble_eq_true rfl⟩) rfl rfl (Nat.le_of_ble_eq_true rfl) dL_law_1752 ⟨Nat.le_trans (by omega) hk.1, Nat.le_trans (by omega) hk.2⟩ (fun r M1 hq1 => ?_)
  obtain ⟨hr1, hc1⟩ := hq1
  have hI1 := hre1 _ _ _ _ _ _ (fun _ _ h => h) hc1
  obtain ⟨Fr, od, u, t, hr, hre⟩ := hI1.ref
  refine m_dstore (L' := [(5, .double r), (0, .ref b), (1, .ref (Z 0)), (2, .ref o2), (3, .ref q3), (4, .int (nI i))]) C dL_law_1755 (by decide) rfl ?_
  refine m_aload_n C dL_law_1757 rfl 3 rfl ?_
  refine m_callVd (As := []) (st := []) C hr.1 rfl (c_X8_mean D A l hr) (cwV 0 C.1.2.2.2.2 gL_law_X8_mean rfl rfl rfl (by decide +kernel) ⟨Nat.le_of_ble_eq_true rfl, Nat.le_of_ble_eq_true rfl⟩) rfl rfl (Nat.le_of_ble_eq_true rfl) dL_law_1758 ⟨Nat.le_trans (by omega) hk.1, Nat.le_trans (by omega) hk.2⟩ (fun r2 M2 hq2 => ?_)
  obtain ⟨hr2, hr3⟩ := hq2
  have hI3 := hre _ _ _ _ _ _ _ hr3
  refine m_dstore (L' := [(7, .double r2), (5, .double r), (0, .ref b), (1, .ref (Z 0)), (2, .ref o2), (3, .ref q3), (4, .int (nI i))]) C dL_law_1761 (by decide) rfl ?_
  obtain rfl : r2 = r := hr2.trans hr1.symm
  refine m_dload C dL_law_1763 1 rfl ?_
  refine m_dload C dL_law_1765 0 rfl ?_
  refine m_dcmp C dL_law_1767 ?_
  refine m_if_eq (tgt := 1789) C dL_law_1768 (by decide) (fun _ => ?_) (fun h => ?_)
  · skip
    refine m_goto (tgt := 1806) C dL_law_1789 (by decide) ?_
    refine m_sub (L' := [(0, .ref b), (1, .ref (Z 0)), (2, .ref o2), (3, .ref q3), (4, .int (nI i))]) [2, 3, 4, 5, 6] rfl ?_
    refine m_widen (k' := k + 60) (n' := n + 2600) (by omega) (by omega) ?_
    exact kk _ ⟨Z, _, _, _, aw, rfl, hI3, hP⟩
  · skip
    refine m_dload C dL_law_1771 1 rfl ?_
    refine m_dload C dL_law_1773 1 rfl ?_
    refine m_dcmp C dL_law_1775 ?_
    refine m_if_eq (tgt := 1787) C dL_law_1776 (by decide) (fun h9 => absurd h9 h) (fun _ => ?_)
    refine m_dload C dL_law_1779 0 rfl ?_
    refine m_dload C dL_law_1781 0 rfl ?_
    refine m_dcmp C dL_law_1783 ?_
    refine m_if_ne (tgt := 1789) C dL_law_1784 (by decide) (fun _ => ?_) (fun h9 => absurd h9 h)
    refine m_goto (tgt := 1806) C dL_law_1789 (by decide) ?_
    refine m_sub (L' := [(0, .ref b), (1, .ref (Z 0)), (2, .ref o2), (3, .ref q3), (4, .int (nI i))]) [2, 3, 4, 5, 6] rfl ?_
    refine m_widen (k' := k + 60) (n' := n + 2600) (by omega) (by omega) ?_
    exact kk _ ⟨Z, _, _, _, aw, rfl, hI3, hP⟩
