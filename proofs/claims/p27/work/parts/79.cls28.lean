/-! ===== the class: its whole state; numbers of one node are set ===== -/
def cI (D : mD) (Z : Nat → Nat) (F : Mm) (cm : Nat) (g : Int32) (ar : rA) (M : Mm) : Prop := ∃ (fi : Nat → Nat → Int32) (nl : Nat → Nat → Int64) (rw : Nat → Int32), FV ar cm fi ∧ cS D Z F cm g ar fi nl (pre9 ar 0) rw M
theorem upd_o {f : Nat → Int32} {j m : Nat} {v : Int32} (h : m ≠ j) : upd f j v m = f m := if_neg h
theorem upd_s {f : Nat → Int32} {j : Nat} {v : Int32} : upd f j v j = v := if_pos rfl
theorem q_ch_cg {ar1 ar : rA} (h : ar1 4 = ar 4) : ∀ d n, q_ch ar1 d n = q_ch ar d n
  | 0, _ => rfl
  | d + 1, n => by
    show (if n = 0 then [0] else n :: q_ch ar1 d (ar1 4 n).toNatClampNeg) = (if n = 0 then [0] else n :: q_ch ar d (ar 4 n).toNatClampNeg)
    rw [h, q_ch_cg h d]
theorem chn_cg {ar1 ar : rA} (h : ar1 4 = ar 4) (n : Nat) : chn ar1 n = chn ar n := q_ch_cg h 40 n
theorem q_pre_cg {ar1 ar : rA} (h5 : ar1 5 = ar 5) (h6 : ar1 6 = ar 6) : ∀ d n, q_pre ar1 d n = q_pre ar d n
  | 0, _ => rfl
  | d + 1, n => by
    unfold q_pre
    rw [h5, h6]
    exact congrArg (List.cons n) (congrArg (fun f => List.flatMap f _) (funext fun x => q_pre_cg h5 h6 d x))
theorem pre9_cg {ar1 ar : rA} (h5 : ar1 5 = ar 5) (h6 : ar1 6 = ar 6) (n : Nat) : pre9 ar1 n = pre9 ar n := q_pre_cg h5 h6 40 n
theorem q_fill_cg {ar1 ar : rA} (h : ar1 10 = ar 10) : ∀ l, q_fill ar1 l = q_fill ar l
  | [] => rfl
  | a :: t => by unfold q_fill; rw [h, q_fill_cg h t]
theorem q_str_cg {ar1 ar : rA} (h : ar1 11 = ar 11) : ∀ l, q_str ar1 l = q_str ar l
  | [] => rfl
  | a :: t => by unfold q_str; rw [h, q_str_cg h t]
theorem q_hid_cg {ar1 ar : rA} (h : ar1 12 = ar 12) : ∀ l, q_hid ar1 l = q_hid ar l
  | [] => rfl
  | a :: t => by unfold q_hid; rw [h, q_hid_cg h t]
theorem q_fv_cg {ar1 ar : rA} (h4 : ar1 4 = ar 4) (h8 : ar1 8 = ar 8) (h9 : ar1 9 = ar 9) (h10 : ar1 10 = ar 10) (h11 : ar1 11 = ar 11) (h12 : ar1 12 = ar 12) (n : Nat) : ∀ i, q_fv ar1 n i = q_fv ar n i
  | 0 => by unfold q_fv q_off; rw [chn_cg h4, h8]
  | 1 => by unfold q_fv q_off; rw [chn_cg h4, h9]
  | 2 => by unfold q_fv q_fn; rw [chn_cg h4, q_fill_cg h10]
  | 3 => by unfold q_fv q_sn; rw [chn_cg h4, q_str_cg h11]
  | 4 => by unfold q_fv; rw [chn_cg h4, h12, q_hid_cg h12]
  | _ + 5 => rfl
section SET
variable {D : mD} {Z : Nat → Nat} {F : Mm} {cm : Nat} {g : Int32} {ar : rA} {fi : Nat → Nat → Int32} {nl : Nat → Nat → Int64} {L : List Nat} {rw : Nat → Int32} {M : Mm}
theorem cS.s8 (h : cS D Z F cm g ar fi nl L rw M) {n : Nat} (hn : cP ar cm n) (v : Int32) : cS D Z F cm g (upA ar 8 (upd (ar 8) n v)) fi nl L rw (m_up M (Z (100 + n)) (.inr (6, (nF Z ar fi nl n).set 4 (.int v)))) := by
  refine ⟨(h.1.node hn ((nF Z ar fi nl n).set 4 (.int v))).cong (fun m hm => ?_) (fun i hi => rfl), h.2⟩
  by_cases z : m = n
  · rw [z, upA_s]
    show nF Z (upA ar 8 (upd (ar 8) n v)) fi nl n = (nF Z ar fi nl n).set 4 (.int v)
    have e : (upA ar 8 (upd (ar 8) n v)) 8 n = v := upd_s
    unfold nF
    rw [e]
    rfl
  · rw [upA_n z]
    have e : (upA ar 8 (upd (ar 8) n v)) 8 m = ar 8 m := upd_o z
    unfold nF
    rw [e]
    rfl
theorem cS.s9 (h : cS D Z F cm g ar fi nl L rw M) {n : Nat} (hn : cP ar cm n) (v : Int32) : cS D Z F cm g (upA ar 9 (upd (ar 9) n v)) fi nl L rw (m_up M (Z (100 + n)) (.inr (6, (nF Z ar fi nl n).set 5 (.int v)))) := by
  refine ⟨(h.1.node hn ((nF Z ar fi nl n).set 5 (.int v))).cong (fun m hm => ?_) (fun i hi => rfl), h.2⟩
  by_cases z : m = n
  · rw [z, upA_s]
    show nF Z (upA ar 9 (upd (ar 9) n v)) fi nl n = (nF Z ar fi nl n).set 5 (.int v)
    have e : (upA ar 9 (upd (ar 9) n v)) 9 n = v := upd_s
    unfold nF
    rw [e]
    rfl
  · rw [upA_n z]
    have e : (upA ar 9 (upd (ar 9) n v)) 9 m = ar 9 m := upd_o z
    unfold nF
    rw [e]
    rfl
theorem cS.s10 (h : cS D Z F cm g ar fi nl L rw M) {n : Nat} (hn : cP ar cm n) (v : Int32) : cS D Z F cm g (upA ar 10 (upd (ar 10) n v)) fi nl L rw (m_up M (Z (100 + n)) (.inr (6, (nF Z ar fi nl n).set 6 (.int v)))) := by
  refine ⟨(h.1.node hn ((nF Z ar fi nl n).set 6 (.int v))).cong (fun m hm => ?_) (fun i hi => rfl), h.2⟩
  by_cases z : m = n
  · rw [z, upA_s]
    show nF Z (upA ar 10 (upd (ar 10) n v)) fi nl n = (nF Z ar fi nl n).set 6 (.int v)
    have e : (upA ar 10 (upd (ar 10) n v)) 10 n = v := upd_s
    unfold nF
    rw [e]
    rfl
  · rw [upA_n z]
    have e : (upA ar 10 (upd (ar 10) n v)) 10 m = ar 10 m := upd_o z
    unfold nF
    rw [e]
    rfl
theorem cS.s11 (h : cS D Z F cm g ar fi nl L rw M) {n : Nat} (hn : cP ar cm n) (v : Int32) : cS D Z F cm g (upA ar 11 (upd (ar 11) n v)) fi nl L rw (m_up M (Z (100 + n)) (.inr (6, (nF Z ar fi nl n).set 7 (.int v)))) := by
  refine ⟨(h.1.node hn ((nF Z ar fi nl n).set 7 (.int v))).cong (fun m hm => ?_) (fun i hi => rfl), h.2⟩
  by_cases z : m = n
  · rw [z, upA_s]
    show nF Z (upA ar 11 (upd (ar 11) n v)) fi nl n = (nF Z ar fi nl n).set 7 (.int v)
    have e : (upA ar 11 (upd (ar 11) n v)) 11 n = v := upd_s
    unfold nF
    rw [e]
    rfl
  · rw [upA_n z]
    have e : (upA ar 11 (upd (ar 11) n v)) 11 m = ar 11 m := upd_o z
    unfold nF
    rw [e]
    rfl
theorem cS.s12 (h : cS D Z F cm g ar fi nl L rw M) {n : Nat} (hn : cP ar cm n) (v : Int32) : cS D Z F cm g (upA ar 12 (upd (ar 12) n v)) fi nl L rw (m_up M (Z (100 + n)) (.inr (6, (nF Z ar fi nl n).set 8 (.int v)))) := by
  refine ⟨(h.1.node hn ((nF Z ar fi nl n).set 8 (.int v))).cong (fun m hm => ?_) (fun i hi => rfl), h.2⟩
  by_cases z : m = n
  · rw [z, upA_s]
    show nF Z (upA ar 12 (upd (ar 12) n v)) fi nl n = (nF Z ar fi nl n).set 8 (.int v)
    have e : (upA ar 12 (upd (ar 12) n v)) 12 n = v := upd_s
    unfold nF
    rw [e]
    rfl
  · rw [upA_n z]
    have e : (upA ar 12 (upd (ar 12) n v)) 12 m = ar 12 m := upd_o z
    unfold nF
    rw [e]
    rfl
theorem cS.s13 (h : cS D Z F cm g ar fi nl L rw M) {n : Nat} (hn : cP ar cm n) (v : Int32) : cS D Z F cm g (upA ar 13 (upd (ar 13) n v)) fi nl L rw (m_up M (Z (100 + n)) (.inr (6, (nF Z ar fi nl n).set 9 (.int v)))) := by
  refine ⟨(h.1.node hn ((nF Z ar fi nl n).set 9 (.int v))).cong (fun m hm => ?_) (fun i hi => rfl), h.2⟩
  by_cases z : m = n
  · rw [z, upA_s]
    show nF Z (upA ar 13 (upd (ar 13) n v)) fi nl n = (nF Z ar fi nl n).set 9 (.int v)
    have e : (upA ar 13 (upd (ar 13) n v)) 13 n = v := upd_s
    unfold nF
    rw [e]
    rfl
  · rw [upA_n z]
    have e : (upA ar 13 (upd (ar 13) n v)) 13 m = ar 13 m := upd_o z
    unfold nF
    rw [e]
    rfl
end SET
section WFS
variable {ar : rA} {cm : Nat}
theorem wf_s8 (hw : wf ar cm) {j : Nat} (hj : j < cm) (v : Int32) : wf (upA ar 8 (upd (ar 8) j v)) cm := by
  obtain ⟨w1, w2, w3, w4, w5, w6⟩ := hw
  refine ⟨w1, w2, w3, w4, w5, fun n hn => ?_⟩
  obtain ⟨z2, z5, z8, z9, z12, z13, z14⟩ := w6 n hn
  exact ⟨z2, z5, by rw [show (upA ar 8 (upd (ar 8) j v)) 8 n = ar 8 n from upd_o (by omega)]; exact z8, z9, z12, z13, z14⟩
theorem wf_s9 (hw : wf ar cm) {j : Nat} (hj : j < cm) (v : Int32) : wf (upA ar 9 (upd (ar 9) j v)) cm := by
  obtain ⟨w1, w2, w3, w4, w5, w6⟩ := hw
  refine ⟨w1, w2, w3, w4, w5, fun n hn => ?_⟩
  obtain ⟨z2, z5, z8, z9, z12, z13, z14⟩ := w6 n hn
  exact ⟨z2, z5, z8, by rw [show (upA ar 9 (upd (ar 9) j v)) 9 n = ar 9 n from upd_o (by omega)]; exact z9, z12, z13, z14⟩
theorem wf_s12 (hw : wf ar cm) {j : Nat} (hj : j < cm) (v : Int32) : wf (upA ar 12 (upd (ar 12) j v)) cm := by
  obtain ⟨w1, w2, w3, w4, w5, w6⟩ := hw
  refine ⟨w1, w2, w3, w4, w5, fun n hn => ?_⟩
  obtain ⟨z2, z5, z8, z9, z12, z13, z14⟩ := w6 n hn
  exact ⟨z2, z5, z8, z9, by rw [show (upA ar 12 (upd (ar 12) j v)) 12 n = ar 12 n from upd_o (by omega)]; exact z12, z13, z14⟩
theorem wf_s13 (hw : wf ar cm) {j : Nat} (hj : j < cm) (v : Int32) : wf (upA ar 13 (upd (ar 13) j v)) cm := by
  obtain ⟨w1, w2, w3, w4, w5, w6⟩ := hw
  refine ⟨w1, w2, w3, w4, w5, fun n hn => ?_⟩
  obtain ⟨z2, z5, z8, z9, z12, z13, z14⟩ := w6 n hn
  exact ⟨z2, z5, z8, z9, z12, by rw [show (upA ar 13 (upd (ar 13) j v)) 13 n = ar 13 n from upd_o (by omega)]; exact z13, z14⟩
theorem wf_s10 (hw : wf ar cm) {j : Nat} (v : Int32) : wf (upA ar 10 (upd (ar 10) j v)) cm := hw
theorem wf_s11 (hw : wf ar cm) {j : Nat} (v : Int32) : wf (upA ar 11 (upd (ar 11) j v)) cm := hw
theorem BD_s8 (hb : BD ar cm) {j : Nat} {v : Int32} (hv : v.toInt.natAbs ≤ 100) : BD (upA ar 8 (upd (ar 8) j v)) cm := by
  intro n hn
  have hn : cP ar cm n := hn
  refine ⟨⟨?_, (hb n hn).1.2⟩, (hb n hn).2⟩
  by_cases z : n = j
  · rw [z, show (upA ar 8 (upd (ar 8) j v)) 8 j = v from upd_s]
    exact hv
  · rw [show (upA ar 8 (upd (ar 8) j v)) 8 n = ar 8 n from upd_o z]
    exact (hb n hn).1.1
theorem BD_s9 (hb : BD ar cm) {j : Nat} {v : Int32} (hv : v.toInt.natAbs ≤ 100) : BD (upA ar 9 (upd (ar 9) j v)) cm := by
  intro n hn
  have hn : cP ar cm n := hn
  refine ⟨⟨(hb n hn).1.1, ?_⟩, (hb n hn).2⟩
  by_cases z : n = j
  · rw [z, show (upA ar 9 (upd (ar 9) j v)) 9 j = v from upd_s]
    exact hv
  · rw [show (upA ar 9 (upd (ar 9) j v)) 9 n = ar 9 n from upd_o z]
    exact (hb n hn).1.2
theorem BD_s10 (hb : BD ar cm) {j : Nat} {v : Int32} : BD (upA ar 10 (upd (ar 10) j v)) cm := hb
theorem BD_s11 (hb : BD ar cm) {j : Nat} {v : Int32} : BD (upA ar 11 (upd (ar 11) j v)) cm := hb
theorem BD_s12 (hb : BD ar cm) {j : Nat} {v : Int32} : BD (upA ar 12 (upd (ar 12) j v)) cm := hb
theorem BD_s13 (hb : BD ar cm) {j : Nat} {v : Int32} : BD (upA ar 13 (upd (ar 13) j v)) cm := hb
end WFS
theorem cI.of13 {D : mD} {Z : Nat → Nat} {F : Mm} {cm : Nat} {g : Int32} {ar : rA} {fi : Nat → Nat → Int32} {nl : Nat → Nat → Int64} {rw : Nat → Int32} {M : Mm} {x : Nat → Int32} (hfv : FV ar cm fi) (h : cS D Z F cm g (upA ar 13 x) fi nl (pre9 ar 0) rw M) : cI D Z F cm g (upA ar 13 x) M :=
  ⟨fi, nl, rw, fun n hn i hi => by rw [q_fv_cg (ar1 := upA ar 13 x) (ar := ar) rfl rfl rfl rfl rfl rfl]; exact hfv n hn i hi, by rw [pre9_cg (ar1 := upA ar 13 x) (ar := ar) rfl rfl]; exact h⟩
theorem cI.of14 {D : mD} {Z : Nat → Nat} {F : Mm} {cm : Nat} {g : Int32} {ar : rA} {fi : Nat → Nat → Int32} {nl : Nat → Nat → Int64} {rw : Nat → Int32} {M : Mm} {x : Nat → Int32} (hfv : FV ar cm fi) (h : cS D Z F cm g (upA ar 14 x) fi nl (pre9 ar 0) rw M) : cI D Z F cm g (upA ar 14 x) M :=
  ⟨fi, nl, rw, fun n hn i hi => by rw [q_fv_cg (ar1 := upA ar 14 x) (ar := ar) rfl rfl rfl rfl rfl rfl]; exact hfv n hn i hi, by rw [pre9_cg (ar1 := upA ar 14 x) (ar := ar) rfl rfl]; exact h⟩
theorem cI.of16 {D : mD} {Z : Nat → Nat} {F : Mm} {cm : Nat} {g : Int32} {ar : rA} {fi : Nat → Nat → Int32} {nl : Nat → Nat → Int64} {rw : Nat → Int32} {M : Mm} {x : Nat → Int32} (hfv : FV ar cm fi) (h : cS D Z F cm g (upA ar 16 x) fi nl (pre9 ar 0) rw M) : cI D Z F cm g (upA ar 16 x) M :=
  ⟨fi, nl, rw, fun n hn i hi => by rw [q_fv_cg (ar1 := upA ar 16 x) (ar := ar) rfl rfl rfl rfl rfl rfl]; exact hfv n hn i hi, by rw [pre9_cg (ar1 := upA ar 16 x) (ar := ar) rfl rfl]; exact h⟩
theorem cS.scv {D : mD} {Z : Nat → Nat} {F : Mm} {cm : Nat} {g : Int32} {ar : rA} {fi : Nat → Nat → Int32} {nl : Nat → Nat → Int64} {L : List Nat} {rw : Nat → Int32} {M : Mm} (h : cS D Z F cm g ar fi nl L rw M) (cv' : Nat → Int32) : cS D Z F cm g (upA ar 16 cv') fi nl L rw (m_up M (Z 2) (jI D 3072 cv')) := ⟨h.1.scv cv', h.2⟩
theorem cS.sg {D : mD} {Z : Nat → Nat} {F : Mm} {cm : Nat} {g : Int32} {ar : rA} {fi : Nat → Nat → Int32} {nl : Nat → Nat → Int64} {L : List Nat} {rw : Nat → Int32} {M : Mm} (h : cS D Z F cm g ar fi nl L rw M) (g' : Int32) : cS D Z F cm g' ar fi nl L rw (m_up M (Z 0) (.inr (9, mfF Z cm g'))) := ⟨h.1.sme (mfF Z cm g'), h.2⟩

