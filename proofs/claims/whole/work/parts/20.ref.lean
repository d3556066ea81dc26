/-! ===== the reference: its world; t, c, g, u: what it threw, how many came, the ground, how many are ordered; ar: its arrays by field ===== -/
def upA {α : Type} (f : Nat → α) (k : Nat) (v : α) : Nat → α := fun j => if j = k then v else f j
theorem upA_s {α : Type} {f : Nat → α} {k : Nat} {v : α} : upA f k v k = v := if_pos rfl
theorem upA_n {α : Type} {f : Nat → α} {k j : Nat} {v : α} (h : j ≠ k) : upA f k v j = f j := if_neg h
theorem upA_upA {α : Type} {f : Nat → α} {k : Nat} {v w : α} : upA (upA f k v) k w = upA f k w := by
  funext j
  unfold upA
  by_cases h : j = k
  · rw [if_pos h, if_pos h]
  · rw [if_neg h, if_neg h, if_neg h]
theorem upA_eq {α : Type} {f : Nat → α} {k : Nat} {v : α} (h : f k = v) : upA f k v = f := by
  funext j
  unfold upA
  by_cases z : j = k
  · rw [if_pos z, z, h]
  · rw [if_neg z]
def r_fs (G : Nat → Nat) (t c g u : Int32) : List Value := [.int t, .int c, .ref (G 2), .ref (G 3), .ref (G 4), .ref (G 5), .ref (G 6), .ref (G 7), .ref (G 8), .ref (G 9), .ref (G 10), .ref (G 11), .ref (G 12), .ref (G 13), .ref (G 14), .int g, .ref (G 16), .ref (G 17), .int u]
def r_isA (f : Nat) : Bool := !(f == 0) && !(f == 1) && !(f == 15) && Nat.blt f 18
def r_ty (f : Nat) : Nat := if f = 2 then 1 else if f = 12 then 1 else if f = 13 then 1 else 0
def r_len (f : Nat) : Nat := if f = 6 then 1600 else if f = 7 then 240 else if f = 14 then 160 else if f = 16 then 3072 else 40
abbrev rA : Type := Nat → Nat → Int32
def rW (D : mD) (G : Nat → Nat) (o : Nat) (F : Mm) (t c g u : Int32) (ar : rA) (M : Mm) : Prop :=
  M o = some (.inr (10, r_fs G t c g u)) ∧ (∀ f, r_isA f = true → M (G f) = some (.inl (D.2.1 (r_ty f), r_len f, .inl (ar f)))) ∧ (∀ f h, r_isA f = true → r_isA h = true → G f = G h → f = h) ∧ ∀ (a : Nat) (x : va_E), F a = some x → M a = some x ∧ a ≠ o ∧ ∀ f, r_isA f = true → a ≠ G f
section RW0
variable {D : mD} {G : Nat → Nat} {o : Nat} {F : Mm} {t c g u : Int32} {ar : rA} {M : Mm}
theorem rW.ne (h : rW D G o F t c g u ar M) {f : Nat} (hf : r_isA f = true) : G f ≠ o := by
  intro z
  have h1 := h.2.1 f hf
  rw [z, h.1] at h1
  cases h1
theorem rW.put (h : rW D G o F t c g u ar M) (t' c' g' u' : Int32) : rW D G o F t' c' g' u' ar (m_up M o (.inr (10, r_fs G t' c' g' u'))) :=
  ⟨m_up_s, fun f hf => by rw [m_up_n (h.ne hf)]; exact h.2.1 f hf, h.2.2.1, fun a x hx => by
    obtain ⟨h1, h2, h3⟩ := h.2.2.2 a x hx
    exact ⟨by rw [m_up_n h2]; exact h1, h2, h3⟩⟩
theorem rW.st (h : rW D G o F t c g u ar M) {f : Nat} (hf : r_isA f = true) {ty n : Nat} (ht : ty = r_ty f) (hn : n = r_len f) (v : Nat → Int32) : rW D G o F t c g u (upA ar f v) (m_up M (G f) (.inl (D.2.1 ty, n, .inl v))) := by
  subst ht; subst hn
  refine ⟨by rw [m_up_n (Ne.symm (h.ne hf))]; exact h.1, fun f' hf' => ?_, h.2.2.1, fun a x hx => ?_⟩
  · by_cases z : f' = f
    · subst z
      rw [m_up_s, upA_s]
    · rw [m_up_n (fun y => z (h.2.2.1 _ _ hf' hf y)), upA_n z]
      exact h.2.1 f' hf'
  · obtain ⟨h1, h2, h3⟩ := h.2.2.2 a x hx
    exact ⟨by rw [m_up_n (h3 f hf)]; exact h1, h2, h3⟩
theorem rW.fresh (h : rW D G o F t c g u ar M) {q : Nat} (e : va_E) (hq : M q = none) : rW D G o (m_up F q e) t c g u ar (m_up M q e) := by
  have ho : o ≠ q := fun z => by rw [← z, h.1] at hq; cases hq
  have hG : ∀ f, r_isA f = true → G f ≠ q := fun f hf z => by rw [← z, h.2.1 f hf] at hq; cases hq
  refine ⟨by rw [m_up_n ho]; exact h.1, fun f hf => by rw [m_up_n (hG f hf)]; exact h.2.1 f hf, h.2.2.1, fun a x hx => ?_⟩
  by_cases z : a = q
  · subst z
    rw [m_up_s] at hx ⊢
    exact ⟨hx, Ne.symm ho, fun f hf => Ne.symm (hG f hf)⟩
  · rw [m_up_n z] at hx ⊢
    exact h.2.2.2 a x hx
theorem rW.own (h : rW D G o F t c g u ar M) {q : Nat} {e0 : va_E} (hq : F q = some e0) (e : va_E) : rW D G o (m_up F q e) t c g u ar (m_up M q e) := by
  obtain ⟨h1, h2, h3⟩ := h.2.2.2 q e0 hq
  refine ⟨by rw [m_up_n (Ne.symm h2)]; exact h.1, fun f hf => by rw [m_up_n (Ne.symm (h3 f hf))]; exact h.2.1 f hf, h.2.2.1, fun a x hx => ?_⟩
  by_cases z : a = q
  · subst z
    rw [m_up_s] at hx ⊢
    exact ⟨hx, h2, h3⟩
  · rw [m_up_n z] at hx ⊢
    exact h.2.2.2 a x hx
theorem rW.drop (h : rW D G o F t c g u ar M) {F' : Mm} (hs : ∀ a x, F' a = some x → F a = some x) : rW D G o F' t c g u ar M := ⟨h.1, h.2.1, h.2.2.1, fun a x hx => h.2.2.2 a x (hs a x hx)⟩
theorem r_c17 {od : Nat → Int32} {f : Nat} {v : Nat → Int32} (hf : f ≠ 17) (h : rW D G o F t c g u (upA (upA ar 17 od) f v) M) : rW D G o F t c g u (upA (upA ar f v) 17 od) M := by
  have e : upA (upA ar f v) 17 od = upA (upA ar 17 od) f v := by
    funext j
    unfold upA
    by_cases h1 : j = 17
    · rw [if_pos h1, if_neg (fun z => hf (z.symm.trans h1)), if_pos h1]
    · rw [if_neg h1, if_neg h1]
  rw [e]
  exact h
end RW0
theorem r_lenB (f : Nat) : r_len f ≤ 2 ^ 31 := by
  unfold r_len
  repeat' split
  all_goals decide
theorem r_lenC (f : Nat) : r_len f < 2 ^ 31 := by
  unfold r_len
  repeat' split
  all_goals decide
section REF
variable {p : Program} {l : Launch} {e : Env} {R : Room} {s : State} {m : MethodId} {args : Array Value} {below : List Frame} {meth : Method} {c : Code} {nL : Nat} {D : mD} {A : Nat → Prop} {Q : State → Prop} {M : Mm} {k n : Nat} {L : List (Nat × Value)} {st : List Value} {pc : Nat} {cc : ByteArray} {Ts : List Cond} {own : String} {y0 : MethodName} {ret0 : Option FieldType} {G : Nat → Nat} {o : Nat} {F : Mm} {t cm g u : Int32} {ar : rA}
theorem r_get (C : mC p m meth c cc nL s args Ts own D A y0 ret0) (hR : rW D G o F t cm g u ar M) (hin : ∀ w ∈ wsX80, w ∈ Ts) {index : Nat} (f : Nat) (hf : f < 19) (hlink : (Cond.fieldLink own index RX8 (TX8 f).2.1 (TX8 f).2.2.1) ∈ Ts) {v : Value} (hv : (r_fs G t cm g u)[f]? = some v) (hd : (TX8 f).1 = RX8) (d : decode cc pc = .ok (.getfield index, 3)) (kk : mV p l e R s m args below meth c nL D A Q M k n L (v :: st) (pc + 3)) : mV p l e R s m args below meth c nL D A Q M k n L (.ref o :: st) pc :=
  m_get C hR.1 rfl hin f hf hlink (fun x h => by rw [hd] at h; exact h) hv d kk
theorem r_putT (C : mC p m meth c cc nL s args Ts own D A y0 ret0) (hR : rW D G o F t cm g u ar M) (hin : ∀ w ∈ wsX80, w ∈ Ts) {index : Nat} (hlink : (Cond.fieldLink own index RX8 (TX8 0).2.1 (TX8 0).2.2.1) ∈ Ts) {x : Int32} (d : decode cc pc = .ok (.putfield index, 3)) (kk : ∀ M : Mm, rW D G o F x cm g u ar M → mV p l e R s m args below meth c nL D A Q M k n L st (pc + 3)) : mV p l e R s m args below meth c nL D A Q M k n L (.int x :: .ref o :: st) pc :=
  m_put C hR.1 rfl hin tyX8 tyX8_ok nmX8 0 (by decide) hlink (fun x h => h) rfl rfl rfl (Nat.le_of_ble_eq_true rfl) rfl d (kk _ (hR.put x cm g u))
theorem r_putC (C : mC p m meth c cc nL s args Ts own D A y0 ret0) (hR : rW D G o F t cm g u ar M) (hin : ∀ w ∈ wsX80, w ∈ Ts) {index : Nat} (hlink : (Cond.fieldLink own index RX8 (TX8 1).2.1 (TX8 1).2.2.1) ∈ Ts) {x : Int32} (d : decode cc pc = .ok (.putfield index, 3)) (kk : ∀ M : Mm, rW D G o F t x g u ar M → mV p l e R s m args below meth c nL D A Q M k n L st (pc + 3)) : mV p l e R s m args below meth c nL D A Q M k n L (.int x :: .ref o :: st) pc :=
  m_put C hR.1 rfl hin tyX8 tyX8_ok nmX8 1 (by decide) hlink (fun x h => h) rfl rfl rfl (Nat.le_of_ble_eq_true rfl) rfl d (kk _ (hR.put t x g u))
theorem r_putG (C : mC p m meth c cc nL s args Ts own D A y0 ret0) (hR : rW D G o F t cm g u ar M) (hin : ∀ w ∈ wsX80, w ∈ Ts) {index : Nat} (hlink : (Cond.fieldLink own index RX8 (TX8 15).2.1 (TX8 15).2.2.1) ∈ Ts) {x : Int32} (d : decode cc pc = .ok (.putfield index, 3)) (kk : ∀ M : Mm, rW D G o F t cm x u ar M → mV p l e R s m args below meth c nL D A Q M k n L st (pc + 3)) : mV p l e R s m args below meth c nL D A Q M k n L (.int x :: .ref o :: st) pc :=
  m_put C hR.1 rfl hin tyX8 tyX8_ok nmX8 15 (by decide) hlink (fun x h => h) rfl rfl rfl (Nat.le_of_ble_eq_true rfl) rfl d (kk _ (hR.put t cm x u))
theorem r_putU (C : mC p m meth c cc nL s args Ts own D A y0 ret0) (hR : rW D G o F t cm g u ar M) (hin : ∀ w ∈ wsX80, w ∈ Ts) {index : Nat} (hlink : (Cond.fieldLink own index RX8 (TX8 18).2.1 (TX8 18).2.2.1) ∈ Ts) {x : Int32} (d : decode cc pc = .ok (.putfield index, 3)) (kk : ∀ M : Mm, rW D G o F t cm g x ar M → mV p l e R s m args below meth c nL D A Q M k n L st (pc + 3)) : mV p l e R s m args below meth c nL D A Q M k n L (.int x :: .ref o :: st) pc :=
  m_put C hR.1 rfl hin tyX8 tyX8_ok nmX8 18 (by decide) hlink (fun x h => h) rfl rfl rfl (Nat.le_of_ble_eq_true rfl) rfl d (kk _ (hR.put t cm g x))
theorem r_iald (C : mC p m meth c cc nL s args Ts own D A y0 ret0) (hR : rW D G o F t cm g u ar M) (f : Nat) (hf : r_isA f = true) (ht : r_ty f = 0) {i : Int32} (j : Nat) (hj : j < r_len f) (hi : i = nI j) (d : decode cc pc = .ok (.iaload, 1)) (kk : mV p l e R s m args below meth c nL D A Q M k n L (.int (ar f j) :: st) (pc + 1)) : mV p l e R s m args below meth c nL D A Q M k n L (.int i :: .ref (G f) :: st) pc := by
  subst hi
  have hb : j < 2 ^ 31 := Nat.lt_of_lt_of_le hj (r_lenB f)
  refine m_iald C (f := ar f) (by rw [hR.2.1 f hf, ht]) (vp_in_nI hj (r_lenC f)) d ?_
  rw [nI_clamp hb]
  exact kk
theorem r_zald (C : mC p m meth c cc nL s args Ts own D A y0 ret0) (hR : rW D G o F t cm g u ar M) (f : Nat) (hf : r_isA f = true) (ht : r_ty f = 1) {i : Int32} (j : Nat) (hj : j < r_len f) (hi : i = nI j) (d : decode cc pc = .ok (.baload, 1)) (kk : mV p l e R s m args below meth c nL D A Q M k n L (.int (ar f j) :: st) (pc + 1)) : mV p l e R s m args below meth c nL D A Q M k n L (.int i :: .ref (G f) :: st) pc := by
  subst hi
  have hb : j < 2 ^ 31 := Nat.lt_of_lt_of_le hj (r_lenB f)
  refine m_zald C (f := ar f) (by rw [hR.2.1 f hf, ht]) (vp_in_nI hj (r_lenC f)) d ?_
  rw [nI_clamp hb]
  exact kk
theorem r_iast (C : mC p m meth c cc nL s args Ts own D A y0 ret0) (hR : rW D G o F t cm g u ar M) (f : Nat) (hf : r_isA f = true) (ht : r_ty f = 0) {i x : Int32} (j : Nat) (hj : j < r_len f) (hi : i = nI j) (d : decode cc pc = .ok (.iastore, 1)) (kk : ∀ M : Mm, rW D G o F t cm g u (upA ar f (upd (ar f) j x)) M → mV p l e R s m args below meth c nL D A Q M k n L st (pc + 1)) : mV p l e R s m args below meth c nL D A Q M k n L (.int x :: .int i :: .ref (G f) :: st) pc := by
  subst hi
  have hb : j < 2 ^ 31 := Nat.lt_of_lt_of_le hj (r_lenB f)
  refine m_iast C (f := ar f) (by rw [hR.2.1 f hf, ht]) (vp_in_nI hj (r_lenC f)) d (kk _ ?_)
  rw [nI_clamp hb]
  exact hR.st hf ht.symm rfl _
theorem r_zast (C : mC p m meth c cc nL s args Ts own D A y0 ret0) (hR : rW D G o F t cm g u ar M) (f : Nat) (hf : r_isA f = true) (ht : r_ty f = 1) {i x : Int32} (j : Nat) (hj : j < r_len f) (hi : i = nI j) (hx : x = 0 ∨ x = 1) (d : decode cc pc = .ok (.bastore, 1)) (kk : ∀ M : Mm, rW D G o F t cm g u (upA ar f (upd (ar f) j x)) M → mV p l e R s m args below meth c nL D A Q M k n L st (pc + 1)) : mV p l e R s m args below meth c nL D A Q M k n L (.int x :: .int i :: .ref (G f) :: st) pc := by
  subst hi
  have hb : j < 2 ^ 31 := Nat.lt_of_lt_of_le hj (r_lenB f)
  have hz : vp_nar .boolean x = x := by rcases hx with rfl | rfl <;> rfl
  refine m_zast C (f := ar f) (by rw [hR.2.1 f hf, ht]) (vp_in_nI hj (r_lenC f)) d (kk _ ?_)
  rw [nI_clamp hb, hz]
  exact hR.st hf ht.symm rfl _

theorem r_copyS (C : mC p m meth c cc nL s args Ts own D A y0 ret0) (hR : rW D G o F t cm g u ar M) {index : Nat} (hlink : Cond.methodLink own index arraycopyName ∈ Ts) (hnat : Cond.native arraycopyName ∈ Ts) (hstat : Cond.static arraycopyName ∈ Ts) (hini : Cond.initialized "java/lang/System" ∈ Ts) (f : Nat) (hf : r_isA f = true) (ht : r_ty f = 0) {x0 x1 x2 : Int32} (sp dp nn : Nat) (h0 : x0 = nI sp) (h1 : x1 = nI dp) (h2 : x2 = nI nn) (h4 : sp + nn ≤ r_len f) (h5 : dp + nn ≤ r_len f) (hframes : 1 ≤ R.frames) (hlocals : (st.map fun v => v.category).sum + (nativeFrameWords "java/lang/System" "arraycopy" 5 + 11) ≤ R.locals) (d : decode cc pc = .ok (.invokestatic index, 3)) (kk : ∀ M : Mm, rW D G o F t cm g u (upA ar f (va_cpy (ar f) (ar f) sp dp nn)) M → mV p l e R s m args below meth c nL D A Q M k n L st (pc + 3)) : mV p l e R s m args below meth c nL D A Q M k n L (.int x2 :: .int x1 :: .ref (G f) :: .int x0 :: .ref (G f) :: st) pc := by
  have hb := r_lenC f
  have hM := hR.2.1 f hf
  rw [ht] at hM
  exact m_copyi (t0 := 0) C hlink hnat hstat hini rfl hM hM rfl h0 h1 h2 ⟨by omega, by omega, by omega⟩ h4 h5 hframes hlocals d (kk _ (hR.st hf ht.symm rfl _))
theorem r_copyF (C : mC p m meth c cc nL s args Ts own D A y0 ret0) (hR : rW D G o F t cm g u ar M) {index : Nat} (hlink : Cond.methodLink own index arraycopyName ∈ Ts) (hnat : Cond.native arraycopyName ∈ Ts) (hstat : Cond.static arraycopyName ∈ Ts) (hini : Cond.initialized "java/lang/System" ∈ Ts) {a w : Nat} {sh : Nat → Int32} (hF : F a = some (.inl (D.2.1 0, w, .inl sh))) (hw : w < 2 ^ 31) (f : Nat) (hf : r_isA f = true) (ht : r_ty f = 0) {x0 x1 x2 : Int32} (sp dp nn : Nat) (h0 : x0 = nI sp) (h1 : x1 = nI dp) (h2 : x2 = nI nn) (h4 : sp + nn ≤ w) (h5 : dp + nn ≤ r_len f) (hframes : 1 ≤ R.frames) (hlocals : (st.map fun v => v.category).sum + (nativeFrameWords "java/lang/System" "arraycopy" 5 + 11) ≤ R.locals) (d : decode cc pc = .ok (.invokestatic index, 3)) (kk : ∀ M : Mm, rW D G o F t cm g u (upA ar f (va_cpy sh (ar f) sp dp nn)) M → mV p l e R s m args below meth c nL D A Q M k n L st (pc + 3)) : mV p l e R s m args below meth c nL D A Q M k n L (.int x2 :: .int x1 :: .ref (G f) :: .int x0 :: .ref a :: st) pc := by
  have hb := r_lenC f
  have hM := hR.2.1 f hf
  rw [ht] at hM
  exact m_copyi (t0 := 0) C hlink hnat hstat hini rfl (hR.2.2.2 _ _ hF).1 hM rfl h0 h1 h2 ⟨by omega, by omega, by omega⟩ h4 h5 hframes hlocals d (kk _ (hR.st hf ht.symm rfl _))
end REF
