/-! ===== the class: what is let through to a node ===== -/
theorem q_mk_P {ar : rA} {cm p c : Nat} (hw : wf ar cm) (hp : cP ar cm p) (h : q_mk ar p = some c) : cP ar cm c ∧ ¬ ar 13 p = 0 ∧ c = kid ar p 0 := by
  unfold q_mk at h
  by_cases z : ar 13 p = 0 ∨ mny ar p = 0
  · rw [if_pos z] at h
    cases h
  · rw [if_neg z] at h
    have e := Option.some.inj h
    exact ⟨by rw [← e]; exact cP_kid hw p hp 0 (by omega), fun y => z (Or.inl y), e.symm⟩
theorem zO_eq {D : mD} {Z : Nat → Nat} {P : Nat → Prop} {fs : Nat → List Value} {ls : Nat → List Nat} {na : Nat → Option Nat} {cv rw : Nat → Int32} {mf : List Value} {F M : Mm} (h : cW D Z P fs ls na cv rw mf F M) {o : Option Nat} {n : Nat} (ho : ∀ c, o = some c → P c) (hn : P n) : zO Z o = some (Z (100 + n)) ↔ o = some n := by
  cases o with
  | none => exact ⟨fun z => absurd (show (none : Option Nat) = some (Z (100 + n)) from z) (by simp), fun z => absurd z (by simp)⟩
  | some c => exact ⟨fun z => congrArg some (h.inj (ho c rfl) hn (Option.some.inj z)), fun z => by rw [Option.some.inj z]; rfl⟩
theorem opn_u {ar : rA} {cm n : Nat} (hw : wf ar cm) (hn : cP ar cm n) (px py : Int32) : q_opn ar n px py = ((decide (ar 12 n = 0) && !(q_isM ar n) && q_clpA ar px py n) && (if n = 0 then true else q_opf ar (par9 ar n) px py)) := by
  by_cases h0 : n = 0
  · subst h0
    rw [opn_0 hw, if_pos rfl, Bool.and_true]
  · rw [opn_s hw hn h0, if_neg h0]

