/-! ===== what act needs of the tree ===== -/
section AP
variable {ar : rA} {cm : Nat}
theorem kids_lt (hw : wf ar cm) {p : Nat} (hp : cP ar cm p) : ∀ x ∈ kids ar p, x < 40 := fun x hx => cP_40 hw ((kid_iff hw hp).mp hx).1
theorem take_ne (hw : wf ar cm) {n : Nat} (hn : cP ar cm n) (h0 : n ≠ 0) : ∀ i, i < plc ar n → (kids ar (par9 ar n)).getD i 0 ≠ n := fun i hi hz => by
  obtain ⟨k1, k2, k3, -, -⟩ := kids_plc hw hn h0
  obtain ⟨p1, p2, p3, p4, p5⟩ := wf_place hw hn.1 hn.2 h0
  rw [kids_len] at k2
  have h1 := wf_kid hw k3.1 k3.2 (show i < mny ar (par9 ar n) by omega)
  rw [kids_at (show i < mny ar (par9 ar n) by omega)] at hz
  apply p5 i hi
  rw [h1.2.2.2.1, hz]
theorem par_not (hw : wf ar cm) {n : Nat} (hn : cP ar cm n) (h0 : n ≠ 0) : n ∉ chn ar (par9 ar n) := fun h => by
  have h1 := wf_nd hw hn.1 hn.2
  rw [(wf_chp hw hn.1 hn.2 h0).1] at h1
  exact (List.nodup_cons.mp h1).1 h
theorem mask_b {v : Int32} (h : v = 0 ∨ v = 1) : (v = 1 → v = bI true) ∧ (¬ v = 1 → v = bI false) := ⟨fun z => z, fun z => h.resolve_right z⟩
end AP
