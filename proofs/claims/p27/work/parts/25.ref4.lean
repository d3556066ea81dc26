/-! ===== the reference: the walk over a tree, what is told, removing and moving ===== -/
def q_kp (ar : rA) (d n k : Nat) : List Nat := ((List.range k).map (fun k => (ar 6 (40 * n + k)).toNatClampNeg)).flatMap (q_pre ar d)
theorem q_kp_0 (ar : rA) (d n : Nat) : q_kp ar d n 0 = [] := rfl
theorem q_kp_s (ar : rA) (d n k : Nat) : q_kp ar d n (k + 1) = q_kp ar d n k ++ q_pre ar d (ar 6 (40 * n + k)).toNatClampNeg := by
  unfold q_kp
  rw [List.range_succ, List.map_append, List.flatMap_append]
  simp
theorem q_pre_s (ar : rA) (d n : Nat) {m9 : Nat} (hm : ar 5 n = nI m9) (h39 : m9 ≤ 39) : q_pre ar (d + 1) n = n :: q_kp ar d n m9 := by
  rw [q_pre, hm, nI_clamp (by omega)]
  rfl
