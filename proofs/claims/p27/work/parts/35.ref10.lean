def k_shows (cm : Nat) (ar : rA) (v x y : Int32) : Int32 := if (q_node cm ar v && q_pix x y) = true then 0 else 1
