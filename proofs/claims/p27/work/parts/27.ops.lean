/-! ===== what the calls do: k: what is thrown (0: nothing), v: the answer, s: the arrays behind ===== -/
abbrev jN (v : Int32) : Nat := v.toNatClampNeg
def q_tldv (ar : rA) (v w : Int32) : Int32 := q_tld ar (chn ar (jN v)) (plc ar (jN v)) (jN v) (jN w)
def k_node (cm : Nat) (ar : rA) (v w : Int32) : Int32 := if (q_node cm ar v && q_in w 0 12) = true then 0 else 1
def k_child (cm : Nat) (ar : rA) (v i : Int32) : Int32 := if (q_node cm ar v && q_in i 0 (ar 5 (jN v) - 1)) = true then 0 else 1
def v_child (ar : rA) (v i : Int32) : Int32 := ar 6 (40 * jN v + jN i)
def k_place (cm : Nat) (ar : rA) (v dx dy : Int32) : Int32 := if q_node cm ar v = false then 1 else if (q_far dx || q_far dy) = true then 2 else 0
def s_place (ar : rA) (v dx dy : Int32) : rA := upA (upA ar 8 (upd (ar 8) (jN v) dx)) 9 (upd (ar 9) (jN v) dy)
def k_setFill (cm : Nat) (ar : rA) (v f : Int32) : Int32 := if q_node cm ar v = false then 1 else if q_in f (-1) 255 = false then 2 else 0
def s_setFill (ar : rA) (v f : Int32) : rA := upA ar 10 (upd (ar 10) (jN v) f)
def k_setOpacity (cm : Nat) (ar : rA) (v f : Int32) : Int32 := if q_node cm ar v = false then 1 else if q_in f 0 8 = false then 2 else 0
def s_setOpacity (ar : rA) (v f : Int32) (h : Bool) : rA := upA (upA ar 11 (upd (ar 11) (jN v) f)) 12 (upd (ar 12) (jN v) (bI h))
def k_setClip (cm : Nat) (ar : rA) (v a b w h : Int32) : Int32 := if q_node cm ar v = false then 1 else if (q_far a || q_far b || !(q_in w 0 100) || !(q_in h 0 100)) = true then 2 else 0
def q_said (a b w h : Int32) : Nat → Int32 := upd (upd (upd (upd (fun _ => 0) 0 a) 1 b) 2 w) 3 h
def s_setClip (ar : rA) (v a b w h : Int32) : rA := upA ar 14 (va_cpy (q_said a b w h) (ar 14) 0 (4 * jN v) 4)
def k_setMask (cm : Nat) (ar : rA) (v : Int32) : Int32 := if q_node cm ar v = false then 1 else if ¬ ar 3 (jN v) = 0 then 2 else 0
def s_setMask (ar : rA) (v : Int32) (h : Bool) : rA := upA ar 13 (upd (ar 13) (jN v) (bI h))
def k_setGround (v : Int32) : Int32 := if q_in v 0 255 = true then 0 else 1
def k_pix (x y : Int32) : Int32 := if q_pix x y = true then 0 else 1
def v_painted (ar : rA) (x y : Int32) : Int32 := ar 16 (64 * jN y + jN x)
def k_remove (cm : Nat) (ar : rA) (v : Int32) : Int32 := if q_node cm ar v = false then 1 else if v = 0 then 2 else 0
def s_remove (ar : rA) (v : Int32) : rA := upA (q_out ar (par9 ar (jN v)) (plc ar (jN v)) (mny ar (par9 ar (jN v)) - 1)) 2 (q_clr (ar 2) (pre9 ar (jN v)))
def k_move (cm : Nat) (ar : rA) (v q pl : Int32) : Int32 := if (q_node cm ar v && q_node cm ar q) = false then 1 else if v = 0 ∨ ¬ ar 3 (jN q) = 0 ∨ jN v ∈ chn ar (jN q) ∨ q_in pl 0 (ar 5 (jN q) - (if ar 4 (jN v) = q then 1 else 0)) = false then 2 else 0
def s_move (ar : rA) (v q pl : Int32) : rA := q_ins (q_out ar (par9 ar (jN v)) (plc ar (jN v)) (mny ar (par9 ar (jN v)) - 1)) (jN v) (jN q) (jN pl) (if par9 ar (jN v) = jN q then mny ar (jN q) - 1 else mny ar (jN q))
def q_okR (a b w h : Int32) : Bool := !(q_far a) && !(q_far b) && q_in w 1 100 && q_in h 1 100
def q_okD (a b r : Int32) : Bool := !(q_far a) && !(q_far b) && q_in r 1 60
def q_okT (a b c d e f : Int32) : Bool := !(q_far a) && !(q_far b) && !(q_far c) && !(q_far d) && !(q_far e) && !(q_far f)
def q_sh (l : List Int32) : Nat → Int32 := fun i => l.getD i 0

