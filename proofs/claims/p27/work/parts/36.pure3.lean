/-! ===== what is painted ===== -/
def q_chg (ar : rA) (g : Int32) (L : List Nat) (tl : Nat) : Nat → Nat
  | 0 => 0
  | k + 1 => q_chg ar g L tl k + (if q_val ar g L (nI (8 * (tl % 8) + k % 8)) (nI (8 * (tl / 8) + k / 8)) = ar 16 (64 * (8 * (tl / 8) + k / 8) + (8 * (tl % 8) + k % 8)) then 0 else 1)
theorem q_chg_le (ar : rA) (g : Int32) (L : List Nat) (tl : Nat) : ∀ k, q_chg ar g L tl k ≤ k
  | 0 => Nat.le_refl _
  | k + 1 => by
    have h := q_chg_le ar g L tl k
    unfold q_chg
    split <;> omega
def q_dty (ar : rA) (g : Int32) (L : List Nat) : Nat → Nat
  | 0 => 0
  | t + 1 => q_dty ar g L t + (if 0 < q_chg ar g L t 64 then 1 else 0)
theorem q_dty_le (ar : rA) (g : Int32) (L : List Nat) : ∀ t, q_dty ar g L t ≤ t
  | 0 => Nat.le_refl _
  | t + 1 => by
    have h := q_dty_le ar g L t
    unfold q_dty
    split <;> omega
/-- a canvas painted as far as pixel k -/
def q_pnt (ar : rA) (g : Int32) (L : List Nat) (cv : Nat → Int32) : Nat → Nat → Int32
  | 0 => cv
  | k + 1 => upd (q_pnt ar g L cv k) k (q_val ar g L (nI (k % 64)) (nI (k / 64)))
def q_sum (cv : Nat → Int32) : Nat → Int32
  | 0 => 0
  | k + 1 => q_sum cv k + cv k
def q_dgn (ar : rA) (n : Nat) (d : Int64) : Nat → Int64
  | 0 => d
  | w + 1 => q_dgn ar n d w * 31 + (q_tld ar (chn ar n) (plc ar n) n w).toInt64
def q_dga (ar : rA) (d : Int64) : Nat → Int64
  | 0 => d
  | n + 1 => if ar 2 n = 0 then q_dga ar d n else q_dgn ar n (q_dga ar d n * 31 + (nI n).toInt64) 13
def q_dgc (cv : Nat → Int32) (d : Int64) : Nat → Int64
  | 0 => d
  | k + 1 => q_dgc cv d k * 31 + (cv k).toInt64
def q_dig (ar : rA) (cm : Nat) (g : Int32) : Int64 := q_dgc (ar 16) (q_dga ar ((11129 + (nI (q_cnt ar cm)).toInt64) * 31 + g.toInt64) cm) 3072 * 31 + (nI (q_dty ar g (pre9 ar 0) 48)).toInt64
def q_exs (ar : rA) (L : List Nat) (x y : Int32) (tl : Nat → Int32) : Nat → Int32 := if q_any ar L x y = true then upd (upd (upd (upd (upd tl 1 (if tl 0 = 0 then x else tl 1)) 2 x) 3 (if tl 0 = 0 then y else (if y < tl 3 then y else tl 3))) 4 (if tl 4 < y then y else tl 4)) 0 (tl 0 + 1) else tl
def q_exy (ar : rA) (L : List Nat) (x : Nat) (tl : Nat → Int32) : Nat → Nat → Int32
  | 0 => tl
  | y + 1 => q_exs ar L (nI x) (nI y) (q_exy ar L x tl y)
def q_exx (ar : rA) (L : List Nat) (tl : Nat → Int32) : Nat → Nat → Int32
  | 0 => tl
  | x + 1 => q_exy ar L x (q_exx ar L tl x) 48
def q_ext0 : Nat → Int32 := upd (upd (upd (upd (upd (fun _ => 0) 0 0) 1 (-1)) 2 (-1)) 3 (-1)) 4 (-1)
def k_extent (cm : Nat) (ar : rA) (v w : Int32) : Int32 := if (q_node cm ar v && q_in w 0 4) = true then 0 else 1
def v_extent (ar : rA) (v w : Int32) : Int32 := q_exx ar (pre9 ar (jN v)) q_ext0 64 (jN w)
def k_tile (v : Int32) : Int32 := if q_in v 0 47 = true then 0 else 1
section CV
variable {ar : rA} {cv : Nat → Int32} {cm : Nat}
theorem cv_ch : ∀ (d n : Nat), q_ch (upA ar 16 cv) d n = q_ch ar d n
  | 0, _ => rfl
  | d + 1, n => by
    show (if n = 0 then [0] else n :: q_ch (upA ar 16 cv) d (ar 4 n).toNatClampNeg) = _
    rw [cv_ch d]
    rfl
theorem cv_chn (n : Nat) : chn (upA ar 16 cv) n = chn ar n := cv_ch 40 n
theorem cv_kp (d n : Nat) (ih : ∀ x, q_pre (upA ar 16 cv) d x = q_pre ar d x) (l : List Nat) : l.flatMap (q_pre (upA ar 16 cv) d) = l.flatMap (q_pre ar d) := by
  induction l with
  | nil => rfl
  | cons a t iht => rw [List.flatMap_cons, List.flatMap_cons, iht, ih a]
theorem cv_pre : ∀ (d n : Nat), q_pre (upA ar 16 cv) d n = q_pre ar d n
  | 0, _ => rfl
  | d + 1, n => by
    unfold q_pre
    rw [cv_kp d n (fun x => cv_pre d x)]
    rfl
theorem cv_pre9 (n : Nat) : pre9 (upA ar 16 cv) n = pre9 ar n := cv_pre 40 n
theorem cv_fill : ∀ l : List Nat, q_fill (upA ar 16 cv) l = q_fill ar l
  | [] => rfl
  | a :: t => by
    unfold q_fill
    rw [cv_fill t]
    rfl
theorem cv_str : ∀ l : List Nat, q_str (upA ar 16 cv) l = q_str ar l
  | [] => rfl
  | a :: t => by
    unfold q_str
    rw [cv_str t]
    rfl
theorem cv_off8 (l : List Nat) (x : Int32) : q_off (upA ar 16 cv) 8 l x = q_off ar 8 l x := rfl
theorem cv_off9 (l : List Nat) (x : Int32) : q_off (upA ar 16 cv) 9 l x = q_off ar 9 l x := rfl
theorem cv_inS (n : Nat) (px py : Int32) : q_inS (upA ar 16 cv) n px py = q_inS ar n px py := by
  unfold q_inS
  rw [cv_chn, cv_off8, cv_off9]
  rfl
theorem cv_sS (n : Nat) (px py : Int32) : q_sS (upA ar 16 cv) px py n = q_sS ar px py n := by
  unfold q_sS
  rw [cv_inS]
  rfl
theorem cv_inT (n : Nat) (px py : Int32) : q_inT (upA ar 16 cv) n px py = q_inT ar n px py := by
  unfold q_inT
  rw [cv_pre9]
  exact congrArg (fun f => (pre9 ar n).any f) (funext fun s => cv_sS s px py)
theorem cv_okA (n : Nat) (px py : Int32) (a : Nat) : q_okA (upA ar 16 cv) n px py a = q_okA ar n px py a := by
  have h1 : q_clpA (upA ar 16 cv) px py a = q_clpA ar px py a := by
    unfold q_clpA
    rw [cv_chn, cv_off8, cv_off9]
    rfl
  have h2 : q_mskA (upA ar 16 cv) n px py a = q_mskA ar n px py a := by
    unfold q_mskA
    rw [cv_inT]
    rfl
  unfold q_okA
  rw [h1, h2]
  rfl
theorem cv_shown (n : Nat) (px py : Int32) : q_shown (upA ar 16 cv) n px py = q_shown ar n px py := by
  unfold q_shown
  rw [cv_sS, cv_chn]
  exact congrArg (fun f => (q_sS ar px py n && (chn ar n).all f)) (funext fun a => cv_okA n px py a)
theorem cv_mix (px py v : Int32) (n : Nat) : q_mix (upA ar 16 cv) px py v n = q_mix ar px py v n := by
  unfold q_mix q_lay q_sn q_fn
  rw [cv_shown, cv_chn, cv_str, cv_fill]
theorem cv_val (g : Int32) (L : List Nat) (px py : Int32) : q_val (upA ar 16 cv) g L px py = q_val ar g L px py := by
  unfold q_val
  exact congrArg (fun f => L.foldl f g) (funext fun v => funext fun n => cv_mix px py v n)
theorem cv_wf (h : wf ar cm) : wf (upA ar 16 cv) cm := h
end CV
