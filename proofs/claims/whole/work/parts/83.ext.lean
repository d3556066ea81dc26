/-! ===== least, greatest, how many: by columns and by rows ===== -/
def aB (f : Nat → Bool) : Nat → Bool
  | 0 => false
  | k + 1 => aB f k || f k
theorem aB_t {f : Nat → Bool} : ∀ k, aB f k = true ↔ ∃ i, i < k ∧ f i = true
  | 0 => ⟨fun z => (by cases z), fun ⟨i, hi, _⟩ => absurd hi (Nat.not_lt_zero i)⟩
  | k + 1 => by
    rw [aB, Bool.or_eq_true, aB_t k]
    constructor
    · rintro (⟨i, h1, h2⟩ | h)
      · exact ⟨i, by omega, h2⟩
      · exact ⟨k, by omega, h⟩
    · rintro ⟨i, h1, h2⟩
      by_cases z : i = k
      · rw [z] at h2
        exact Or.inr h2
      · exact Or.inl ⟨i, by omega, h2⟩
theorem aB_f {f : Nat → Bool} {k : Nat} : aB f k = false ↔ ∀ i, i < k → f i = false := by
  constructor
  · intro h i hi
    cases z : f i with
    | false => rfl
    | true => rw [(aB_t k).mpr ⟨i, hi, z⟩] at h; cases h
  · intro h
    cases z : aB f k with
    | false => rfl
    | true =>
      obtain ⟨i, hi, h2⟩ := (aB_t k).mp z
      rw [h i hi] at h2
      cases h2
def isLo (f : Nat → Bool) (N : Nat) (v : Int32) : Prop := ((∀ i, i < N → f i = false) ∧ v = -1) ∨ ∃ i, i < N ∧ f i = true ∧ (∀ j, j < i → f j = false) ∧ v = nI i
def isHi (f : Nat → Bool) (N : Nat) (v : Int32) : Prop := ((∀ i, i < N → f i = false) ∧ v = -1) ∨ ∃ i, i < N ∧ f i = true ∧ (∀ j, i < j → j < N → f j = false) ∧ v = nI i
theorem isLo_u {f : Nat → Bool} {N : Nat} {v w : Int32} (h1 : isLo f N v) (h2 : isLo f N w) : v = w := by
  rcases h1 with ⟨a1, a2⟩ | ⟨i, a1, a2, a3, a4⟩ <;> rcases h2 with ⟨b1, b2⟩ | ⟨j, b1, b2, b3, b4⟩
  · rw [a2, b2]
  · rw [a1 j b1] at b2; cases b2
  · rw [b1 i a1] at a2; cases a2
  · have e : i = j := by
      rcases Nat.lt_trichotomy i j with z | z | z
      · rw [b3 i z] at a2; cases a2
      · exact z
      · rw [a3 j z] at b2; cases b2
    rw [a4, b4, e]
theorem isHi_u {f : Nat → Bool} {N : Nat} {v w : Int32} (h1 : isHi f N v) (h2 : isHi f N w) : v = w := by
  rcases h1 with ⟨a1, a2⟩ | ⟨i, a1, a2, a3, a4⟩ <;> rcases h2 with ⟨b1, b2⟩ | ⟨j, b1, b2, b3, b4⟩
  · rw [a2, b2]
  · rw [a1 j b1] at b2; cases b2
  · rw [b1 i a1] at a2; cases a2
  · have e : i = j := by
      rcases Nat.lt_trichotomy i j with z | z | z
      · rw [a3 j z b1] at b2; cases b2
      · exact z
      · rw [b3 i z a1] at a2; cases a2
    rw [a4, b4, e]
theorem isLo_cg {f h : Nat → Bool} {N : Nat} {v : Int32} (e : ∀ i, i < N → f i = h i) (hl : isLo f N v) : isLo h N v := by
  rcases hl with ⟨a1, a2⟩ | ⟨i, a1, a2, a3, a4⟩
  · exact Or.inl ⟨fun i hi => by rw [← e i hi]; exact a1 i hi, a2⟩
  · exact Or.inr ⟨i, a1, by rw [← e i a1]; exact a2, fun j hj => by rw [← e j (by omega)]; exact a3 j hj, a4⟩
theorem isHi_cg {f h : Nat → Bool} {N : Nat} {v : Int32} (e : ∀ i, i < N → f i = h i) (hl : isHi f N v) : isHi h N v := by
  rcases hl with ⟨a1, a2⟩ | ⟨i, a1, a2, a3, a4⟩
  · exact Or.inl ⟨fun i hi => by rw [← e i hi]; exact a1 i hi, a2⟩
  · exact Or.inr ⟨i, a1, by rw [← e i a1]; exact a2, fun j hj hN => by rw [← e j hN]; exact a3 j hj hN, a4⟩
theorem q_lo_n (f : Nat → Bool) : ∀ n, n ≤ 64 → ((∀ i, 64 - n ≤ i → i < 64 → f i = false) ∧ q_lo f n = -1) ∨ ∃ i, 64 - n ≤ i ∧ i < 64 ∧ f i = true ∧ (∀ j, 64 - n ≤ j → j < i → f j = false) ∧ q_lo f n = nI i
  | 0, _ => Or.inl ⟨fun i h1 h2 => by omega, rfl⟩
  | n + 1, hn => by
    unfold q_lo
    by_cases h : f (64 - (n + 1)) = true
    · rw [if_pos h]
      exact Or.inr ⟨64 - (n + 1), Nat.le_refl _, by omega, h, fun j h1 h2 => by omega, rfl⟩
    · rw [if_neg h]
      have h0 : f (64 - (n + 1)) = false := by cases z : f (64 - (n + 1)) with | false => rfl | true => exact absurd z h
      rcases q_lo_n f n (by omega) with ⟨a1, a2⟩ | ⟨i, a1, a2, a3, a4, a5⟩
      · refine Or.inl ⟨fun i h1 h2 => ?_, a2⟩
        by_cases z : i = 64 - (n + 1)
        · rw [z]; exact h0
        · exact a1 i (by omega) h2
      · refine Or.inr ⟨i, by omega, a2, a3, fun j h1 h2 => ?_, a5⟩
        by_cases z : j = 64 - (n + 1)
        · rw [z]; exact h0
        · exact a4 j (by omega) h2
theorem q_lo_is (f : Nat → Bool) : isLo f 64 (q_lo f 64) := by
  rcases q_lo_n f 64 (Nat.le_refl _) with ⟨a1, a2⟩ | ⟨i, a1, a2, a3, a4, a5⟩
  · exact Or.inl ⟨fun i hi => a1 i (by omega) hi, a2⟩
  · exact Or.inr ⟨i, a2, a3, fun j hj => a4 j (by omega) hj, a5⟩
theorem q_hi_is (f : Nat → Bool) : ∀ n, isHi f n (q_hi f n)
  | 0 => Or.inl ⟨fun i hi => absurd hi (Nat.not_lt_zero i), rfl⟩
  | n + 1 => by
    unfold q_hi
    by_cases h : f n = true
    · rw [if_pos h]
      exact Or.inr ⟨n, by omega, h, fun j h1 h2 => by omega, rfl⟩
    · rw [if_neg h]
      have h0 : f n = false := by cases z : f n with | false => rfl | true => exact absurd z h
      rcases q_hi_is f n with ⟨a1, a2⟩ | ⟨i, a1, a2, a3, a4⟩
      · refine Or.inl ⟨fun i hi => ?_, a2⟩
        by_cases z : i = n
        · rw [z]; exact h0
        · exact a1 i (by omega)
      · refine Or.inr ⟨i, by omega, a2, fun j h1 h2 => ?_, a4⟩
        by_cases z : j = n
        · rw [z]; exact h0
        · exact a3 j h1 (by omega)
theorem nI_m1 {a : Nat} (h : a < 2 ^ 31) : nI a ≠ -1 := nI_nm1 h
theorem isLo_no {f : Nat → Bool} {N : Nat} {v : Int32} (h : isLo f N v) (h0 : f N = false) : isLo f (N + 1) v := by
  rcases h with ⟨a1, a2⟩ | ⟨i, a1, a2, a3, a4⟩
  · refine Or.inl ⟨fun i hi => ?_, a2⟩
    by_cases z : i = N
    · rw [z]; exact h0
    · exact a1 i (by omega)
  · exact Or.inr ⟨i, by omega, a2, a3, a4⟩
theorem isLo_yes {f : Nat → Bool} {N : Nat} {v : Int32} (h : isLo f N v) (h1 : f N = true) (hN : N < 2 ^ 31) : isLo f (N + 1) (if v = -1 then nI N else v) := by
  rcases h with ⟨a1, a2⟩ | ⟨i, a1, a2, a3, a4⟩
  · rw [if_pos a2]
    exact Or.inr ⟨N, by omega, h1, fun j hj => a1 j hj, rfl⟩
  · rw [if_neg (by rw [a4]; exact nI_m1 (by omega))]
    exact Or.inr ⟨i, by omega, a2, a3, a4⟩
theorem isHi_no {f : Nat → Bool} {N : Nat} {v : Int32} (h : isHi f N v) (h0 : f N = false) : isHi f (N + 1) v := by
  rcases h with ⟨a1, a2⟩ | ⟨i, a1, a2, a3, a4⟩
  · refine Or.inl ⟨fun i hi => ?_, a2⟩
    by_cases z : i = N
    · rw [z]; exact h0
    · exact a1 i (by omega)
  · refine Or.inr ⟨i, by omega, a2, fun j hj hN => ?_, a4⟩
    by_cases z : j = N
    · rw [z]; exact h0
    · exact a3 j hj (by omega)
theorem isHi_yes {f : Nat → Bool} {N : Nat} (h1 : f N = true) : isHi f (N + 1) (nI N) := Or.inr ⟨N, by omega, h1, fun j hj hN => by omega, rfl⟩
/-- counting by columns, and by rows -/
def dC (S : Nat → Nat → Bool) (Y : Nat) : Nat → Nat
  | 0 => 0
  | X + 1 => dC S Y X + cB (S X) Y
def dR (S : Nat → Nat → Bool) (X : Nat) : Nat → Nat
  | 0 => 0
  | Y + 1 => dR S X Y + cB (fun x => S x Y) X
theorem dR_s (S : Nat → Nat → Bool) (X : Nat) : ∀ Y, dR S (X + 1) Y = dR S X Y + cB (S X) Y
  | 0 => rfl
  | Y + 1 => by
    rw [dR, dR_s S X Y, dR, cB, cB]
    omega
theorem dR_0 (S : Nat → Nat → Bool) : ∀ Y, dR S 0 Y = 0
  | 0 => rfl
  | Y + 1 => by rw [dR, dR_0 S Y]; rfl
theorem dC_dR (S : Nat → Nat → Bool) (Y : Nat) : ∀ X, dC S Y X = dR S X Y
  | 0 => (dR_0 S Y).symm
  | X + 1 => by rw [dC, dC_dR S Y X, dR_s]
theorem dC_le (S : Nat → Nat → Bool) (Y : Nat) : ∀ X, dC S Y X ≤ X * Y
  | 0 => Nat.zero_le _
  | X + 1 => by
    have h1 := dC_le S Y X
    have h2 := cB_le (S X) Y
    rw [dC, Nat.succ_mul]
    omega
theorem dR_le (S : Nat → Nat → Bool) (X : Nat) : ∀ Y, dR S X Y ≤ Y * X
  | 0 => Nat.zero_le _
  | Y + 1 => by
    have h1 := dR_le S X Y
    have h2 := cB_le (fun x => S x Y) X
    rw [dR, Nat.succ_mul]
    omega
/-- what the reference has found, columns before X and X's rows before Y -/
def xP (X Y x y : Nat) : Prop := (x < X ∧ y < 48) ∨ (x = X ∧ y < Y)
def xC (S : Nat → Nat → Bool) (X Y : Nat) : Nat := dC S 48 X + cB (S X) Y
def xI (S : Nat → Nat → Bool) (X Y : Nat) (tl : Nat → Int32) : Prop :=
  tl 0 = nI (xC S X Y) ∧ ((xC S X Y = 0 ∧ (tl 1 = -1 ∧ tl 2 = -1 ∧ tl 3 = -1 ∧ tl 4 = -1) ∧ ∀ x y, xP X Y x y → S x y = false) ∨
    (0 < xC S X Y ∧ ∃ x1 x2 y3 y4 : Nat, (tl 1 = nI x1 ∧ tl 2 = nI x2 ∧ tl 3 = nI y3 ∧ tl 4 = nI y4) ∧ ((∃ y, xP X Y x1 y ∧ S x1 y = true) ∧ (∃ y, xP X Y x2 y ∧ S x2 y = true) ∧ (∃ x, xP X Y x y3 ∧ S x y3 = true) ∧ ∃ x, xP X Y x y4 ∧ S x y4 = true) ∧ ∀ x y, xP X Y x y → S x y = true → x1 ≤ x ∧ x ≤ x2 ∧ y3 ≤ y ∧ y ≤ y4))
def xS (S : Nat → Nat → Bool) (X Y : Nat) (tl : Nat → Int32) : Nat → Int32 := if S X Y = true then upd (upd (upd (upd (upd tl 1 (if tl 0 = 0 then nI X else tl 1)) 2 (nI X)) 3 (if tl 0 = 0 then nI Y else (if nI Y < tl 3 then nI Y else tl 3))) 4 (if tl 4 < nI Y then nI Y else tl 4)) 0 (tl 0 + 1) else tl
theorem xP_s {X Y x y : Nat} : xP X (Y + 1) x y ↔ xP X Y x y ∨ (x = X ∧ y = Y) := by
  unfold xP
  omega
theorem xI_s {S : Nat → Nat → Bool} {X Y : Nat} {tl : Nat → Int32} (h : xI S X Y tl) (hX : X < 64) (hY : Y < 48) : xI S X (Y + 1) (xS S X Y tl) := by
  obtain ⟨h0, hc⟩ := h
  have hC : xC S X Y ≤ 3072 + 48 := by
    have h1 := dC_le S 48 X
    have h2 := cB_le (S X) Y
    unfold xC
    omega
  unfold xS
  by_cases hs : S X Y = true
  · rw [if_pos hs]
    have eC : xC S X (Y + 1) = xC S X Y + 1 := by
      unfold xC
      rw [cB, if_pos hs]
      rfl
    refine ⟨by rw [eC]; show tl 0 + 1 = _; rw [h0, nI_1], Or.inr ⟨by rw [eC]; omega, ?_⟩⟩
    rcases hc with ⟨c0, ⟨t1, t2, t3, t4⟩, hn⟩ | ⟨c0, x1, x2, y3, y4, ⟨t1, t2, t3, t4⟩, ⟨⟨v1, w1, s1⟩, ⟨v2, w2, s2⟩, ⟨v3, w3, s3⟩, ⟨v4, w4, s4⟩⟩, hb⟩
    · have e0 : tl 0 = 0 := by rw [h0, c0]; rfl
      have hxy : xP X (Y + 1) X Y := xP_s.mpr (Or.inr ⟨rfl, rfl⟩)
      refine ⟨X, X, Y, Y, ⟨?_, rfl, ?_, ?_⟩, ⟨⟨Y, hxy, hs⟩, ⟨Y, hxy, hs⟩, ⟨X, hxy, hs⟩, ⟨X, hxy, hs⟩⟩, fun x y hp ht => ?_⟩
      · show (if tl 0 = 0 then nI X else tl 1) = nI X
        rw [if_pos e0]
      · show (if tl 0 = 0 then nI Y else _) = nI Y
        rw [if_pos e0]
      · show (if tl 4 < nI Y then nI Y else tl 4) = nI Y
        rw [t4, if_pos]
        rw [Int32.lt_iff_toInt_lt, nI_toInt (by omega)]
        have : (-1 : Int32).toInt = -1 := rfl
        omega
      · rcases xP_s.mp hp with z | ⟨z1, z2⟩
        · rw [hn x y z] at ht; cases ht
        · omega
    · have e0 : ¬ tl 0 = 0 := by
        rw [h0]
        intro z
        have := congrArg Int32.toNatClampNeg z
        rw [nI_clamp (by omega)] at this
        have e : (0 : Int32).toNatClampNeg = 0 := rfl
        omega
      have hxy : xP X (Y + 1) X Y := xP_s.mpr (Or.inr ⟨rfl, rfl⟩)
      have k1 := hb x1 v1 w1 s1
      have k3 := hb v3 y3 w3 s3
      have k4 := hb v4 y4 w4 s4
      have b1 : x1 ≤ X := by unfold xP at w1; omega
      have b2 : x2 ≤ X := by unfold xP at w2; omega
      have b3 : y3 < 48 := by unfold xP at w3; omega
      have b4 : y4 < 48 := by unfold xP at w4; omega
      refine ⟨x1, X, min Y y3, max Y y4, ⟨?_, rfl, ?_, ?_⟩, ⟨⟨v1, xP_s.mpr (Or.inl w1), s1⟩, ⟨Y, hxy, hs⟩, ?_, ?_⟩, fun x y hp ht => ?_⟩
      · show (if tl 0 = 0 then nI X else tl 1) = nI x1
        rw [if_neg e0, t1]
      · show (if tl 0 = 0 then nI Y else (if nI Y < tl 3 then nI Y else tl 3)) = nI (min Y y3)
        rw [if_neg e0, t3]
        by_cases z : Y < y3
        · rw [if_pos (nI_lt z (by omega)), Nat.min_eq_left (by omega)]
        · rw [if_neg (nI_nlt (by omega) (by omega)), Nat.min_eq_right (by omega)]
      · show (if tl 4 < nI Y then nI Y else tl 4) = nI (max Y y4)
        rw [t4]
        by_cases z : y4 < Y
        · rw [if_pos (nI_lt z (by omega)), Nat.max_eq_left (by omega)]
        · rw [if_neg (nI_nlt (by omega) (by omega)), Nat.max_eq_right (by omega)]
      · by_cases z : Y ≤ y3
        · rw [Nat.min_eq_left z]
          exact ⟨X, hxy, hs⟩
        · rw [Nat.min_eq_right (by omega)]
          exact ⟨v3, xP_s.mpr (Or.inl w3), s3⟩
      · by_cases z : y4 ≤ Y
        · rw [Nat.max_eq_left z]
          exact ⟨X, hxy, hs⟩
        · rw [Nat.max_eq_right (by omega)]
          exact ⟨v4, xP_s.mpr (Or.inl w4), s4⟩
      · rcases xP_s.mp hp with z | ⟨z1, z2⟩
        · have := hb x y z ht
          have hxX : x ≤ X := by unfold xP at z; omega
          omega
        · rw [z1, z2]
          omega
  · rw [if_neg hs]
    have hs0 : S X Y = false := by cases z : S X Y with | false => rfl | true => exact absurd z hs
    have eC : xC S X (Y + 1) = xC S X Y := by
      unfold xC
      rw [cB, if_neg hs]
      rfl
    refine ⟨by rw [eC]; exact h0, ?_⟩
    rw [eC]
    rcases hc with ⟨c0, ht, hn⟩ | ⟨c0, x1, x2, y3, y4, ht, ⟨⟨v1, w1, s1⟩, ⟨v2, w2, s2⟩, ⟨v3, w3, s3⟩, ⟨v4, w4, s4⟩⟩, hb⟩
    · refine Or.inl ⟨c0, ht, fun x y hp => ?_⟩
      rcases xP_s.mp hp with z | ⟨z1, z2⟩
      · exact hn x y z
      · rw [z1, z2]; exact hs0
    · refine Or.inr ⟨c0, x1, x2, y3, y4, ht, ⟨⟨v1, xP_s.mpr (Or.inl w1), s1⟩, ⟨v2, xP_s.mpr (Or.inl w2), s2⟩, ⟨v3, xP_s.mpr (Or.inl w3), s3⟩, ⟨v4, xP_s.mpr (Or.inl w4), s4⟩⟩, fun x y hp h1 => ?_⟩
      rcases xP_s.mp hp with z | ⟨z1, z2⟩
      · exact hb x y z h1
      · rw [z1, z2, hs0] at h1; cases h1
theorem xP_n {X x y : Nat} : xP X 48 x y ↔ xP (X + 1) 0 x y := by
  unfold xP
  omega
theorem xI_n {S : Nat → Nat → Bool} {X : Nat} {tl : Nat → Int32} (h : xI S X 48 tl) : xI S (X + 1) 0 tl := by
  have eC : xC S (X + 1) 0 = xC S X 48 := by
    unfold xC
    rw [dC]
    rfl
  obtain ⟨h0, hc⟩ := h
  unfold xI
  rw [eC]
  refine ⟨h0, ?_⟩
  rcases hc with ⟨c0, ht, hn⟩ | ⟨c0, x1, x2, y3, y4, ht, ⟨⟨v1, w1, s1⟩, ⟨v2, w2, s2⟩, ⟨v3, w3, s3⟩, ⟨v4, w4, s4⟩⟩, hb⟩
  · exact Or.inl ⟨c0, ht, fun x y hp => hn x y (xP_n.mpr hp)⟩
  · exact Or.inr ⟨c0, x1, x2, y3, y4, ht, ⟨⟨v1, xP_n.mp w1, s1⟩, ⟨v2, xP_n.mp w2, s2⟩, ⟨v3, xP_n.mp w3, s3⟩, ⟨v4, xP_n.mp w4, s4⟩⟩, fun x y hp h1 => hb x y (xP_n.mpr hp) h1⟩
def q_sw (ar : rA) (L : List Nat) (x y : Nat) : Bool := q_any ar L (nI x) (nI y)
theorem xI_y {ar : rA} {L : List Nat} {X : Nat} (hX : X < 64) {tl : Nat → Int32} (h : xI (q_sw ar L) X 0 tl) : ∀ Y, Y ≤ 48 → xI (q_sw ar L) X Y (q_exy ar L X tl Y)
  | 0, _ => h
  | Y + 1, hY => xI_s (xI_y hX h Y (by omega)) hX (by omega)
theorem xI_x {ar : rA} {L : List Nat} {tl : Nat → Int32} (h : xI (q_sw ar L) 0 0 tl) : ∀ X, X ≤ 64 → xI (q_sw ar L) X 0 (q_exx ar L tl X)
  | 0, _ => h
  | X + 1, hX => xI_n (xI_y (by omega) (xI_x h X (by omega)) 48 (Nat.le_refl _))
theorem ext_r (ar : rA) (L : List Nat) : (q_exx ar L q_ext0 64 0 = nI (dR (q_sw ar L) 64 48) ∧ isLo (fun x => aB (q_sw ar L x) 48) 64 (q_exx ar L q_ext0 64 1) ∧ isHi (fun x => aB (q_sw ar L x) 48) 64 (q_exx ar L q_ext0 64 2)) ∧ isLo (fun y => aB (fun x => q_sw ar L x y) 64) 48 (q_exx ar L q_ext0 64 3) ∧ isHi (fun y => aB (fun x => q_sw ar L x y) 64) 48 (q_exx ar L q_ext0 64 4) := by
  have h0 : xI (q_sw ar L) 0 0 q_ext0 := ⟨rfl, Or.inl ⟨rfl, ⟨rfl, rfl, rfl, rfl⟩, fun x y hp => by unfold xP at hp; omega⟩⟩
  obtain ⟨h1, hc⟩ := xI_x (ar := ar) (L := L) h0 64 (Nat.le_refl _)
  generalize q_exx ar L q_ext0 64 = tl at *
  have hP : ∀ x y, xP 64 0 x y ↔ x < 64 ∧ y < 48 := fun x y => by unfold xP; omega
  have eC : xC (q_sw ar L) 64 0 = dR (q_sw ar L) 64 48 := by
    rw [← dC_dR]
    rfl
  rw [eC] at h1 hc
  rcases hc with ⟨c0, ⟨t1, t2, t3, t4⟩, hn⟩ | ⟨c0, x1, x2, y3, y4, ⟨t1, t2, t3, t4⟩, ⟨⟨v1, w1, s1⟩, ⟨v2, w2, s2⟩, ⟨v3, w3, s3⟩, ⟨v4, w4, s4⟩⟩, hb⟩
  · have hx : ∀ x, x < 64 → aB (q_sw ar L x) 48 = false := fun x hx => aB_f.mpr (fun y hy => hn x y ((hP x y).mpr ⟨hx, hy⟩))
    have hy : ∀ y, y < 48 → aB (fun x => q_sw ar L x y) 64 = false := fun y hy => aB_f.mpr (fun x hx => hn x y ((hP x y).mpr ⟨hx, hy⟩))
    exact ⟨⟨h1, Or.inl ⟨hx, t1⟩, Or.inl ⟨hx, t2⟩⟩, Or.inl ⟨hy, t3⟩, Or.inl ⟨hy, t4⟩⟩
  · rw [hP] at w1 w2 w3 w4
    refine ⟨⟨h1, Or.inr ⟨x1, w1.1, (aB_t 48).mpr ⟨v1, w1.2, s1⟩, fun j hj => aB_f.mpr (fun y hy => ?_), t1⟩, Or.inr ⟨x2, w2.1, (aB_t 48).mpr ⟨v2, w2.2, s2⟩, fun j hj hN => aB_f.mpr (fun y hy => ?_), t2⟩⟩, Or.inr ⟨y3, w3.2, (aB_t 64).mpr ⟨v3, w3.1, s3⟩, fun j hj => aB_f.mpr (fun x hx => ?_), t3⟩, Or.inr ⟨y4, w4.2, (aB_t 64).mpr ⟨v4, w4.1, s4⟩, fun j hj hN => aB_f.mpr (fun x hx => ?_), t4⟩⟩
    · cases z : q_sw ar L j y with
      | false => rfl
      | true => have := hb j y ((hP j y).mpr ⟨by omega, hy⟩) z; omega
    · cases z : q_sw ar L j y with
      | false => rfl
      | true => have := hb j y ((hP j y).mpr ⟨hN, hy⟩) z; omega
    · show q_sw ar L x j = false
      cases z : q_sw ar L x j with
      | false => rfl
      | true => have := hb x j ((hP x j).mpr ⟨hx, by omega⟩) z; omega
    · show q_sw ar L x j = false
      cases z : q_sw ar L x j with
      | false => rfl
      | true => have := hb x j ((hP x j).mpr ⟨hx, hN⟩) z; omega
