/-! ===== counting the bits of a long, byte by byte ===== -/
def rp (c : Nat) : Nat → Nat
  | 0 => 0
  | k + 1 => c + 256 * rp c k
def cn (n : Nat) : Nat → Nat
  | 0 => 0
  | k + 1 => n % 2 + cn (n / 2) k
theorem and_b {a p x y : Nat} (ha : a < 256) (hp : p < 256) : (a + 256 * x) &&& (p + 256 * y) = (a &&& p) + 256 * (x &&& y) := by
  have h8 : (256 : Nat) = 2 ^ 8 := rfl
  have hap : (a &&& p) < 2 ^ 8 := Nat.and_lt_two_pow a hp
  refine Nat.eq_of_testBit_eq (fun i => ?_)
  rw [Nat.testBit_and, Nat.add_comm a, Nat.add_comm p, Nat.add_comm (a &&& p), h8, Nat.testBit_two_pow_mul_add x ha, Nat.testBit_two_pow_mul_add y hp, Nat.testBit_two_pow_mul_add (x &&& y) hap, Nat.testBit_and, Nat.testBit_and]
  by_cases hi : i < 8
  · rw [if_pos hi, if_pos hi, if_pos hi]
  · rw [if_neg hi, if_neg hi, if_neg hi]
def z1 (n k : Nat) : Nat := n - ((n / 2) &&& rp 85 k)
def z2 (n k : Nat) : Nat := (n &&& rp 51 k) + ((n / 4) &&& rp 51 k)
def z3 (n k : Nat) : Nat := (n + n / 16) &&& rp 15 k
def t1 (b : Nat) : Nat := b - ((b / 2) &&& 85)
def t2 (c : Nat) : Nat := (c &&& 51) + ((c / 4) &&& 51)
def t3 (c : Nat) : Nat := (c + c / 16) &&& 15
theorem d1_z : ∀ b, b < 256 → ∀ r, r < 2 → (b / 2 + 128 * r) &&& 85 = (b / 2) &&& 85 := by decide +kernel
theorem d2_z : ∀ b, b < 256 → ∀ r, r < 4 → (b / 4 + 64 * r) &&& 51 = (b / 4) &&& 51 := by decide +kernel
theorem d3_z : ∀ b, b < 256 → ∀ r, r < 5 → (b + b / 16 + 16 * r) &&& 15 = (b + b / 16) &&& 15 := by decide +kernel
theorem d4_z : ∀ b, b < 256 → t1 b < 256 ∧ t2 (t1 b) ≤ 68 ∧ t2 (t1 b) % 16 ≤ 4 ∧ t3 (t2 (t1 b)) = cn b 8 ∧ cn b 8 ≤ 8 := by decide +kernel
theorem z1_c {b m k : Nat} (hb : b < 256) : z1 (b + 256 * m) (k + 1) = t1 b + 256 * z1 m k := by
  have e : (b + 256 * m) / 2 = (b / 2 + 128 * (m % 2)) + 256 * (m / 2) := by omega
  unfold z1 t1
  rw [rp, e, and_b (by omega) (by decide), d1_z b hb (m % 2) (Nat.mod_lt _ (by decide))]
  have l1 : (b / 2) &&& 85 ≤ b / 2 := Nat.and_le_left
  have l2 : (m / 2) &&& rp 85 k ≤ m / 2 := Nat.and_le_left
  omega
theorem z2_c {b m k : Nat} (hb : b < 256) : z2 (b + 256 * m) (k + 1) = t2 b + 256 * z2 m k := by
  have e : (b + 256 * m) / 4 = (b / 4 + 64 * (m % 4)) + 256 * (m / 4) := by omega
  unfold z2 t2
  rw [rp, e, and_b hb (by decide), and_b (by omega) (by decide), d2_z b hb (m % 4) (Nat.mod_lt _ (by decide))]
  omega
theorem z3_c {b m k : Nat} (hb : b ≤ 68) (hm : m % 16 ≤ 4) : z3 (b + 256 * m) (k + 1) = t3 b + 256 * z3 m k := by
  have e : b + 256 * m + (b + 256 * m) / 16 = (b + b / 16 + 16 * (m % 16)) + 256 * (m + m / 16) := by omega
  unfold z3 t3
  rw [rp, e, and_b (by omega) (by decide), d3_z b (by omega) (m % 16) (by omega)]
def zS (n k : Nat) : Nat := z2 (z1 n k) k
def zT (n k : Nat) : Nat := z3 (zS n k) k
theorem zS_c {b m k : Nat} (hb : b < 256) : zS (b + 256 * m) (k + 1) = t2 (t1 b) + 256 * zS m k := by
  unfold zS
  rw [z1_c hb, z2_c (d4_z b hb).1]
theorem z_0 : zS 0 0 = 0 ∧ zT 0 0 = 0 := by decide
theorem zS_b : ∀ (k n : Nat), n < 256 ^ k → zS n k % 16 ≤ 4 ∧ 2 * zS n k < 256 ^ k
  | 0, n, h => by
    have e : n = 0 := by rw [Nat.pow_zero] at h; omega
    rw [e, z_0.1]
    decide
  | k + 1, n, h => by
    have e : n = n % 256 + 256 * (n / 256) := by omega
    rw [Nat.pow_succ] at h ⊢
    have hm : n / 256 < 256 ^ k := by omega
    obtain ⟨i1, i2⟩ := zS_b k (n / 256) hm
    have hb : n % 256 < 256 := Nat.mod_lt _ (by decide)
    obtain ⟨j1, j2, j3, -⟩ := d4_z (n % 256) hb
    rw [e, zS_c hb]
    omega
theorem zT_c {b m k : Nat} (hb : b < 256) (hm : m < 256 ^ k) : zT (b + 256 * m) (k + 1) = cn b 8 + 256 * zT m k := by
  unfold zT
  rw [zS_c hb, z3_c (d4_z b hb).2.1 (zS_b k m hm).1, (d4_z b hb).2.2.2.1]
def ds (v : Nat) : Nat → Nat
  | 0 => 0
  | k + 1 => v % 256 + ds (v / 256) k
def dg (v : Nat) : Nat → Prop
  | 0 => v = 0
  | k + 1 => v % 256 ≤ 8 ∧ dg (v / 256) k
theorem cn_8 (n j : Nat) : cn n (j + 8) = cn (n % 256) 8 + cn (n / 256) j := by
  have e : n / 2 / 2 / 2 / 2 / 2 / 2 / 2 / 2 = n / 256 := by omega
  simp only [cn]
  rw [e]
  omega
theorem zT_d : ∀ (k n : Nat), n < 256 ^ k → dg (zT n k) k ∧ ds (zT n k) k = cn n (8 * k)
  | 0, n, h => by
    have e : n = 0 := by rw [Nat.pow_zero] at h; omega
    rw [e, z_0.2]
    exact ⟨rfl, rfl⟩
  | k + 1, n, h => by
    have e : n = n % 256 + 256 * (n / 256) := by omega
    rw [Nat.pow_succ] at h
    have hm : n / 256 < 256 ^ k := by omega
    obtain ⟨i1, i2⟩ := zT_d k (n / 256) hm
    have hb : n % 256 < 256 := Nat.mod_lt _ (by decide)
    have h8 := (d4_z (n % 256) hb).2.2.2.2
    have ez : zT n (k + 1) = cn (n % 256) 8 + 256 * zT (n / 256) k := by
      have := zT_c (k := k) hb hm
      rw [← e] at this
      exact this
    have e1 : zT n (k + 1) % 256 = cn (n % 256) 8 := by omega
    have e2 : zT n (k + 1) / 256 = zT (n / 256) k := by omega
    refine ⟨⟨by rw [e1]; exact h8, by rw [e2]; exact i1⟩, ?_⟩
    show zT n (k + 1) % 256 + ds (zT n (k + 1) / 256) k = cn n (8 * k + 8)
    rw [e1, e2, i2]
    exact (cn_8 n (8 * k)).symm
def dH : List Nat → Nat
  | [] => 0
  | p :: t => p + 256 * dH t
theorem dH_div {p : Nat} {t : List Nat} (h : p < 256) : dH (p :: t) / 256 = dH t := by
  show (p + 256 * dH t) / 256 = dH t
  omega
theorem dH_lt : ∀ l : List Nat, (∀ p ∈ l, p < 256) → dH l < 256 ^ l.length
  | [], _ => by
    show 0 < 256 ^ 0
    decide
  | p :: t, h => by
    have ih := dH_lt t (fun q hq => h q (List.mem_cons_of_mem _ hq))
    have hp := h p List.mem_cons_self
    show p + 256 * dH t < 256 ^ (t.length + 1)
    rw [Nat.pow_succ]
    omega
theorem dg_H : ∀ (k v : Nat), dg v k → ∃ l : List Nat, l.length = k ∧ (∀ p ∈ l, p ≤ 8) ∧ v = dH l ∧ ds v k = l.sum
  | 0, v, h => ⟨[], rfl, fun p hp => absurd hp List.not_mem_nil, h, rfl⟩
  | k + 1, v, h => by
    obtain ⟨l, h1, h2, h3, h4⟩ := dg_H k (v / 256) h.2
    refine ⟨v % 256 :: l, by rw [List.length_cons, h1], fun p hp => ?_, ?_, ?_⟩
    · rcases List.mem_cons.mp hp with z | z
      · rw [z]; exact h.1
      · exact h2 p z
    · show v = v % 256 + 256 * dH l
      rw [← h3]
      omega
    · show v % 256 + ds (v / 256) k = (v % 256 :: l).sum
      rw [List.sum_cons, h4]
theorem z_fin {v : Nat} (h : dg v 8) : v + v / 256 < 2 ^ 64 ∧ (v + v / 256) + (v + v / 256) / 65536 < 2 ^ 64 ∧ (((v + v / 256) + (v + v / 256) / 65536) + ((v + v / 256) + (v + v / 256) / 65536) / 4294967296) % 128 = ds v 8 := by
  obtain ⟨l, h1, h2, h3, h4⟩ := dg_H 8 v h
  rw [h4]
  clear h4 h
  match l, h1, h2, h3 with
  | [p0, p1, p2, p3, p4, p5, p6, p7], _, h2, h3 =>
    simp only [List.mem_cons, List.not_mem_nil, or_false, forall_eq_or_imp, forall_eq] at h2
    obtain ⟨b0, b1, b2, b3, b4, b5, b6, b7⟩ := h2
    have e1 : v / 256 = dH [p1, p2, p3, p4, p5, p6, p7] := by rw [h3]; exact dH_div (by omega)
    have e2 : v + v / 256 = dH [p0 + p1, p1 + p2, p2 + p3, p3 + p4, p4 + p5, p5 + p6, p6 + p7, p7] := by
      rw [e1, h3]
      simp only [dH]
      omega
    rw [e2]
    have e3 : dH [p0 + p1, p1 + p2, p2 + p3, p3 + p4, p4 + p5, p5 + p6, p6 + p7, p7] / 65536 = dH [p2 + p3, p3 + p4, p4 + p5, p5 + p6, p6 + p7, p7] := by
      rw [show 65536 = 256 * 256 from rfl, ← Nat.div_div_eq_div_mul, dH_div (by omega), dH_div (by omega)]
    have e4 : dH [p0 + p1, p1 + p2, p2 + p3, p3 + p4, p4 + p5, p5 + p6, p6 + p7, p7] + dH [p2 + p3, p3 + p4, p4 + p5, p5 + p6, p6 + p7, p7] = dH [p0 + p1 + p2 + p3, p1 + p2 + p3 + p4, p2 + p3 + p4 + p5, p3 + p4 + p5 + p6, p4 + p5 + p6 + p7, p5 + p6 + p7, p6 + p7, p7] := by
      simp only [dH]
      omega
    rw [e3, e4]
    have e5 : dH [p0 + p1 + p2 + p3, p1 + p2 + p3 + p4, p2 + p3 + p4 + p5, p3 + p4 + p5 + p6, p4 + p5 + p6 + p7, p5 + p6 + p7, p6 + p7, p7] / 4294967296 = dH [p4 + p5 + p6 + p7, p5 + p6 + p7, p6 + p7, p7] := by
      rw [show 4294967296 = 256 * 256 * 256 * 256 from rfl, ← Nat.div_div_eq_div_mul, ← Nat.div_div_eq_div_mul, ← Nat.div_div_eq_div_mul, dH_div (by omega), dH_div (by omega), dH_div (by omega), dH_div (by omega)]
    have l1 := dH_lt [p0 + p1, p1 + p2, p2 + p3, p3 + p4, p4 + p5, p5 + p6, p6 + p7, p7] (fun p hp => by
      simp only [List.mem_cons, List.not_mem_nil, or_false] at hp
      omega)
    have l2 := dH_lt [p0 + p1 + p2 + p3, p1 + p2 + p3 + p4, p2 + p3 + p4 + p5, p3 + p4 + p5 + p6, p4 + p5 + p6 + p7, p5 + p6 + p7, p6 + p7, p7] (fun p hp => by
      simp only [List.mem_cons, List.not_mem_nil, or_false] at hp
      omega)
    have hp8 : (256 : Nat) ^ 8 = 2 ^ 64 := by decide +kernel
    refine ⟨by rw [← hp8]; exact l1, by rw [← hp8]; exact l2, ?_⟩
    rw [e5]
    show (p0 + p1 + p2 + p3 + 256 * dH [p1 + p2 + p3 + p4, p2 + p3 + p4 + p5, p3 + p4 + p5 + p6, p4 + p5 + p6 + p7, p5 + p6 + p7, p6 + p7, p7] + (p4 + p5 + p6 + p7 + 256 * dH [p5 + p6 + p7, p6 + p7, p7])) % 128 = _
    generalize dH [p1 + p2 + p3 + p4, p2 + p3 + p4 + p5, p3 + p4 + p5 + p6, p4 + p5 + p6 + p7, p5 + p6 + p7, p6 + p7, p7] = x1
    generalize dH [p5 + p6 + p7, p6 + p7, p7] = x2
    simp only [List.sum_cons, List.sum_nil]
    omega
/-- how many of the first k hold -/
def cB (f : Nat → Bool) : Nat → Nat
  | 0 => 0
  | k + 1 => cB f k + (if f k = true then 1 else 0)
theorem cB_lo (f : Nat → Bool) : ∀ k, cB f (k + 1) = (if f 0 = true then 1 else 0) + cB (fun i => f (i + 1)) k
  | 0 => Nat.zero_add _
  | k + 1 => by
    rw [cB, cB_lo f k, cB]
    omega
theorem cB_cn : ∀ (k n : Nat), cB (fun i => n.testBit i) k = cn n k
  | 0, _ => rfl
  | k + 1, n => by
    rw [cB_lo, cn, ← cB_cn k (n / 2)]
    have e : (fun i => n.testBit (i + 1)) = fun i => (n / 2).testBit i := funext fun i => Nat.testBit_succ n i
    rw [e]
    congr 1
    rw [Nat.testBit_zero]
    rcases Nat.mod_two_eq_zero_or_one n with z | z
    · simp [z]
    · simp [z]
theorem cB_ext {f g : Nat → Bool} : ∀ k, (∀ i, i < k → f i = g i) → cB f k = cB g k
  | 0, _ => rfl
  | k + 1, h => by
    rw [cB, cB, cB_ext k (fun i hi => h i (by omega)), h k (by omega)]
theorem cB_le (f : Nat → Bool) : ∀ k, cB f k ≤ k
  | 0 => Nat.le_refl _
  | k + 1 => by
    have := cB_le f k
    unfold cB
    split <;> omega
theorem bL_lN {n x : Nat} (hx : x < 64) : bL (lN n) x = n.testBit x := by
  unfold bL
  rw [wb_tb, BitVec.getLsbD_ofNat, decide_eq_true hx, Bool.true_and]
theorem cB_bL (n : Nat) : cB (bL (lN n)) 64 = cn n 64 := by
  rw [← cB_cn 64 n]
  exact cB_ext 64 (fun i hi => bL_lN hi)
theorem nI_127 {n : Nat} : nI n &&& 127 = nI (n % 128) := by
  rw [← Int32.toBitVec_inj, Int32.toBitVec_and]
  apply BitVec.eq_of_toNat_eq
  rw [BitVec.toNat_and]
  show (BitVec.ofNat 32 n).toNat &&& (2 ^ 7 - 1) = (BitVec.ofNat 32 (n % 128)).toNat
  rw [Nat.and_two_pow_sub_one_eq_mod, BitVec.toNat_ofNat, BitVec.toNat_ofNat]
  omega

