/-! ===== bits of longs, counted (plain numbers) ===== -/
theorem land_split {a b m k : Nat} (ha : a < 256) (hm : m < 256) : (a + 256 * b) &&& (m + 256 * k) = (a &&& m) + 256 * (b &&& k) := by
  have e : ∀ x y : Nat, x < 256 → x + 256 * y = 2 ^ 8 * y + x := fun x y _ => by omega
  have hand : a &&& m < 256 := Nat.lt_of_le_of_lt Nat.and_le_left ha
  rw [e a b ha, e m k hm, e _ _ hand]
  apply Nat.eq_of_testBit_eq
  intro i
  rw [Nat.testBit_and, Nat.testBit_two_pow_mul_add _ (by omega), Nat.testBit_two_pow_mul_add _ (by omega), Nat.testBit_two_pow_mul_add _ (by omega)]
  by_cases hi : i < 8
  · rw [if_pos hi, if_pos hi, if_pos hi, Nat.testBit_and]
  · rw [if_neg hi, if_neg hi, if_neg hi, Nat.testBit_and]
def mkN (c : Nat) : Nat → Nat
  | 0 => 0
  | k + 1 => c + 256 * mkN c k
def bc1 (k v : Nat) : Nat := v - ((v / 2) &&& mkN 85 k)
def bc2 (k v : Nat) : Nat := (v &&& mkN 51 k) + ((v / 4) &&& mkN 51 k)
def bc3 (k v : Nat) : Nat := (v + v / 16) &&& mkN 15 k
def pop8 (a : Nat) : Nat := bc3 1 (bc2 1 (bc1 1 a))
theorem b_1 : ∀ a, a < 256 → ∀ t, t < 2 → (a / 2 + 128 * t) &&& 85 = (a / 2) &&& 85 := by decide +kernel
theorem b_2 : ∀ a, a < 256 → ∀ t, t < 4 → (a / 4 + 64 * t) &&& 51 = (a / 4) &&& 51 := by decide +kernel
theorem b_3 : ∀ a, a < 256 → bc2 1 (bc1 1 a) < 256 ∧ bc2 1 (bc1 1 a) % 16 ≤ 4 ∧ bc2 1 (bc1 1 a) / 16 ≤ 4 ∧ bc1 1 a < 256 ∧ pop8 a ≤ 8 := by decide +kernel
theorem bc1_s {k a b : Nat} (ha : a < 256) : bc1 (k + 1) (a + 256 * b) = bc1 1 a + 256 * bc1 k b := by
  show a + 256 * b - ((a + 256 * b) / 2 &&& (85 + 256 * mkN 85 k)) = a - (a / 2 &&& 85) + 256 * (b - (b / 2 &&& mkN 85 k))
  have h1 : (a + 256 * b) / 2 = (a / 2 + 128 * (b % 2)) + 256 * (b / 2) := by omega
  have h3 : (a / 2) &&& 85 ≤ a / 2 := Nat.and_le_left
  have h4 : (b / 2) &&& mkN 85 k ≤ b / 2 := Nat.and_le_left
  rw [h1, land_split (by omega) (by decide), b_1 a ha _ (by omega)]
  omega
theorem bc2_s {k a b : Nat} (ha : a < 256) : bc2 (k + 1) (a + 256 * b) = bc2 1 a + 256 * bc2 k b := by
  show ((a + 256 * b) &&& (51 + 256 * mkN 51 k)) + ((a + 256 * b) / 4 &&& (51 + 256 * mkN 51 k)) = (a &&& 51) + (a / 4 &&& 51) + 256 * ((b &&& mkN 51 k) + (b / 4 &&& mkN 51 k))
  have h1 : (a + 256 * b) / 4 = (a / 4 + 64 * (b % 4)) + 256 * (b / 4) := by omega
  rw [h1, land_split ha (by decide), land_split (by omega) (by decide), b_2 a ha _ (by omega)]
  omega
theorem and15 (x : Nat) : x &&& 15 = x % 16 := Nat.and_two_pow_sub_one_eq_mod x 4
theorem b_4 (p : Nat) (hp : p < 256) (h1 : p % 16 ≤ 4) (h2 : p / 16 ≤ 4) (q : Nat) (_ : q < 16) (hq : q ≤ 4) : p + p / 16 + 16 * q < 256 ∧ (p + p / 16 + 16 * q) &&& 15 = (p + p / 16) &&& 15 := by
  rw [and15, and15]
  omega
theorem bc3_s {k a b : Nat} (ha : a < 256) (h1 : a % 16 ≤ 4) (h2 : a / 16 ≤ 4) (hb : b % 16 ≤ 4) : bc3 (k + 1) (a + 256 * b) = bc3 1 a + 256 * bc3 k b := by
  show (a + 256 * b + (a + 256 * b) / 16) &&& (15 + 256 * mkN 15 k) = ((a + a / 16) &&& 15) + 256 * ((b + b / 16) &&& mkN 15 k)
  obtain ⟨e1, e2⟩ := b_4 a ha h1 h2 (b % 16) (by omega) hb
  have h3 : a + 256 * b + (a + 256 * b) / 16 = (a + a / 16 + 16 * (b % 16)) + 256 * (b + b / 16) := by omega
  rw [h3, land_split e1 (by decide), e2]
/-- the sum of bytes, after the three steps -/
def popB : Nat → Nat → Nat
  | 0, _ => 0
  | k + 1, v => pop8 (v % 256) + 256 * popB k (v / 256)
theorem bc12_low : ∀ (k v : Nat), 0 < k → bc2 k (bc1 k v) % 16 ≤ 4
  | k + 1, v, _ => by
    have hv : v = v % 256 + 256 * (v / 256) := by omega
    have hlt : v % 256 < 256 := Nat.mod_lt _ (by decide)
    obtain ⟨q1, q2, q3, q4, q5⟩ := b_3 (v % 256) hlt
    rw [hv, bc1_s hlt, bc2_s q4]
    omega
theorem bc_all : ∀ (k v : Nat), v < 256 ^ k → bc3 k (bc2 k (bc1 k v)) = popB k v
  | 0, v, hv => by
    have : v = 0 := by omega
    subst this
    rfl
  | k + 1, v, hv => by
    have hvv : v = v % 256 + 256 * (v / 256) := by omega
    have hlt : v % 256 < 256 := Nat.mod_lt _ (by decide)
    obtain ⟨q1, q2, q3, q4, q5⟩ := b_3 (v % 256) hlt
    have hd : v / 256 < 256 ^ k := by
      rw [Nat.div_lt_iff_lt_mul (by decide)]
      rw [Nat.pow_succ] at hv
      exact hv
    have hlow : bc2 k (bc1 k (v / 256)) % 16 ≤ 4 := by
      cases k with
      | zero =>
        have : v / 256 = 0 := by omega
        rw [this]; decide
      | succ k => exact bc12_low (k + 1) _ (by omega)
    have ih := bc_all k (v / 256) hd
    have e : bc3 (k + 1) (bc2 (k + 1) (bc1 (k + 1) v)) = bc3 (k + 1) (bc2 (k + 1) (bc1 (k + 1) (v % 256 + 256 * (v / 256)))) := by rw [← hvv]
    rw [e, bc1_s hlt, bc2_s q4, bc3_s q1 q2 q3 hlow, ih]
    rfl
def popS : Nat → Nat → Nat
  | 0, _ => 0
  | k + 1, v => pop8 (v % 256) + popS k (v / 256)
/-- set bits below n -/
def cntN (v : Nat) : Nat → Nat
  | 0 => 0
  | n + 1 => cntN v n + (if v.testBit n then 1 else 0)
theorem cntN_shift (v : Nat) (m : Nat) : ∀ n, cntN v (m + n) = cntN v m + cntN (v / 2 ^ m) n
  | 0 => rfl
  | n + 1 => by
    rw [show m + (n + 1) = (m + n) + 1 from rfl, cntN, cntN_shift v m n, cntN, Nat.testBit_div_two_pow, Nat.add_comm n m]
    omega
theorem cntN_mod {v n m : Nat} (h : n ≤ m) : cntN (v % 2 ^ m) n = cntN v n := by
  induction n with
  | zero => rfl
  | succ n ih => rw [cntN, cntN, ih (by omega), Nat.testBit_mod_two_pow, decide_eq_true (by omega), Bool.true_and]
theorem b_5 : ∀ a, a < 256 → pop8 a = cntN a 8 := by decide +kernel
theorem popS_cnt : ∀ (k v : Nat), popS k v = cntN v (8 * k)
  | 0, v => rfl
  | k + 1, v => by
    rw [popS, popS_cnt k, b_5 _ (Nat.mod_lt _ (by decide)), show 8 * (k + 1) = 8 + 8 * k by omega, cntN_shift]
    rw [show (256 : Nat) = 2 ^ 8 from rfl, cntN_mod (Nat.le_refl _)]
theorem p_1 {y p a : Nat} (h : y = p + 256 * a) (hp : p ≤ 8) : y / 256 = a := by omega
theorem p_2 {z p q a : Nat} (h : z = p + 256 * q + 65536 * a) (hp : p ≤ 16) (hq : q ≤ 16) : z / 65536 = a := by omega
theorem p_3 {z p a : Nat} (h : z = p + 4294967296 * a) (hp : p < 4294967296) : z / 4294967296 = a := by omega
theorem p_4 {z p a : Nat} (h : z = p + 256 * a) (hp : p ≤ 64) : z % 128 = p := by omega
theorem pop_end {y z1 z2 z3 p0 p1 p2 p3 p4 p5 p6 p7 a1 a2 a3 a4 a5 a6 : Nat} (e0 : y = p0 + 256 * a1) (e1 : a1 = p1 + 256 * a2) (e2 : a2 = p2 + 256 * a3) (e3 : a3 = p3 + 256 * a4) (e4 : a4 = p4 + 256 * a5) (e5 : a5 = p5 + 256 * a6) (e6 : a6 = p6 + 256 * p7) (q0 : p0 ≤ 8) (q1 : p1 ≤ 8) (q2 : p2 ≤ 8) (q3 : p3 ≤ 8) (q4 : p4 ≤ 8) (q5 : p5 ≤ 8) (q6 : p6 ≤ 8) (q7 : p7 ≤ 8) (h1 : z1 = y + y / 256) (h2 : z2 = z1 + z1 / 65536) (h3 : z3 = z2 + z2 / 4294967296) : z3 % 128 = p0 + (p1 + (p2 + (p3 + (p4 + (p5 + (p6 + p7)))))) := by
  have d1 : y / 256 = a1 := p_1 e0 q0
  rw [d1] at h1
  have d2 : z1 / 65536 = a2 + a3 := p_2 (p := p0 + p1) (q := p1 + p2) (by rw [h1, e0]; rw [e1]; rw [e2]; omega) (by omega) (by omega)
  rw [d2] at h2
  have k0 : y = (p0 + 256 * p1 + 65536 * p2 + 16777216 * p3) + 4294967296 * a4 := by rw [e0, e1, e2, e3]; omega
  have k1 : a1 = (p1 + 256 * p2 + 65536 * p3 + 16777216 * p4) + 4294967296 * a5 := by rw [e1, e2, e3, e4]; omega
  have k2 : a2 = (p2 + 256 * p3 + 65536 * p4 + 16777216 * p5) + 4294967296 * a6 := by rw [e2, e3, e4, e5]; omega
  have k3 : a3 = (p3 + 256 * p4 + 65536 * p5 + 16777216 * p6) + 4294967296 * p7 := by rw [e3, e4, e5, e6]; omega
  have d3 : z2 / 4294967296 = a4 + a5 + a6 + p7 := p_3 (p := (p0 + 256 * p1 + 65536 * p2 + 16777216 * p3) + (p1 + 256 * p2 + 65536 * p3 + 16777216 * p4) + (p2 + 256 * p3 + 65536 * p4 + 16777216 * p5) + (p3 + 256 * p4 + 65536 * p5 + 16777216 * p6)) (by rw [h2, h1, k0, k1, k2, k3]; omega) (by omega)
  rw [d3] at h3
  exact p_4 (a := a1 + a2 + a3 + a4 + a5 + a6 + p7) (by rw [h3, h2, h1]; omega) (by omega)
