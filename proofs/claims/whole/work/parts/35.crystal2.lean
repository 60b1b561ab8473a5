/-- how many codes from lo on, 5 ^ k of them, are of class c -/
def crQ (T c : Nat) : Nat → Nat → Nat
  | 0, lo => if crC T lo = c then 1 else 0
  | k + 1, lo => crQ T c k lo + (crQ T c k (lo + 5 ^ k) + (crQ T c k (lo + 2 * 5 ^ k) + (crQ T c k (lo + 3 * 5 ^ k) + crQ T c k (lo + 4 * 5 ^ k))))
theorem crQ4_0 : ∀ c, c < 10 → crQ crT4 (0 + c) 4 0 ≤ 500 := by decide +kernel
theorem crQ5_0 : ∀ c, c < 15 → crQ crT5 (0 + c) 5 0 ≤ 500 := by decide +kernel
theorem crQ5_15 : ∀ c, c < 11 → crQ crT5 (15 + c) 5 0 ≤ 500 := by decide +kernel
theorem crQ6_0 : ∀ c, c < 15 → crQ crT6 (0 + c) 6 0 ≤ 500 := by decide +kernel
theorem crQ6_15 : ∀ c, c < 15 → crQ crT6 (15 + c) 6 0 ≤ 500 := by decide +kernel
theorem crQ6_30 : ∀ c, c < 15 → crQ crT6 (30 + c) 6 0 ≤ 500 := by decide +kernel
theorem crQ6_45 : ∀ c, c < 15 → crQ crT6 (45 + c) 6 0 ≤ 500 := by decide +kernel
theorem crQ6_60 : ∀ c, c < 15 → crQ crT6 (60 + c) 6 0 ≤ 500 := by decide +kernel
