/-! ===== the lowest set bit ===== -/
theorem low_dvd {x t : Nat} (hl : ∀ i, i < t → x.testBit i = false) : x % 2 ^ t = 0 := by
  apply Nat.eq_of_testBit_eq
  intro i
  rw [Nat.testBit_mod_two_pow, Nat.zero_testBit]
  by_cases hi : i < t
  · rw [hl i hi, Bool.and_false]
  · rw [decide_eq_false hi, Bool.false_and]
theorem low_form {x t : Nat} (ht : x.testBit t = true) (hl : ∀ i, i < t → x.testBit i = false) : ∃ m, x = 2 ^ t * (2 * m + 1) := by
  have h1 := low_dvd hl
  have h2 : x = 2 ^ t * (x / 2 ^ t) := by
    have := Nat.div_add_mod x (2 ^ t)
    omega
  have h3 : (x / 2 ^ t).testBit 0 = true := by rw [Nat.testBit_div_two_pow, Nat.zero_add]; exact ht
  rw [Nat.testBit_zero] at h3
  have h4 : x / 2 ^ t % 2 = 1 := by simpa using h3
  refine ⟨x / 2 ^ t / 2, ?_⟩
  rw [show 2 * (x / 2 ^ t / 2) + 1 = x / 2 ^ t by omega]
  exact h2
theorem low_pred {t m i : Nat} : (2 ^ t * (2 * m + 1) - 1).testBit i = if i < t then true else if i = t then false else (2 ^ t * (2 * m + 1)).testBit i := by
  have hp : 0 < 2 ^ t := Nat.two_pow_pos t
  have e : 2 ^ t * (2 * m + 1) - 1 = 2 ^ t * (2 * m) + (2 ^ t - 1) := by rw [Nat.mul_add, Nat.mul_one]; omega
  have e2 : 2 ^ t * (2 * m + 1) = 2 ^ t * (2 * m + 1) + 0 := rfl
  rw [e, Nat.testBit_two_pow_mul_add _ (by omega)]
  by_cases h1 : i < t
  · rw [if_pos h1, if_pos h1, Nat.testBit_two_pow_sub_one, decide_eq_true h1]
  · rw [if_neg h1, if_neg h1]
    by_cases h2 : i = t
    · rw [if_pos h2, h2, Nat.sub_self, Nat.testBit_zero]
      simp
    · rw [if_neg h2, e2, Nat.testBit_two_pow_mul_add _ hp, if_neg h1]
      obtain ⟨j, hj⟩ : ∃ j, i - t = j + 1 := ⟨i - t - 1, by omega⟩
      rw [hj, Nat.testBit_succ, Nat.testBit_succ]
      congr 1
      omega
theorem ntz_and {x t n : Nat} (hx : x < 2 ^ n) (ht : x.testBit t = true) (hl : ∀ i, i < t → x.testBit i = false) : (2 ^ n - 1 - x) &&& (x - 1) = 2 ^ t - 1 := by
  obtain ⟨m, hm⟩ := low_form ht hl
  have htn : t < n := by
    rcases Nat.lt_or_ge t n with q | q
    · exact q
    · rw [Nat.testBit_lt_two_pow (Nat.lt_of_lt_of_le hx (Nat.pow_le_pow_right (by decide) q))] at ht; cases ht
  apply Nat.eq_of_testBit_eq
  intro i
  rw [Nat.testBit_and, show 2 ^ n - 1 - x = 2 ^ n - (x + 1) by omega, Nat.testBit_two_pow_sub_succ hx, Nat.testBit_two_pow_sub_one]
  have hp := low_pred (t := t) (m := m) (i := i)
  rw [← hm] at hp
  rw [hp]
  by_cases h1 : i < t
  · rw [if_pos h1, hl i h1, decide_eq_true h1, decide_eq_true (by omega : i < n)]; rfl
  · rw [if_neg h1, decide_eq_false h1]
    by_cases h2 : i = t
    · rw [if_pos h2, Bool.and_false]
    · rw [if_neg h2]
      cases x.testBit i <;> simp
