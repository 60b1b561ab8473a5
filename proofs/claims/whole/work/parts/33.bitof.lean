/-! ===== Long.numberOfTrailingZeros; which bit is the k-th ===== -/
theorem cnt_next {v : Nat} : ∀ (k p : Nat), p + k = 64 → cntN v p < cntN v 64 → ∃ t, p ≤ t ∧ t < 64 ∧ v.testBit t = true ∧ (∀ i, p ≤ i → i < t → v.testBit i = false) ∧ cntN v t = cntN v p
  | 0, p, hp, h => by
    rw [show p = 64 by omega] at h
    exact absurd h (Nat.lt_irrefl _)
  | k + 1, p, hp, h => by
    cases hb : v.testBit p with
    | true => exact ⟨p, Nat.le_refl _, by omega, hb, fun i a b => by omega, rfl⟩
    | false =>
      have hc : cntN v (p + 1) = cntN v p := by rw [cntN, hb]; rfl
      obtain ⟨t, h1, h2, h3, h4, h5⟩ := cnt_next k (p + 1) (by omega) (by rw [hc]; exact h)
      refine ⟨t, by omega, h2, h3, fun i a b => ?_, by rw [h5, hc]⟩
      by_cases e : i = p
      · rw [e]; exact hb
      · exact h4 i (by omega) b
theorem clr_low {r t i : Nat} (ht : r.testBit t = true) (hl : ∀ i, i < t → r.testBit i = false) : (r &&& (r - 1)).testBit i = (r.testBit i && decide (t < i)) := by
  obtain ⟨m, hm⟩ := low_form ht hl
  have hp := low_pred (t := t) (m := m) (i := i)
  rw [← hm] at hp
  rw [Nat.testBit_and, hp]
  by_cases h1 : i < t
  · rw [if_pos h1, hl i h1, Bool.false_and, Bool.false_and]
  · rw [if_neg h1]
    by_cases h2 : i = t
    · rw [if_pos h2, h2, Bool.and_false, decide_eq_false (Nat.lt_irrefl _), Bool.and_false]
    · rw [if_neg h2, decide_eq_true (by omega), Bool.and_true, Bool.and_self]
section C33
variable {Γ : gM} {d : Nat} {h : gH} {Q : Option Value → gH → Prop}
set_option maxRecDepth 100000 in
set_option maxHeartbeats 4000000 in
theorem c_ntzL {x t : Nat} (hd : 1 ≤ d) (hx : x < 2 ^ 64) (ht : x.testBit t = true) (hl : ∀ i, i < t → x.testBit i = false) (hQ : Q (some (.int (nI t))) h) : V Γ mJ13_numberOfTrailingZeros_95d88 d 124 124 h 0 [some (.long (lN x)), none, none] [] Q := by
  have e1 : (lN x).toInt32 = nI (x % 2 ^ 32) := by
    rw [lN_i]
    apply Int32.toBitVec_inj.1
    show BitVec.ofNat 32 x = BitVec.ofNat 32 (x % 2 ^ 32)
    apply BitVec.eq_of_toNat_eq
    rw [BitVec.toNat_ofNat, BitVec.toNat_ofNat, Nat.mod_mod]
  have m1 : x % 2 ^ 32 < 2 ^ 32 := Nat.mod_lt _ (by decide)
  have m2 : x / 2 ^ 32 < 2 ^ 32 := by omega
  have z1 : nI (x % 2 ^ 32) = 0 ↔ x % 2 ^ 32 = 0 := by
    constructor
    · intro q
      have q2 := congrArg (fun z : Int32 => z.toBitVec.toNat) q
      have q3 : (nI (x % 2 ^ 32)).toBitVec.toNat = x % 2 ^ 32 := pk_tn m1
      rw [← q3]; exact q2
    · intro q; rw [q]; rfl
  have ht64 : t < 64 := by
    rcases Nat.lt_or_ge t 64 with q | q
    · exact q
    · rw [Nat.testBit_lt_two_pow (Nat.lt_of_lt_of_le hx (Nat.pow_le_pow_right (by decide) q))] at ht; cases ht
  have lowb : ∀ i, i < 32 → (x % 2 ^ 32).testBit i = x.testBit i := fun i hi => by rw [Nat.testBit_mod_two_pow, decide_eq_true hi, Bool.true_and]
  refine V_lloadn0 dJ13_numberOfTrailingZeros_95d88_0 ?_
  refine V_l2i dJ13_numberOfTrailingZeros_95d88_1 rfl ?_
  refine V_topI e1 ?_
  refine V_istoren2 dJ13_numberOfTrailingZeros_95d88_2 (by decide) rfl ?_
  refine V_iloadn2 dJ13_numberOfTrailingZeros_95d88_3 ?_
  refine V_if_ne (tgt := 21) dJ13_numberOfTrailingZeros_95d88_4 (by decide) (fun c4 => ?_) (fun c4 => ?_)
  · skip
    have c4 : ¬ x % 2 ^ 32 = 0 := fun q => c4 (z1.mpr q)
    have t32 : t < 32 := by
      rcases Nat.lt_or_ge t 32 with q | q
      · exact q
      · exact absurd (low_dvd (t := 32) (fun i hi => hl i (by omega))) c4
    refine V_iloadn2 dJ13_numberOfTrailingZeros_95d88_21 ?_
    refine V_callS1 (μ' := mJ6_numberOfTrailingZeros_0f7a4) dJ13_numberOfTrailingZeros_95d88_22 okJ6_numberOfTrailingZeros_0f7a4 lJ13_311 (Nat.le_of_ble_eq_true rfl) (Nat.le_of_ble_eq_true rfl) (by omega) ?_
    refine c_ntzI m1 (t := t) (by rw [lowb t t32]; exact ht) (fun i hi => by rw [lowb i (by omega)]; exact hl i hi) ?_
    dsimp only [gPush]
    refine V_iret dJ13_numberOfTrailingZeros_95d88_25 rfl rfl ?_
    exact hQ
  have c4 : x % 2 ^ 32 = 0 := z1.mp c4
  have t32 : 32 ≤ t := by
    rcases Nat.lt_or_ge t 32 with q | q
    · have q2 := lowb t q
      rw [c4, Nat.zero_testBit, ht] at q2
      cases q2
    · exact q
  refine V_bipush (v := nI 32) dJ13_numberOfTrailingZeros_95d88_7 (by decide) ?_
  refine V_lloadn0 dJ13_numberOfTrailingZeros_95d88_9 ?_
  refine V_bipush (v := nI 32) dJ13_numberOfTrailingZeros_95d88_10 (by decide) ?_
  refine V_lushr dJ13_numberOfTrailingZeros_95d88_12 (wb_shr hx (by decide)) ?_
  refine V_l2i dJ13_numberOfTrailingZeros_95d88_13 (lN_i _) ?_
  refine V_callS1 (μ' := mJ6_numberOfTrailingZeros_0f7a4) dJ13_numberOfTrailingZeros_95d88_14 okJ6_numberOfTrailingZeros_0f7a4 lJ13_311 (Nat.le_of_ble_eq_true rfl) (Nat.le_of_ble_eq_true rfl) (by omega) ?_
  refine c_ntzI m2 (t := t - 32) (by rw [Nat.testBit_div_two_pow, show t - 32 + 32 = t by omega]; exact ht) (fun i hi => by rw [Nat.testBit_div_two_pow]; exact hl _ (by omega)) ?_
  dsimp only [gPush]
  first | refine U_iadd dJ13_numberOfTrailingZeros_95d88_17 (by with_reducible rfl) (by with_reducible rfl) ?_ | refine V_iadd dJ13_numberOfTrailingZeros_95d88_17 ?_
  refine V_goto (tgt := 25) dJ13_numberOfTrailingZeros_95d88_18 (by decide) ?_
  rw [show 32 + (t - 32) = t by omega]
  refine V_iret dJ13_numberOfTrailingZeros_95d88_25 rfl rfl ?_
  exact hQ
set_option maxRecDepth 100000 in
set_option maxHeartbeats 4000000 in
theorem c_bitOf {v a : Nat} (hd : 2 ≤ d) (hv : v < 2 ^ 64) (ha : a < cntN v 64) (ha64 : a < 64) (hQ : ∀ t, t < 64 → v.testBit t = true → cntN v t = a → Q (some (.int (nI t))) h) : V Γ mX0_bitOf d 124 124 h 0 [some (.long (lN v)), none, some (.int (nI a)), none, none, none] [] Q := by
  have loop : ∀ n k p r, k + n = a → p ≤ 64 → cntN v p = k → r < 2 ^ 64 → (∀ i, r.testBit i = (v.testBit i && decide (p ≤ i))) → V Γ mX0_bitOf d 124 124 h 5 [some (.long (lN v)), none, some (.int (nI a)), some (.long (lN r)), none, some (.int (nI k))] [] Q := by
    intro n
    induction n with
    | zero =>
      intro k p r hk hp hc hr hb
      obtain ⟨t, h1, h2, h3, h4, h5⟩ := cnt_next (v := v) (64 - p) p (by omega) (by omega)
      refine V_iloadw5 dX0_bitOf_5 ?_
      refine V_iloadn2 dX0_bitOf_7 ?_
      first | refine U_icmp_ge (tgt := 23) dX0_bitOf_8 (by decide) (by with_reducible rfl) (by with_reducible rfl) (by omega) (by omega) (fun c8 => ?_) (fun c8 => ?_) | refine V_icmp_ge (tgt := 23) dX0_bitOf_8 (by decide) (fun c8 => ?_) (fun c8 => ?_)
      · skip
        refine V_lloadn3 dX0_bitOf_23 ?_
        refine V_callS1 (μ' := mJ13_numberOfTrailingZeros_95d88) dX0_bitOf_24 okJ13_numberOfTrailingZeros_95d88 lX0_99 (Nat.le_of_ble_eq_true rfl) (Nat.le_of_ble_eq_true rfl) (by omega) ?_
        refine c_ntzL (by omega) hr (t := t) (by rw [hb, h3, decide_eq_true h1]; rfl) (fun i hi => ?_) ?_
        · rw [hb]
          rcases Nat.lt_or_ge i p with q | q
          · rw [decide_eq_false (by omega), Bool.and_false]
          · rw [h4 i q hi, Bool.false_and]
        dsimp only [gPush]
        refine V_iret dX0_bitOf_27 rfl rfl ?_
        exact hQ t h2 h3 (by omega)
      · skip
        omega
    | succ n ih =>
      intro k p r hk hp hc hr hb
      obtain ⟨t, h1, h2, h3, h4, h5⟩ := cnt_next (v := v) (64 - p) p (by omega) (by omega)
      have hrt : r.testBit t = true := by rw [hb, h3, decide_eq_true h1]; rfl
      have hrl : ∀ i, i < t → r.testBit i = false := fun i hi => by
        rw [hb]
        rcases Nat.lt_or_ge i p with q | q
        · rw [decide_eq_false (by omega), Bool.and_false]
        · rw [h4 i q hi, Bool.false_and]
      have hr1 : 1 ≤ r := by
        rcases Nat.eq_zero_or_pos r with q | q
        · rw [q, Nat.zero_testBit] at hrt; cases hrt
        · exact q
      have e1 : lN r &&& (lN r - lN 1) = lN (r &&& (r - 1)) := by rw [lN_sub hr1, wb_and hr (by omega)]
      refine V_iloadw5 dX0_bitOf_5 ?_
      refine V_iloadn2 dX0_bitOf_7 ?_
      first | refine U_icmp_ge (tgt := 23) dX0_bitOf_8 (by decide) (by with_reducible rfl) (by with_reducible rfl) (by omega) (by omega) (fun c8 => ?_) (fun c8 => ?_) | refine V_icmp_ge (tgt := 23) dX0_bitOf_8 (by decide) (fun c8 => ?_) (fun c8 => ?_)
      · skip
        omega
      · skip
        refine V_lloadn3 dX0_bitOf_11 ?_
        refine V_lloadn3 dX0_bitOf_12 ?_
        refine V_lconst (v := lN 1) dX0_bitOf_13 (by decide) ?_
        refine V_lsub dX0_bitOf_14 ?_
        refine V_land dX0_bitOf_15 ?_
        refine V_topL e1 ?_
        refine V_lstoren3 dX0_bitOf_16 (by decide) rfl ?_
        refine V_iinc5 dX0_bitOf_17 (by first | exact ginc1 _ | rfl) (by decide) rfl ?_
        refine V_goto (tgt := 5) dX0_bitOf_20 (by decide) ?_
        refine ih (k + 1) (t + 1) (r &&& (r - 1)) (by omega) (by omega) ?_ (Nat.lt_of_le_of_lt Nat.and_le_left hr) (fun i => ?_)
        · rw [cntN, h3, h5, hc]; rfl
        · rw [clr_low hrt hrl, hb]
          by_cases q : t < i
          · rw [decide_eq_true q, Bool.and_true, decide_eq_true (by omega : p ≤ i), decide_eq_true (by omega : t + 1 ≤ i)]
          · rw [decide_eq_false q, Bool.and_false, decide_eq_false (by omega : ¬ t + 1 ≤ i), Bool.and_false]
  refine V_lloadn0 dX0_bitOf_0 ?_
  refine V_lstoren3 dX0_bitOf_1 (by decide) rfl ?_
  refine V_iconst (v := nI 0) dX0_bitOf_2 (by decide) ?_
  refine V_istorew5 dX0_bitOf_3 (by decide) rfl ?_
  exact loop a 0 0 v (by omega) (by omega) rfl hv (fun i => by rw [decide_eq_true (Nat.zero_le _), Bool.and_true])
end C33
