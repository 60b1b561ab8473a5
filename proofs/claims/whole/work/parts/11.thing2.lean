/-! ===== the class: things, further; small questions ===== -/
def inB (x : Int32) (n : Nat) : Bool := decide (0 ≤ x) && decide (x < nI n)
theorem inB_t {x : Int32} {n : Nat} (hn : n < 2 ^ 31) (h : inB x n = true) : ∃ s, s < n ∧ x = nI s := by
  simp only [inB, Bool.and_eq_true, decide_eq_true_eq] at h
  rcases pk_ix x hn with q | q | q
  · exact absurd h.1 (Int32.not_le.mpr q)
  · exact absurd h.2 (Int32.not_lt.mpr q)
  · exact q
theorem inB_nI {s n : Nat} (h : s < n) (hn : n < 2 ^ 31) : inB (nI s) n = true := by
  simp only [inB, Bool.and_eq_true, decide_eq_true_eq]
  exact ⟨nI_pos' (by omega), (nI_ltI (by omega) hn).mpr h⟩
/-- from a to b, both of them in -/
def inR (x : Int32) (a b : Nat) : Bool := decide (nI a ≤ x) && decide (x ≤ nI b)
theorem inR_t {x : Int32} {a b : Nat} (hb : b < 2 ^ 31 - 1) (ha : a ≤ b + 1) (h : inR x a b = true) : ∃ s, a ≤ s ∧ s ≤ b ∧ x = nI s := by
  simp only [inR, Bool.and_eq_true, decide_eq_true_eq] at h
  have h0 : ¬ x < 0 := fun q => by
    have h1 : nI 0 ≤ nI a := nI_le (Nat.zero_le _) (by omega)
    rw [nI_0] at h1
    exact absurd (Int32.le_trans h1 h.1) (Int32.not_le.mpr q)
  obtain ⟨j, hj, rfl⟩ := nI_of h0
  exact ⟨j, (nI_leI (by omega) hj).mp h.1, (nI_leI hj (by omega)).mp h.2, rfl⟩
theorem inR_nI {s a b : Nat} (h1 : a ≤ s) (h2 : s ≤ b) (hb : b < 2 ^ 31) : inR (nI s) a b = true := by
  simp only [inR, Bool.and_eq_true, decide_eq_true_eq]
  exact ⟨(nI_leI (by omega) (by omega)).mpr h1, (nI_leI (by omega) hb).mpr h2⟩
def startF (L : List Nat) (r : Nat) : Nat → Nat
  | 0 => 0
  | n + 1 => startF L r n + L.getD (r + 1 + n) 0
def ndF : Nat → Nat → Nat
  | 0, _ => 0
  | k + 1, D => if D = 0 then 0 else ndF k (D / 10) + 1
theorem ndF_le : ∀ k D, ndF k D ≤ k
  | 0, _ => Nat.le_refl _
  | k + 1, D => by
    unfold ndF
    have := ndF_le k (D / 10)
    split <;> omega
section C11
variable {Γ : gM} {d : Nat} {h : gH} {Q : Option Value → gH → Prop} {t : Nat}
set_option maxRecDepth 100000 in
set_option maxHeartbeats 4000000 in
theorem c_isSlot {x : Int32} (hQ : Q (some (.int (gBo (inB x 6)))) h) : V Γ mX9_isSlot d 124 124 h 0 [some (.int x)] [] Q := by
  refine V_iloadn0 dX9_isSlot_0 ?_
  refine V_if_lt (tgt := 14) dX9_isSlot_1 (by decide) (fun c1 => ?_) (fun c1 => ?_)
  · skip
    have e : inB x 6 = false := by unfold inB; rw [decide_eq_false (Int32.not_le.mpr c1)]; rfl
    rw [e, gBo_f] at hQ
    refine V_iconst (v := nI 0) dX9_isSlot_14 (by decide) ?_
    refine V_iret dX9_isSlot_15 rfl (by first | exact gBo_nar _ | rfl | decide) ?_
    exact hQ
  · skip
    refine V_iloadn0 dX9_isSlot_4 ?_
    refine V_bipush (v := nI 6) dX9_isSlot_5 (by decide) ?_
    first | refine U_icmp_ge (tgt := 14) dX9_isSlot_7 (by decide) (by with_reducible rfl) (by with_reducible rfl) (by omega) (by omega) (fun c7 => ?_) (fun c7 => ?_) | refine V_icmp_ge (tgt := 14) dX9_isSlot_7 (by decide) (fun c7 => ?_) (fun c7 => ?_)
    · skip
      have e : inB x 6 = false := by unfold inB; rw [decide_eq_false (Int32.not_lt.mpr c7), Bool.and_false]
      rw [e, gBo_f] at hQ
      refine V_iconst (v := nI 0) dX9_isSlot_14 (by decide) ?_
      refine V_iret dX9_isSlot_15 rfl (by first | exact gBo_nar _ | rfl | decide) ?_
      exact hQ
    · skip
      have e : inB x 6 = true := by unfold inB; rw [decide_eq_true (Int32.not_lt.mp c1), decide_eq_true (Int32.not_le.mp c7)]; rfl
      rw [e, gBo_t] at hQ
      refine V_iconst (v := nI 1) dX9_isSlot_10 (by decide) ?_
      refine V_goto (tgt := 15) dX9_isSlot_11 (by decide) ?_
      refine V_iret dX9_isSlot_15 rfl (by first | exact gBo_nar _ | rfl | decide) ?_
      exact hQ
set_option maxRecDepth 100000 in
set_option maxHeartbeats 4000000 in
theorem c_isSheet {x : Int32} (hQ : Q (some (.int (gBo (inB x 4)))) h) : V Γ mX9_isSheet d 124 124 h 0 [some (.int x)] [] Q := by
  refine V_iloadn0 dX9_isSheet_0 ?_
  refine V_if_lt (tgt := 13) dX9_isSheet_1 (by decide) (fun c1 => ?_) (fun c1 => ?_)
  · skip
    have e : inB x 4 = false := by unfold inB; rw [decide_eq_false (Int32.not_le.mpr c1)]; rfl
    rw [e, gBo_f] at hQ
    refine V_iconst (v := nI 0) dX9_isSheet_13 (by decide) ?_
    refine V_iret dX9_isSheet_14 rfl (by first | exact gBo_nar _ | rfl | decide) ?_
    exact hQ
  · skip
    refine V_iloadn0 dX9_isSheet_4 ?_
    refine V_iconst (v := nI 4) dX9_isSheet_5 (by decide) ?_
    first | refine U_icmp_ge (tgt := 13) dX9_isSheet_6 (by decide) (by with_reducible rfl) (by with_reducible rfl) (by omega) (by omega) (fun c6 => ?_) (fun c6 => ?_) | refine V_icmp_ge (tgt := 13) dX9_isSheet_6 (by decide) (fun c6 => ?_) (fun c6 => ?_)
    · skip
      have e : inB x 4 = false := by unfold inB; rw [decide_eq_false (Int32.not_lt.mpr c6), Bool.and_false]
      rw [e, gBo_f] at hQ
      refine V_iconst (v := nI 0) dX9_isSheet_13 (by decide) ?_
      refine V_iret dX9_isSheet_14 rfl (by first | exact gBo_nar _ | rfl | decide) ?_
      exact hQ
    · skip
      have e : inB x 4 = true := by unfold inB; rw [decide_eq_true (Int32.not_lt.mp c1), decide_eq_true (Int32.not_le.mp c6)]; rfl
      rw [e, gBo_t] at hQ
      refine V_iconst (v := nI 1) dX9_isSheet_9 (by decide) ?_
      refine V_goto (tgt := 14) dX9_isSheet_10 (by decide) ?_
      refine V_iret dX9_isSheet_14 rfl (by first | exact gBo_nar _ | rfl | decide) ?_
      exact hQ
set_option maxRecDepth 100000 in
set_option maxHeartbeats 4000000 in
theorem c_isHeld {s kd : Nat} (hs : s < 6) (r0 : gR h 0 0 = some 1) (r1 : gR h 1 2 = some 2) (r2 : gR h 2 s = some (4 + 3 * s)) (hl : lay (4 + 3 * s) = some (.inr 8)) (hk : gI h (4 + 3 * s) 0 = nI kd) (hk2 : kd ≤ 2) (hQ : Q (some (.int (gBo (decide (kd ≠ 0))))) h) : V Γ mX9_isHeld d 124 124 h 0 [some (.ref 0), some (.int (nI s))] [] Q := by
  refine V_aloadn0 dX9_isHeld_0 ?_
  refine V_getR dX9_isHeld_1 fX9_10 (by first | assumption | rfl) (by first | decide | omega) (by first | assumption | rfl) ?_
  refine V_getR dX9_isHeld_4 fX9_99 (by first | assumption | rfl) (by first | decide | omega) (by first | assumption | rfl) ?_
  refine V_iloadn1 dX9_isHeld_7 ?_
  refine U_aald dX9_isHeld_8 (by with_reducible rfl) (by first | assumption | rfl) (by decide) (by first | decide | omega) (by omega) (by first | assumption | rfl) ?_
  refine V_getI dX9_isHeld_9 fX9_136 (Or.inl rfl) (by first | assumption | rfl) (by first | decide | omega) (by first | assumption | rfl) ?_
  first | refine U_ifB_eq (tgt := 19) dX9_isHeld_12 (by decide) (by with_reducible rfl) (fun c12 => ?_) (fun c12 => ?_) | refine U_if_eq (tgt := 19) dX9_isHeld_12 (by decide) (by with_reducible rfl) (by omega) (fun c12 => ?_) (fun c12 => ?_) | refine V_if_eq (tgt := 19) dX9_isHeld_12 (by decide) (fun c12 => ?_) (fun c12 => ?_)
  · skip
    have e : decide (kd ≠ 0) = false := decide_eq_false (fun q => q c12)
    rw [e, gBo_f] at hQ
    refine V_iconst (v := nI 0) dX9_isHeld_19 (by decide) ?_
    refine V_iret dX9_isHeld_20 rfl (by first | exact gBo_nar _ | rfl | decide) ?_
    exact hQ
  · skip
    have e : decide (kd ≠ 0) = true := decide_eq_true c12
    rw [e, gBo_t] at hQ
    refine V_iconst (v := nI 1) dX9_isHeld_15 (by decide) ?_
    refine V_goto (tgt := 20) dX9_isHeld_16 (by decide) ?_
    refine V_iret dX9_isHeld_20 rfl (by first | exact gBo_nar _ | rfl | decide) ?_
    exact hQ
set_option maxRecDepth 100000 in
set_option maxHeartbeats 4000000 in
theorem c_isLetter {n : Nat} {x : Int32} (hn : n ≤ 5) (r0 : gR h 0 0 = some 1) (i0 : gI h 1 0 = nI n) (hQ : Q (some (.int (gBo (inR x 1 n)))) h) : V Γ mX9_isLetter d 124 124 h 0 [some (.ref 0), some (.int x)] [] Q := by
  refine V_iloadn1 dX9_isLetter_0 ?_
  refine V_iconst (v := nI 1) dX9_isLetter_1 (by decide) ?_
  first | refine U_icmp_lt (tgt := 20) dX9_isLetter_2 (by decide) (by with_reducible rfl) (by with_reducible rfl) (by omega) (by omega) (fun c2 => ?_) (fun c2 => ?_) | refine V_icmp_lt (tgt := 20) dX9_isLetter_2 (by decide) (fun c2 => ?_) (fun c2 => ?_)
  · skip
    have e : inR x 1 n = false := by unfold inR; rw [decide_eq_false (Int32.not_le.mpr c2)]; rfl
    rw [e] at hQ
    refine V_iconst (v := nI 0) dX9_isLetter_20 (by decide) ?_
    refine V_iret dX9_isLetter_21 rfl (by first | exact gBo_nar _ | rfl | decide) ?_
    exact hQ
  · skip
    refine V_iloadn1 dX9_isLetter_5 ?_
    refine V_aloadn0 dX9_isLetter_6 ?_
    refine V_getR dX9_isLetter_7 fX9_10 (by first | assumption | rfl) (by first | decide | omega) (by first | assumption | rfl) ?_
    refine V_getI dX9_isLetter_10 fX9_84 (Or.inl rfl) (by first | assumption | rfl) (by first | decide | omega) (by first | assumption | rfl) ?_
    first | refine U_icmp_gt (tgt := 20) dX9_isLetter_13 (by decide) (by with_reducible rfl) (by with_reducible rfl) (by omega) (by omega) (fun c13 => ?_) (fun c13 => ?_) | refine V_icmp_gt (tgt := 20) dX9_isLetter_13 (by decide) (fun c13 => ?_) (fun c13 => ?_)
    · skip
      have e : inR x 1 n = false := by unfold inR; rw [decide_eq_false (Int32.not_le.mpr c13), Bool.and_false]
      rw [e] at hQ
      refine V_iconst (v := nI 0) dX9_isLetter_20 (by decide) ?_
      refine V_iret dX9_isLetter_21 rfl (by first | exact gBo_nar _ | rfl | decide) ?_
      exact hQ
    · skip
      have e : inR x 1 n = true := by unfold inR; rw [decide_eq_true (Int32.not_lt.mp c2), decide_eq_true (Int32.not_lt.mp c13)]; rfl
      rw [e] at hQ
      refine V_iconst (v := nI 1) dX9_isLetter_16 (by decide) ?_
      refine V_goto (tgt := 21) dX9_isLetter_17 (by decide) ?_
      refine V_iret dX9_isLetter_21 rfl (by first | exact gBo_nar _ | rfl | decide) ?_
      exact hQ
def inS (x : Int32) (n : Nat) : Bool := decide (nI 1 ≤ x) && decide (x < nI n)
theorem inS_t {x : Int32} {n : Nat} (hn : n < 2 ^ 31) (h : inS x n = true) : ∃ s, 1 ≤ s ∧ s < n ∧ x = nI s := by
  simp only [inS, Bool.and_eq_true, decide_eq_true_eq] at h
  have h2 : inB x n = true := by
    simp only [inB, Bool.and_eq_true, decide_eq_true_eq]
    refine ⟨Int32.le_trans ?_ h.1, h.2⟩
    decide
  obtain ⟨s, hs, rfl⟩ := inB_t hn h2
  exact ⟨s, (nI_leI (by decide) (by omega)).mp h.1, hs, rfl⟩
theorem inS_nI {s n : Nat} (h1 : 1 ≤ s) (h2 : s < n) (hn : n < 2 ^ 31) : inS (nI s) n = true := by
  simp only [inS, Bool.and_eq_true, decide_eq_true_eq]
  exact ⟨(nI_leI (by omega) (by omega)).mpr h1, (nI_ltI (by omega) hn).mpr h2⟩
set_option maxRecDepth 100000 in
set_option maxHeartbeats 4000000 in
theorem c_isStep {n : Nat} {x : Int32} (hn : n ≤ 5) (r0 : gR h 0 0 = some 1) (i0 : gI h 1 0 = nI n) (hQ : Q (some (.int (gBo (inS x n)))) h) : V Γ mX9_isStep d 124 124 h 0 [some (.ref 0), some (.int x)] [] Q := by
  refine V_iloadn1 dX9_isStep_0 ?_
  refine V_iconst (v := nI 1) dX9_isStep_1 (by decide) ?_
  first | refine U_icmp_lt (tgt := 20) dX9_isStep_2 (by decide) (by with_reducible rfl) (by with_reducible rfl) (by omega) (by omega) (fun c2 => ?_) (fun c2 => ?_) | refine V_icmp_lt (tgt := 20) dX9_isStep_2 (by decide) (fun c2 => ?_) (fun c2 => ?_)
  · skip
    have e : inS x n = false := by unfold inS; rw [decide_eq_false (Int32.not_le.mpr c2)]; rfl
    rw [e, gBo_f] at hQ
    refine V_iconst (v := nI 0) dX9_isStep_20 (by decide) ?_
    refine V_iret dX9_isStep_21 rfl (by first | exact gBo_nar _ | rfl | decide) ?_
    exact hQ
  · skip
    refine V_iloadn1 dX9_isStep_5 ?_
    refine V_aloadn0 dX9_isStep_6 ?_
    refine V_getR dX9_isStep_7 fX9_10 (by first | assumption | rfl) (by first | decide | omega) (by first | assumption | rfl) ?_
    refine V_getI dX9_isStep_10 fX9_84 (Or.inl rfl) (by first | assumption | rfl) (by first | decide | omega) (by first | assumption | rfl) ?_
    first | refine U_icmp_ge (tgt := 20) dX9_isStep_13 (by decide) (by with_reducible rfl) (by with_reducible rfl) (by omega) (by omega) (fun c13 => ?_) (fun c13 => ?_) | refine V_icmp_ge (tgt := 20) dX9_isStep_13 (by decide) (fun c13 => ?_) (fun c13 => ?_)
    · skip
      have e : inS x n = false := by unfold inS; rw [decide_eq_false (Int32.not_lt.mpr c13), Bool.and_false]
      rw [e, gBo_f] at hQ
      refine V_iconst (v := nI 0) dX9_isStep_20 (by decide) ?_
      refine V_iret dX9_isStep_21 rfl (by first | exact gBo_nar _ | rfl | decide) ?_
      exact hQ
    · skip
      have e : inS x n = true := by unfold inS; rw [decide_eq_true (Int32.not_lt.mp c2), decide_eq_true (Int32.not_le.mp c13)]; rfl
      rw [e, gBo_t] at hQ
      refine V_iconst (v := nI 1) dX9_isStep_16 (by decide) ?_
      refine V_goto (tgt := 21) dX9_isStep_17 (by decide) ?_
      refine V_iret dX9_isStep_21 rfl (by first | exact gBo_nar _ | rfl | decide) ?_
      exact hQ
set_option maxRecDepth 100000 in
set_option maxHeartbeats 4000000 in
theorem c_howManyDigits {D : Nat} (hD : D < 2 ^ 31) (hQ : Q (some (.int (nI (ndF 10 D)))) h) : V Γ mX9_howManyDigits d 124 124 h 0 [some (.int (nI D)), none, none, none] [] Q := by
  have loop : ∀ k i q c, 10 - i = k → i ≤ 10 → q < 2 ^ 31 → c + ndF (10 - i) q = ndF 10 D → c ≤ i → V Γ mX9_howManyDigits d 124 124 h 6 [some (.int (nI D)), some (.int (nI q)), some (.int (nI c)), some (.int (nI i))] [] Q := by
    intro k
    induction k using Nat.strongRecOn with
    | _ k ih =>
      intro i q c hk hi hq hc hci
      refine V_iloadn3 dX9_howManyDigits_6 ?_
      refine V_bipush (v := nI 10) dX9_howManyDigits_7 (by decide) ?_
      first | refine U_icmp_ge (tgt := 30) dX9_howManyDigits_9 (by decide) (by with_reducible rfl) (by with_reducible rfl) (by omega) (by omega) (fun c9 => ?_) (fun c9 => ?_) | refine V_icmp_ge (tgt := 30) dX9_howManyDigits_9 (by decide) (fun c9 => ?_) (fun c9 => ?_)
      · skip
        rw [show 10 - i = 0 by omega, ndF, Nat.add_zero] at hc
        rw [← hc] at hQ
        refine V_iloadn2 dX9_howManyDigits_30 ?_
        refine V_iret dX9_howManyDigits_31 rfl rfl ?_
        exact hQ
      · skip
        refine V_iloadn1 dX9_howManyDigits_12 ?_
        first | refine U_if_le (tgt := 30) dX9_howManyDigits_13 (by decide) (by with_reducible rfl) (by omega) (fun c13 => ?_) (fun c13 => ?_) | refine V_if_le (tgt := 30) dX9_howManyDigits_13 (by decide) (fun c13 => ?_) (fun c13 => ?_)
        · skip
          rw [c13] at hc
          have e : ndF (10 - i) 0 = 0 := by cases (10 - i) <;> rfl
          rw [e, Nat.add_zero] at hc
          rw [← hc] at hQ
          refine V_iloadn2 dX9_howManyDigits_30 ?_
          refine V_iret dX9_howManyDigits_31 rfl rfl ?_
          exact hQ
        · skip
          refine V_iloadn1 dX9_howManyDigits_16 ?_
          refine V_bipush (v := nI 10) dX9_howManyDigits_17 (by decide) ?_
          first | refine U_idiv dX9_howManyDigits_19 (by with_reducible rfl) (by with_reducible rfl) (by omega) (by omega) (by omega) ?_ | refine V_idiv dX9_howManyDigits_19 (by decide) ?_
          refine V_istoren1 dX9_howManyDigits_20 (by decide) rfl ?_
          refine V_iinc2 dX9_howManyDigits_21 (by first | exact ginc1 _ | rfl) (by decide) rfl ?_
          refine V_iinc3 dX9_howManyDigits_24 (by first | exact ginc1 _ | rfl) (by decide) rfl ?_
          refine V_goto (tgt := 6) dX9_howManyDigits_27 (by decide) ?_
          refine ih (10 - (i + 1)) (by omega) (i + 1) (q / 10) (c + 1) rfl (by omega) (by omega) ?_ (by omega)
          rw [← hc, show 10 - i = (10 - (i + 1)) + 1 by omega, ndF, if_neg c13]
          omega
  refine V_iloadn0 dX9_howManyDigits_0 ?_
  refine V_istoren1 dX9_howManyDigits_1 (by decide) rfl ?_
  refine V_iconst (v := nI 0) dX9_howManyDigits_2 (by decide) ?_
  refine V_istoren2 dX9_howManyDigits_3 (by decide) rfl ?_
  refine V_iconst (v := nI 0) dX9_howManyDigits_4 (by decide) ?_
  refine V_istoren3 dX9_howManyDigits_5 (by decide) rfl ?_
  exact loop 10 0 D 0 rfl (by omega) hD (Nat.zero_add _) (by omega)
set_option maxRecDepth 100000 in
set_option maxHeartbeats 4000000 in
theorem c_howManyDigitsNeg {x : Int32} (hx : x < 0) (hQ : Q (some (.int (nI 0))) h) : V Γ mX9_howManyDigits d 124 124 h 0 [some (.int x), none, none, none] [] Q := by
  refine V_iloadn0 dX9_howManyDigits_0 ?_
  refine V_istoren1 dX9_howManyDigits_1 (by decide) rfl ?_
  refine V_iconst (v := nI 0) dX9_howManyDigits_2 (by decide) ?_
  refine V_istoren2 dX9_howManyDigits_3 (by decide) rfl ?_
  refine V_iconst (v := nI 0) dX9_howManyDigits_4 (by decide) ?_
  refine V_istoren3 dX9_howManyDigits_5 (by decide) rfl ?_
  refine V_iloadn3 dX9_howManyDigits_6 ?_
  refine V_bipush (v := nI 10) dX9_howManyDigits_7 (by decide) ?_
  first | refine U_icmp_ge (tgt := 30) dX9_howManyDigits_9 (by decide) (by with_reducible rfl) (by with_reducible rfl) (by omega) (by omega) (fun c9 => ?_) (fun c9 => ?_) | refine V_icmp_ge (tgt := 30) dX9_howManyDigits_9 (by decide) (fun c9 => ?_) (fun c9 => ?_)
  · skip
    exact absurd c9 (by decide)
  · skip
    refine V_iloadn1 dX9_howManyDigits_12 ?_
    first | refine U_if_le (tgt := 30) dX9_howManyDigits_13 (by decide) (by with_reducible rfl) (by omega) (fun c13 => ?_) (fun c13 => ?_) | refine V_if_le (tgt := 30) dX9_howManyDigits_13 (by decide) (fun c13 => ?_) (fun c13 => ?_)
    · skip
      refine V_iloadn2 dX9_howManyDigits_30 ?_
      refine V_iret dX9_howManyDigits_31 rfl rfl ?_
      exact hQ
    · skip
      exact absurd (Int32.le_of_lt hx) c13
set_option maxRecDepth 100000 in
set_option maxHeartbeats 4000000 in
theorem c_content {kd n : Nat} {w L : List Nat} (hn : n ≤ 5) (hT : TL h t) (hI : TI h t kd w L) (hQ : Q (some (.int (nI (conF w n)))) h) : V Γ mX8_content d 124 124 h 0 [some (.ref t), some (.int (nI n)), none, none, none, none] [] Q := by
  obtain ⟨l0, l1, l2, lt, r2, r4⟩ := id hT
  obtain ⟨i0, i1, i3, iw, iL, iwl, iLl, iwb, iLb, ik⟩ := hI
  have loop : ∀ k i a5 a6, n - i = k → i ≤ n → V Γ mX8_content d 124 124 h 4 [some (.ref t), some (.int (nI n)), some (.int (nI (conF w i))), some (.int (nI (i + 1))), a5, a6] [] Q := by
    intro k
    induction k using Nat.strongRecOn with
    | _ k ih =>
      intro i a5 a6 hk hi
      have inner : ∀ k j, w.length - j = k → j ≤ w.length → i < n → V Γ mX8_content d 124 124 h 15 [some (.ref t), some (.int (nI n)), some (.int (nI (conF w i))), some (.int (nI (i + 1))), some (.int (nI (cntF w (i + 1) j))), some (.int (nI j))] [] Q := by
        intro k2
        induction k2 using Nat.strongRecOn with
        | _ k2 ih2 =>
          intro j hk2 hj hin
          have hb := iwb j
          have hcl := cntF_le w (i + 1) j
          refine V_iloadw5 dX8_content_15 ?_
          refine V_aloadn0 dX8_content_17 ?_
          refine V_getI dX8_content_18 fX8_22 (Or.inl rfl) (by first | assumption | rfl) (by first | decide | omega) (by first | assumption | exact iw _ (by omega) | rfl) ?_
          first | refine U_icmp_ge (tgt := 44) dX8_content_21 (by decide) (by with_reducible rfl) (by with_reducible rfl) (by omega) (by omega) (fun c21 => ?_) (fun c21 => ?_) | refine V_icmp_ge (tgt := 44) dX8_content_21 (by decide) (fun c21 => ?_) (fun c21 => ?_)
          · skip
            have e : j = w.length := by omega
            subst e
            refine V_iloadn2 dX8_content_44 ?_
            refine V_bipush (v := nI 10) dX8_content_45 (by decide) ?_
            first | refine U_imul dX8_content_47 (by with_reducible rfl) (by with_reducible rfl) ?_ | refine V_imul dX8_content_47 ?_
            refine V_iloadw4 dX8_content_48 ?_
            first | refine U_iadd dX8_content_50 (by with_reducible rfl) (by with_reducible rfl) ?_ | refine V_iadd dX8_content_50 ?_
            refine V_istoren2 dX8_content_51 (by decide) rfl ?_
            refine V_iinc3 dX8_content_52 (by first | exact ginc1 _ | rfl) (by decide) rfl ?_
            refine V_goto (tgt := 4) dX8_content_55 (by decide) ?_
            exact ih (n - (i + 1)) (by omega) (i + 1) _ _ rfl (by omega)
          · skip
            refine V_aloadn0 dX8_content_24 ?_
            refine V_getR dX8_content_25 fX8_15 (by first | assumption | rfl) (by first | decide | omega) (by first | assumption | exact iw _ (by omega) | rfl) ?_
            refine V_iloadw5 dX8_content_28 ?_
            refine U_iald dX8_content_30 (by with_reducible rfl) (by first | assumption | rfl) (by first | decide | omega) (by omega) (by first | assumption | exact iw _ (by omega) | rfl) ?_
            refine V_iloadn3 dX8_content_31 ?_
            first | refine U_icmp_ne (tgt := 38) dX8_content_32 (by decide) (by with_reducible rfl) (by with_reducible rfl) (by omega) (by omega) (fun c32 => ?_) (fun c32 => ?_) | refine V_icmp_ne (tgt := 38) dX8_content_32 (by decide) (fun c32 => ?_) (fun c32 => ?_)
            · skip
              have e : cntF w (i + 1) (j + 1) = cntF w (i + 1) j := by rw [cntF, if_neg c32]
              rw [← e]
              refine V_iinc5 dX8_content_38 (by first | exact ginc1 _ | rfl) (by decide) rfl ?_
              refine V_goto (tgt := 15) dX8_content_41 (by decide) ?_
              refine ih2 (w.length - (j + 1)) (by omega) (j + 1) rfl (by omega) hin
            · skip
              have e : cntF w (i + 1) (j + 1) = cntF w (i + 1) j + 1 := by rw [cntF, if_pos c32]
              refine V_iinc4 dX8_content_35 (v := nI (cntF w (i + 1) (j + 1))) (by rw [e]; exact ginc1 _) (by decide) rfl ?_
              refine V_iinc5 dX8_content_38 (by exact ginc1 _) (by decide) rfl ?_
              refine V_goto (tgt := 15) dX8_content_41 (by decide) ?_
              exact ih2 (w.length - (j + 1)) (by omega) (j + 1) rfl (by omega) hin
      refine V_iloadn3 dX8_content_4 ?_
      refine V_iloadn1 dX8_content_5 ?_
      first | refine U_icmp_gt (tgt := 58) dX8_content_6 (by decide) (by with_reducible rfl) (by with_reducible rfl) (by omega) (by omega) (fun c6 => ?_) (fun c6 => ?_) | refine V_icmp_gt (tgt := 58) dX8_content_6 (by decide) (fun c6 => ?_) (fun c6 => ?_)
      · skip
        have e : i = n := by omega
        subst e
        refine V_iloadn2 dX8_content_58 ?_
        refine V_iret dX8_content_59 rfl rfl ?_
        exact hQ
      · skip
        refine V_iconst (v := nI 0) dX8_content_9 (by decide) ?_
        refine V_istorew4 dX8_content_10 (by decide) rfl ?_
        refine V_iconst (v := nI 0) dX8_content_12 (by decide) ?_
        refine V_istorew5 dX8_content_13 (by decide) rfl ?_
        exact inner w.length 0 rfl (by omega) (by omega)
  refine V_iconst (v := nI 0) dX8_content_0 (by decide) ?_
  refine V_istoren2 dX8_content_1 (by decide) rfl ?_
  refine V_iconst (v := nI 1) dX8_content_2 (by decide) ?_
  refine V_istoren3 dX8_content_3 (by decide) rfl ?_
  exact loop n 0 _ _ rfl (by omega)
set_option maxRecDepth 100000 in
set_option maxHeartbeats 4000000 in
theorem c_numberOfRow {kd r : Nat} {w L : List Nat} (hd : 1 ≤ d) (hT : TL h t) (hI : TI h t kd w L) (hr : r < L.length) (hsum : ∀ k, k + r + 1 ≤ L.length → startF L r k + L.getD r 0 ≤ w.length) (hQ : Q (some (.int (nI (numF w (startF L r (L.length - r - 1)) (L.getD r 0))))) h) : V Γ mX8_numberOfRow d 124 124 h 0 [some (.ref t), some (.int (nI r)), none, none] [] Q := by
  obtain ⟨l0, l1, l2, lt, r2, r4⟩ := id hT
  obtain ⟨i0, i1, i3, iw, iL, iwl, iLl, iwb, iLb, ik⟩ := hI
  have loop : ∀ k i, (L.length - r - 1) - i = k → i ≤ L.length - r - 1 → V Γ mX8_numberOfRow d 124 124 h 6 [some (.ref t), some (.int (nI r)), some (.int (nI (startF L r i))), some (.int (nI (r + 1 + i)))] [] Q := by
    intro k
    induction k using Nat.strongRecOn with
    | _ k ih =>
      intro i hk hi
      have hsi := hsum i (by omega)
      refine V_iloadn3 dX8_numberOfRow_6 ?_
      refine V_aloadn0 dX8_numberOfRow_7 ?_
      refine V_getI dX8_numberOfRow_8 fX8_25 (Or.inl rfl) (by first | assumption | rfl) (by first | decide | omega) (by first | assumption | exact iL _ (by omega) | rfl) ?_
      first | refine U_icmp_ge (tgt := 29) dX8_numberOfRow_11 (by decide) (by with_reducible rfl) (by with_reducible rfl) (by omega) (by omega) (fun c11 => ?_) (fun c11 => ?_) | refine V_icmp_ge (tgt := 29) dX8_numberOfRow_11 (by decide) (fun c11 => ?_) (fun c11 => ?_)
      · skip
        have e : i = L.length - r - 1 := by omega
        subst e
        refine V_aloadn0 dX8_numberOfRow_29 ?_
        refine V_iloadn2 dX8_numberOfRow_30 ?_
        refine V_aloadn0 dX8_numberOfRow_31 ?_
        refine V_getR dX8_numberOfRow_32 fX8_19 (by first | assumption | rfl) (by first | decide | omega) (by first | assumption | exact iL _ (by omega) | rfl) ?_
        refine V_iloadn1 dX8_numberOfRow_35 ?_
        refine U_iald dX8_numberOfRow_36 (by with_reducible rfl) (by first | assumption | rfl) (by first | decide | omega) (by omega) (by first | assumption | exact iL _ (by omega) | rfl) ?_
        refine V_callV2 (μ' := mX8_numberFrom) dX8_numberOfRow_37 okX8_numberFrom lX8_42 rfl (by first | assumption | rfl) (by first | decide | omega) (Nat.le_of_ble_eq_true rfl) (Nat.le_of_ble_eq_true rfl) (by omega) ?_
        refine c_numberFrom (w := w) hT (fun p hp => iw p (by omega)) (by omega) ?_
        dsimp only [gPush]
        refine V_iret dX8_numberOfRow_40 rfl rfl ?_
        exact hQ
      · skip
        refine V_iloadn2 dX8_numberOfRow_14 ?_
        refine V_aloadn0 dX8_numberOfRow_15 ?_
        refine V_getR dX8_numberOfRow_16 fX8_19 (by first | assumption | rfl) (by first | decide | omega) (by first | assumption | exact iL _ (by omega) | rfl) ?_
        refine V_iloadn3 dX8_numberOfRow_19 ?_
        refine U_iald dX8_numberOfRow_20 (by with_reducible rfl) (by first | assumption | rfl) (by first | decide | omega) (by omega) (by first | assumption | exact iL _ (by omega) | rfl) ?_
        first | refine U_iadd dX8_numberOfRow_21 (by with_reducible rfl) (by with_reducible rfl) ?_ | refine V_iadd dX8_numberOfRow_21 ?_
        refine V_istoren2 dX8_numberOfRow_22 (by decide) rfl ?_
        refine V_iinc3 dX8_numberOfRow_23 (by first | exact ginc1 _ | rfl) (by decide) rfl ?_
        refine V_goto (tgt := 6) dX8_numberOfRow_26 (by decide) ?_
        exact ih (L.length - r - 1 - (i + 1)) (by omega) (i + 1) rfl (by omega)
  refine V_iconst (v := nI 0) dX8_numberOfRow_0 (by decide) ?_
  refine V_istoren2 dX8_numberOfRow_1 (by decide) rfl ?_
  refine V_iloadn1 dX8_numberOfRow_2 ?_
  refine V_iconst (v := nI 1) dX8_numberOfRow_3 (by decide) ?_
  first | refine U_iadd dX8_numberOfRow_4 (by with_reducible rfl) (by with_reducible rfl) ?_ | refine V_iadd dX8_numberOfRow_4 ?_
  refine V_istoren3 dX8_numberOfRow_5 (by decide) rfl ?_
  exact loop _ 0 rfl (by omega)
end C11
