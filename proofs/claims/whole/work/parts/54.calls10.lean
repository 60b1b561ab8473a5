/-! ===== the class: shapes counted ===== -/
theorem shOk_good {D n : Nat} (h : shOk D n = true) : shGood (digL D (ndF 10 D)) ∧ (digL D (ndF 10 D)).sum ≤ 6 ∧ ndF 10 D ≤ n ∧ ∀ r, r < ndF 10 D → 1 ≤ (digL D (ndF 10 D)).getD r 0 := by
  unfold shOk at h
  rw [Bool.and_eq_true, Bool.and_eq_true, List.all_eq_true] at h
  obtain ⟨h1, h2, h3⟩ := h
  have h1' := of_decide_eq_true h1
  have h3' := of_decide_eq_true h3
  have g : ∀ r, r < ndF 10 D → (if r + 1 = ndF 10 D then 1 else (digL D (ndF 10 D)).getD (r + 1) 0) ≤ (digL D (ndF 10 D)).getD r 0 := fun r hr => of_decide_eq_true (h2 r (List.mem_range.mpr hr))
  refine ⟨fun r r0 r1 => ?_, h3', h1', fun r hr => ?_⟩
  · rw [digL_len] at r1
    have := g (r - 1) (by omega)
    rw [if_neg (by omega), show r - 1 + 1 = r by omega] at this
    exact this
  · have key : ∀ k r, ndF 10 D - r = k → r < ndF 10 D → 1 ≤ (digL D (ndF 10 D)).getD r 0 := by
      intro k
      induction k using Nat.strongRecOn with
      | _ k ih =>
        intro r hk hr
        have h4 := g r hr
        by_cases e : r + 1 = ndF 10 D
        · rw [if_pos e] at h4; exact h4
        · rw [if_neg e] at h4
          have := ih (ndF 10 D - (r + 1)) (by omega) (r + 1) rfl (by omega)
          omega
    exact key _ r rfl hr
theorem coF_le9 (D n x : Nat) : coF D n x ≤ 9 := by
  unfold coF
  have := Nat.mod_lt (D / 10 ^ (n - x)) (by decide : 10 > 0)
  omega
theorem sumF_get {f : Nat → Nat} : ∀ (n i : Nat), i < n → f i ≤ sumF f n
  | 0, i, h => absurd h (Nat.not_lt_zero _)
  | n + 1, i, h => by
    unfold sumF
    by_cases e : i = n
    · subst e; omega
    · have := sumF_get (f := f) n i (by omega); omega
theorem coOk_6 {D n x : Nat} (h : coOk D n = true) (h1 : 1 ≤ x) (h2 : x ≤ n) : coF D n x ≤ 6 := by
  unfold coOk at h
  rw [Bool.and_eq_true] at h
  have h3 := of_decide_eq_true h.2
  have h4 := sumF_get (f := fun i => D / 10 ^ (n - (i + 1)) % 10) n (x - 1) (by omega)
  simp only [show x - 1 + 1 = x by omega] at h4
  unfold coF
  omega
theorem lg_le {x y : Int64} : lg_cmp x y ≤ 0 ↔ ¬ y < x := by
  unfold lg_cmp
  by_cases h1 : x > y
  · rw [if_pos h1]
    constructor
    · intro h; exact absurd h (by decide)
    · intro h; exact absurd h1 h
  · rw [if_neg h1]
    constructor
    · intro _; exact h1
    · intro _; split <;> decide
section C54
variable {Γ : gM} {d : Nat} {h : gH} {Q : Option Value → gH → Prop} {S : GS}
theorem c_told {s n : Nat} {D : Int32} (hd : 1 ≤ d) (hn : n ≤ 5) (hS : ShL h s) (hQ : ∀ h', (shB n D = true → ShI h' s (shL D)) → Fr1 h h' s (s + 2) → Q (some (.int (gBo (shB n D)))) h') : V Γ mX4_isTold d 124 124 h 0 [some (.ref s), some (.int D), some (.int (nI n)), none, none, none] [] Q := by
  by_cases hD : D < 0
  · have e : shB n D = false := by unfold shB; rw [decide_eq_false (Int32.not_le.mpr hD), Bool.false_and]
    rw [e] at hQ
    exact c_isToldNeg hd hD hS (fun h' f => hQ h' (fun q => absurd q Bool.false_ne_true) f)
  · obtain ⟨D', hD', rfl⟩ := nI_of hD
    have e : shB n (nI D') = shOk D' n := by unfold shB; rw [decide_eq_true (nI_pos' hD'), Bool.true_and, cN_nI hD']
    have e2 : shL (nI D') = digL D' (ndF 10 D') := by unfold shL; rw [cN_nI hD']
    rw [e, e2] at hQ
    refine c_isTold hd hD' hn hS (fun hok h' hI f => ?_) (fun hno h' f => ?_)
    · rw [hok] at hQ; exact hQ h' (fun _ => hI) f
    · rw [hno] at hQ; exact hQ h' (fun q => absurd q Bool.false_ne_true) f
set_option maxRecDepth 100000 in
set_option maxHeartbeats 4000000 in
theorem c_allowNeg {x : Int32} {n : Nat} (hx : x < 0) (hQ : Q (some (.int (gBo false))) h) : V Γ mX1_allowContent d 124 124 h 0 [some (.ref 67), some (.int x), some (.int (nI n)), none, none] [] Q := by
  refine V_iloadn1 dX1_allowContent_0 ?_
  refine V_if_lt (tgt := 12) dX1_allowContent_1 (by decide) (fun c1 => ?_) (fun c1 => ?_)
  · skip
    refine V_iconst (v := nI 0) dX1_allowContent_12 (by decide) ?_
    refine V_iret dX1_allowContent_13 rfl (by first | exact gBo_nar _ | rfl | decide) ?_
    exact hQ
  · skip
    exact absurd hx c1
theorem c_allow {n : Nat} {D : Int32} (hd : 1 ≤ d) (hn : n ≤ 5) (hr : gR h 67 0 = some 68) (hQ : ∀ h', ((decide (0 ≤ D) && coOk (cN D) n) = true → ∀ x, 1 ≤ x → x ≤ n → gI h' 68 x = nI (coF (cN D) n x)) → Fr1 h h' 68 69 → Q (some (.int (gBo (decide (0 ≤ D) && coOk (cN D) n)))) h') : V Γ mX1_allowContent d 124 124 h 0 [some (.ref 67), some (.int D), some (.int (nI n)), none, none] [] Q := by
  by_cases hD : D < 0
  · have e : (decide (0 ≤ D) && coOk (cN D) n) = false := by rw [decide_eq_false (Int32.not_le.mpr hD), Bool.false_and]
    rw [e] at hQ
    exact c_allowNeg hD (hQ h (fun q => absurd q Bool.false_ne_true) Fr1.rf)
  · obtain ⟨D', hD', rfl⟩ := nI_of hD
    rw [decide_eq_true (nI_pos' hD'), Bool.true_and, cN_nI hD'] at hQ
    refine c_allowContent hd hD' hn hr (fun hok h' hI f => ?_) (fun hno h' f => ?_)
    · rw [hok] at hQ; exact hQ h' (fun _ => hI) f
    · rw [hno] at hQ; exact hQ h' (fun q => absurd q Bool.false_ne_true) f
set_option maxRecDepth 100000 in
set_option maxHeartbeats 4000000 in
theorem c_count {a b : Int32} (hd : 19 ≤ d) (hR : RC h S) (hQ : ∀ h', RC h' S → FrC h h' → Q (some (.int (g_count S a b))) h') : V Γ mX9_count d 124 124 h 0 [some (.ref 0), some (.int a), some (.int b)] [] Q := by
  obtain ⟨hC, hW, hA, hK, hK2, hB, hSh, hFm⟩ := id hR
  have n0 := hA.1
  have hn2 := hW.1.1
  have hn5 := hW.1.2.1
  unfold g_count at hQ
  have fin : ∀ h', CLay h' → (∀ c, c < 46 ∨ (58 ≤ c ∧ c < 67) ∨ 80 ≤ c → gI h' c = gI h c) → gL h' = gL h → (∀ c, c ≠ 67 → gR h' c = gR h c) → RC h' S ∧ FrC h h' := fun h' c' e l k => ⟨RC_S hR ⟨fun c hc => e c (by omega), by rw [e 43 (by omega)], fun c hc => by rw [l], c'⟩, ⟨fun c hc => e c (by omega), fun c hc => by rw [l], fun c hc => k c (by omega)⟩⟩
  refine V_aloadn0 dX9_count_0 ?_
  refine V_getR dX9_count_1 fX9_63 (by first | assumption | rfl | exact lay_s0 (by omega) | exact lay_s1 (by omega) | exact lay_s2 (by omega) | exact lay_h0 (by omega) | exact lay_h1 (by omega)) (by first | decide | omega) (by first | assumption | exact CL0_0 (by assumption) | exact CL0_1 (by assumption) | exact CL0_3 (by assumption) | exact CL0_4 (by assumption) | exact CL0_5 (by assumption) | exact CL0_6 (by assumption) | exact CL0_7 (by assumption) | exact CL0_8 (by assumption) | exact CL0_9 (by assumption) | exact CL0_10 (by assumption) | exact CL0_11 (by assumption) | exact CL0_12 (by assumption) | exact CL0_13 (by assumption) | exact CL1_2 (by assumption) | exact CL1_3 (by assumption) | exact CL80_2 (by assumption) | exact CL_slot (by assumption) (by omega) | exact (CL_sh (by assumption) (by omega)).1 | exact (CL_sh (by assumption) (by omega)).2.1 | rfl) ?_
  refine V_iloadn1 dX9_count_4 ?_
  refine V_aloadn0 dX9_count_5 ?_
  refine V_getR dX9_count_6 fX9_10 (by first | assumption | rfl | exact lay_s0 (by omega) | exact lay_s1 (by omega) | exact lay_s2 (by omega) | exact lay_h0 (by omega) | exact lay_h1 (by omega)) (by first | decide | omega) (by first | assumption | exact CL0_0 (by assumption) | exact CL0_1 (by assumption) | exact CL0_3 (by assumption) | exact CL0_4 (by assumption) | exact CL0_5 (by assumption) | exact CL0_6 (by assumption) | exact CL0_7 (by assumption) | exact CL0_8 (by assumption) | exact CL0_9 (by assumption) | exact CL0_10 (by assumption) | exact CL0_11 (by assumption) | exact CL0_12 (by assumption) | exact CL0_13 (by assumption) | exact CL1_2 (by assumption) | exact CL1_3 (by assumption) | exact CL80_2 (by assumption) | exact CL_slot (by assumption) (by omega) | exact (CL_sh (by assumption) (by omega)).1 | exact (CL_sh (by assumption) (by omega)).2.1 | rfl) ?_
  refine V_getI dX9_count_9 fX9_84 (Or.inl rfl) (by first | assumption | rfl | exact lay_s0 (by omega) | exact lay_s1 (by omega) | exact lay_s2 (by omega) | exact lay_h0 (by omega) | exact lay_h1 (by omega)) (by first | decide | omega) (by first | assumption | exact CL0_0 (by assumption) | exact CL0_1 (by assumption) | exact CL0_3 (by assumption) | exact CL0_4 (by assumption) | exact CL0_5 (by assumption) | exact CL0_6 (by assumption) | exact CL0_7 (by assumption) | exact CL0_8 (by assumption) | exact CL0_9 (by assumption) | exact CL0_10 (by assumption) | exact CL0_11 (by assumption) | exact CL0_12 (by assumption) | exact CL0_13 (by assumption) | exact CL1_2 (by assumption) | exact CL1_3 (by assumption) | exact CL80_2 (by assumption) | exact CL_slot (by assumption) (by omega) | exact (CL_sh (by assumption) (by omega)).1 | exact (CL_sh (by assumption) (by omega)).2.1 | rfl) ?_
  refine V_callV2 (μ' := mX4_isTold) dX9_count_12 okX4_isTold lX9_229 rfl (by first | assumption | rfl | exact lay_s0 (by omega) | exact lay_s1 (by omega) | exact lay_s2 (by omega) | exact lay_h0 (by omega) | exact lay_h1 (by omega)) (by first | decide | omega) (Nat.le_of_ble_eq_true rfl) (Nat.le_of_ble_eq_true rfl) (by omega) ?_
  refine c_told (by omega) hn5 (CL_74 hC) (fun h1 hI1 hF1 => ?_)
  have hC1 := CLay_eq hC hF1.2.2
  have n1 : gI h1 1 0 = nI S.1.1 := by rw [hF1.1 1 (by omega)]; exact n0
  dsimp only [gPush]
  first | refine U_ifB_eq (tgt := 36) dX9_count_15 (by decide) (by with_reducible rfl) (fun c15 => ?_) (fun c15 => ?_) | refine U_if_eq (tgt := 36) dX9_count_15 (by decide) (by with_reducible rfl) (by omega) (fun c15 => ?_) (fun c15 => ?_) | refine V_if_eq (tgt := 36) dX9_count_15 (by decide) (fun c15 => ?_) (fun c15 => ?_)
  · skip
    rw [c15, Bool.false_and] at hQ
    have f1 := fin h1 hC1 (fun c hc => hF1.1 c (by omega)) hF1.2.1 (fun c hc => by rw [hF1.2.2])
    have hQ9 := hQ h1 f1.1 f1.2
    refine V_iconst (v := -1) dX9_count_36 (by decide) ?_
    refine V_iret dX9_count_37 rfl rfl ?_
    exact hQ9
  · skip
    rw [c15, Bool.true_and] at hQ
    have hI1' := hI1 c15
    refine V_aloadn0 dX9_count_18 ?_
    refine V_getR dX9_count_19 fX9_56 (by first | assumption | rfl | exact lay_s0 (by omega) | exact lay_s1 (by omega) | exact lay_s2 (by omega) | exact lay_h0 (by omega) | exact lay_h1 (by omega)) (by first | decide | omega) (by first | assumption | exact CL0_0 (by assumption) | exact CL0_1 (by assumption) | exact CL0_3 (by assumption) | exact CL0_4 (by assumption) | exact CL0_5 (by assumption) | exact CL0_6 (by assumption) | exact CL0_7 (by assumption) | exact CL0_8 (by assumption) | exact CL0_9 (by assumption) | exact CL0_10 (by assumption) | exact CL0_11 (by assumption) | exact CL0_12 (by assumption) | exact CL0_13 (by assumption) | exact CL1_2 (by assumption) | exact CL1_3 (by assumption) | exact CL80_2 (by assumption) | exact CL_slot (by assumption) (by omega) | exact (CL_sh (by assumption) (by omega)).1 | exact (CL_sh (by assumption) (by omega)).2.1 | rfl) ?_
    refine V_iloadn2 dX9_count_22 ?_
    refine V_aloadn0 dX9_count_23 ?_
    refine V_getR dX9_count_24 fX9_10 (by first | assumption | rfl | exact lay_s0 (by omega) | exact lay_s1 (by omega) | exact lay_s2 (by omega) | exact lay_h0 (by omega) | exact lay_h1 (by omega)) (by first | decide | omega) (by first | assumption | exact CL0_0 (by assumption) | exact CL0_1 (by assumption) | exact CL0_3 (by assumption) | exact CL0_4 (by assumption) | exact CL0_5 (by assumption) | exact CL0_6 (by assumption) | exact CL0_7 (by assumption) | exact CL0_8 (by assumption) | exact CL0_9 (by assumption) | exact CL0_10 (by assumption) | exact CL0_11 (by assumption) | exact CL0_12 (by assumption) | exact CL0_13 (by assumption) | exact CL1_2 (by assumption) | exact CL1_3 (by assumption) | exact CL80_2 (by assumption) | exact CL_slot (by assumption) (by omega) | exact (CL_sh (by assumption) (by omega)).1 | exact (CL_sh (by assumption) (by omega)).2.1 | rfl) ?_
    refine V_getI dX9_count_27 fX9_84 (Or.inl rfl) (by first | assumption | rfl | exact lay_s0 (by omega) | exact lay_s1 (by omega) | exact lay_s2 (by omega) | exact lay_h0 (by omega) | exact lay_h1 (by omega)) (by first | decide | omega) (by first | assumption | exact CL0_0 (by assumption) | exact CL0_1 (by assumption) | exact CL0_3 (by assumption) | exact CL0_4 (by assumption) | exact CL0_5 (by assumption) | exact CL0_6 (by assumption) | exact CL0_7 (by assumption) | exact CL0_8 (by assumption) | exact CL0_9 (by assumption) | exact CL0_10 (by assumption) | exact CL0_11 (by assumption) | exact CL0_12 (by assumption) | exact CL0_13 (by assumption) | exact CL1_2 (by assumption) | exact CL1_3 (by assumption) | exact CL80_2 (by assumption) | exact CL_slot (by assumption) (by omega) | exact (CL_sh (by assumption) (by omega)).1 | exact (CL_sh (by assumption) (by omega)).2.1 | rfl) ?_
    refine V_callV2 (μ' := mX1_allowContent) dX9_count_30 okX1_allowContent lX9_232 rfl (by first | assumption | rfl | exact lay_s0 (by omega) | exact lay_s1 (by omega) | exact lay_s2 (by omega) | exact lay_h0 (by omega) | exact lay_h1 (by omega)) (by first | decide | omega) (Nat.le_of_ble_eq_true rfl) (Nat.le_of_ble_eq_true rfl) (by omega) ?_
    refine c_allow (by omega) hn5 (CL67_0 hC1) (fun h2 hA2 hF2 => ?_)
    have hC2 := CLay_eq hC1 hF2.2.2
    have n2 : gI h2 1 0 = nI S.1.1 := by rw [hF2.1 1 (by omega)]; exact n1
    have f2 := fin h2 hC2 (fun c hc => by rw [hF2.1 c (by omega), hF1.1 c (by omega)]) (by rw [hF2.2.1, hF1.2.1]) (fun c hc => by rw [hF2.2.2, hF1.2.2])
    dsimp only [gPush]
    first | refine U_ifB_ne (tgt := 38) dX9_count_33 (by decide) (by with_reducible rfl) (fun c33 => ?_) (fun c33 => ?_) | refine U_if_ne (tgt := 38) dX9_count_33 (by decide) (by with_reducible rfl) (by omega) (fun c33 => ?_) (fun c33 => ?_) | refine V_if_ne (tgt := 38) dX9_count_33 (by decide) (fun c33 => ?_) (fun c33 => ?_)
    · skip
      rw [c33] at hQ
      have hA2' := hA2 c33
      rw [Bool.and_eq_true] at c33
      have hI2 := ShI_fr hI1' hF2 (by omega)
      have s2 := hI2.2.1
      have s6 := hI2.2.2.2.2.1
      refine V_aloadn0 dX9_count_38 ?_
      refine V_getR dX9_count_39 fX9_56 (by first | assumption | rfl | exact lay_s0 (by omega) | exact lay_s1 (by omega) | exact lay_s2 (by omega) | exact lay_h0 (by omega) | exact lay_h1 (by omega)) (by first | decide | omega) (by first | assumption | exact CL0_0 (by assumption) | exact CL0_1 (by assumption) | exact CL0_3 (by assumption) | exact CL0_4 (by assumption) | exact CL0_5 (by assumption) | exact CL0_6 (by assumption) | exact CL0_7 (by assumption) | exact CL0_8 (by assumption) | exact CL0_9 (by assumption) | exact CL0_10 (by assumption) | exact CL0_11 (by assumption) | exact CL0_12 (by assumption) | exact CL0_13 (by assumption) | exact CL1_2 (by assumption) | exact CL1_3 (by assumption) | exact CL80_2 (by assumption) | exact CL_slot (by assumption) (by omega) | exact (CL_sh (by assumption) (by omega)).1 | exact (CL_sh (by assumption) (by omega)).2.1 | rfl) ?_
      refine V_aloadn0 dX9_count_42 ?_
      refine V_getR dX9_count_43 fX9_10 (by first | assumption | rfl | exact lay_s0 (by omega) | exact lay_s1 (by omega) | exact lay_s2 (by omega) | exact lay_h0 (by omega) | exact lay_h1 (by omega)) (by first | decide | omega) (by first | assumption | exact CL0_0 (by assumption) | exact CL0_1 (by assumption) | exact CL0_3 (by assumption) | exact CL0_4 (by assumption) | exact CL0_5 (by assumption) | exact CL0_6 (by assumption) | exact CL0_7 (by assumption) | exact CL0_8 (by assumption) | exact CL0_9 (by assumption) | exact CL0_10 (by assumption) | exact CL0_11 (by assumption) | exact CL0_12 (by assumption) | exact CL0_13 (by assumption) | exact CL1_2 (by assumption) | exact CL1_3 (by assumption) | exact CL80_2 (by assumption) | exact CL_slot (by assumption) (by omega) | exact (CL_sh (by assumption) (by omega)).1 | exact (CL_sh (by assumption) (by omega)).2.1 | rfl) ?_
      refine V_getI dX9_count_46 fX9_84 (Or.inl rfl) (by first | assumption | rfl | exact lay_s0 (by omega) | exact lay_s1 (by omega) | exact lay_s2 (by omega) | exact lay_h0 (by omega) | exact lay_h1 (by omega)) (by first | decide | omega) (by first | assumption | exact CL0_0 (by assumption) | exact CL0_1 (by assumption) | exact CL0_3 (by assumption) | exact CL0_4 (by assumption) | exact CL0_5 (by assumption) | exact CL0_6 (by assumption) | exact CL0_7 (by assumption) | exact CL0_8 (by assumption) | exact CL0_9 (by assumption) | exact CL0_10 (by assumption) | exact CL0_11 (by assumption) | exact CL0_12 (by assumption) | exact CL0_13 (by assumption) | exact CL1_2 (by assumption) | exact CL1_3 (by assumption) | exact CL80_2 (by assumption) | exact CL_slot (by assumption) (by omega) | exact (CL_sh (by assumption) (by omega)).1 | exact (CL_sh (by assumption) (by omega)).2.1 | rfl) ?_
      refine V_callV1 (μ' := mX1_allowedInAll) dX9_count_49 okX1_allowedInAll lX9_235 rfl (by first | assumption | rfl | exact lay_s0 (by omega) | exact lay_s1 (by omega) | exact lay_s2 (by omega) | exact lay_h0 (by omega) | exact lay_h1 (by omega)) (by first | decide | omega) (Nat.le_of_ble_eq_true rfl) (Nat.le_of_ble_eq_true rfl) (by omega) ?_
      refine c_allowedInAll hn5 hA2' (coF_le9 _ _) (CL67_0 hC2) ?_
      have hsb := sumF_le (f := fun i => coF (cN b) S.1.1 (i + 1)) (c := 9) (fun i => coF_le9 _ _ _) S.1.1
      dsimp only [gPush]
      refine V_aloadn0 dX9_count_52 ?_
      refine V_getR dX9_count_53 fX9_63 (by first | assumption | rfl | exact lay_s0 (by omega) | exact lay_s1 (by omega) | exact lay_s2 (by omega) | exact lay_h0 (by omega) | exact lay_h1 (by omega)) (by first | decide | omega) (by first | assumption | exact CL0_0 (by assumption) | exact CL0_1 (by assumption) | exact CL0_3 (by assumption) | exact CL0_4 (by assumption) | exact CL0_5 (by assumption) | exact CL0_6 (by assumption) | exact CL0_7 (by assumption) | exact CL0_8 (by assumption) | exact CL0_9 (by assumption) | exact CL0_10 (by assumption) | exact CL0_11 (by assumption) | exact CL0_12 (by assumption) | exact CL0_13 (by assumption) | exact CL1_2 (by assumption) | exact CL1_3 (by assumption) | exact CL80_2 (by assumption) | exact CL_slot (by assumption) (by omega) | exact (CL_sh (by assumption) (by omega)).1 | exact (CL_sh (by assumption) (by omega)).2.1 | rfl) ?_
      refine V_getI dX9_count_56 fX9_238 (Or.inl rfl) (by first | assumption | rfl | exact lay_s0 (by omega) | exact lay_s1 (by omega) | exact lay_s2 (by omega) | exact lay_h0 (by omega) | exact lay_h1 (by omega)) (by first | decide | omega) (by first | assumption | exact CL0_0 (by assumption) | exact CL0_1 (by assumption) | exact CL0_3 (by assumption) | exact CL0_4 (by assumption) | exact CL0_5 (by assumption) | exact CL0_6 (by assumption) | exact CL0_7 (by assumption) | exact CL0_8 (by assumption) | exact CL0_9 (by assumption) | exact CL0_10 (by assumption) | exact CL0_11 (by assumption) | exact CL0_12 (by assumption) | exact CL0_13 (by assumption) | exact CL1_2 (by assumption) | exact CL1_3 (by assumption) | exact CL80_2 (by assumption) | exact CL_slot (by assumption) (by omega) | exact (CL_sh (by assumption) (by omega)).1 | exact (CL_sh (by assumption) (by omega)).2.1 | rfl) ?_
      have hsb2 : S.1.1 * 9 ≤ 45 := by omega
      first | refine U_icmp_eq (tgt := 64) dX9_count_59 (by decide) (by with_reducible rfl) (by with_reducible rfl) (by omega) (by omega) (fun c59 => ?_) (fun c59 => ?_) | refine V_icmp_eq (tgt := 64) dX9_count_59 (by decide) (fun c59 => ?_) (fun c59 => ?_)
      · skip
        rw [if_t rfl, if_pos c59] at hQ
        refine V_aloadn0 dX9_count_64 ?_
        refine V_getR dX9_count_65 fX9_56 (by first | assumption | rfl | exact lay_s0 (by omega) | exact lay_s1 (by omega) | exact lay_s2 (by omega) | exact lay_h0 (by omega) | exact lay_h1 (by omega)) (by first | decide | omega) (by first | assumption | exact CL0_0 (by assumption) | exact CL0_1 (by assumption) | exact CL0_3 (by assumption) | exact CL0_4 (by assumption) | exact CL0_5 (by assumption) | exact CL0_6 (by assumption) | exact CL0_7 (by assumption) | exact CL0_8 (by assumption) | exact CL0_9 (by assumption) | exact CL0_10 (by assumption) | exact CL0_11 (by assumption) | exact CL0_12 (by assumption) | exact CL0_13 (by assumption) | exact CL1_2 (by assumption) | exact CL1_3 (by assumption) | exact CL80_2 (by assumption) | exact CL_slot (by assumption) (by omega) | exact (CL_sh (by assumption) (by omega)).1 | exact (CL_sh (by assumption) (by omega)).2.1 | rfl) ?_
        refine V_callV0 (μ' := mX1_worthOneEach) dX9_count_68 okX1_worthOneEach lX9_239 rfl (by first | assumption | rfl | exact lay_s0 (by omega) | exact lay_s1 (by omega) | exact lay_s2 (by omega) | exact lay_h0 (by omega) | exact lay_h1 (by omega)) (by first | decide | omega) (Nat.le_of_ble_eq_true rfl) (Nat.le_of_ble_eq_true rfl) (by omega) ?_
        refine c_worthOneEach (by omega) (CL67_1 hC2) (fun h3 hw3 hF3 => ?_)
        have hC3 := CLay_eq hC2 hF3.2.2
        have n3 : gI h3 1 0 = nI S.1.1 := by rw [hF3.1 1 (by omega)]; exact n2
        have hsk := shOk_good (D := cN a) (n := S.1.1) (by unfold shB at c15; rw [Bool.and_eq_true] at c15; exact c15.2)
        dsimp only [gPush]
        refine V_aloadn0 dX9_count_71 ?_
        refine V_getR dX9_count_72 fX9_56 (by first | assumption | rfl | exact lay_s0 (by omega) | exact lay_s1 (by omega) | exact lay_s2 (by omega) | exact lay_h0 (by omega) | exact lay_h1 (by omega)) (by first | decide | omega) (by first | assumption | exact CL0_0 (by assumption) | exact CL0_1 (by assumption) | exact CL0_3 (by assumption) | exact CL0_4 (by assumption) | exact CL0_5 (by assumption) | exact CL0_6 (by assumption) | exact CL0_7 (by assumption) | exact CL0_8 (by assumption) | exact CL0_9 (by assumption) | exact CL0_10 (by assumption) | exact CL0_11 (by assumption) | exact CL0_12 (by assumption) | exact CL0_13 (by assumption) | exact CL1_2 (by assumption) | exact CL1_3 (by assumption) | exact CL80_2 (by assumption) | exact CL_slot (by assumption) (by omega) | exact (CL_sh (by assumption) (by omega)).1 | exact (CL_sh (by assumption) (by omega)).2.1 | rfl) ?_
        refine V_aloadn0 dX9_count_75 ?_
        refine V_getR dX9_count_76 fX9_63 (by first | assumption | rfl | exact lay_s0 (by omega) | exact lay_s1 (by omega) | exact lay_s2 (by omega) | exact lay_h0 (by omega) | exact lay_h1 (by omega)) (by first | decide | omega) (by first | assumption | exact CL0_0 (by assumption) | exact CL0_1 (by assumption) | exact CL0_3 (by assumption) | exact CL0_4 (by assumption) | exact CL0_5 (by assumption) | exact CL0_6 (by assumption) | exact CL0_7 (by assumption) | exact CL0_8 (by assumption) | exact CL0_9 (by assumption) | exact CL0_10 (by assumption) | exact CL0_11 (by assumption) | exact CL0_12 (by assumption) | exact CL0_13 (by assumption) | exact CL1_2 (by assumption) | exact CL1_3 (by assumption) | exact CL80_2 (by assumption) | exact CL_slot (by assumption) (by omega) | exact (CL_sh (by assumption) (by omega)).1 | exact (CL_sh (by assumption) (by omega)).2.1 | rfl) ?_
        refine V_aloadn0 dX9_count_79 ?_
        refine V_getR dX9_count_80 fX9_10 (by first | assumption | rfl | exact lay_s0 (by omega) | exact lay_s1 (by omega) | exact lay_s2 (by omega) | exact lay_h0 (by omega) | exact lay_h1 (by omega)) (by first | decide | omega) (by first | assumption | exact CL0_0 (by assumption) | exact CL0_1 (by assumption) | exact CL0_3 (by assumption) | exact CL0_4 (by assumption) | exact CL0_5 (by assumption) | exact CL0_6 (by assumption) | exact CL0_7 (by assumption) | exact CL0_8 (by assumption) | exact CL0_9 (by assumption) | exact CL0_10 (by assumption) | exact CL0_11 (by assumption) | exact CL0_12 (by assumption) | exact CL0_13 (by assumption) | exact CL1_2 (by assumption) | exact CL1_3 (by assumption) | exact CL80_2 (by assumption) | exact CL_slot (by assumption) (by omega) | exact (CL_sh (by assumption) (by omega)).1 | exact (CL_sh (by assumption) (by omega)).2.1 | rfl) ?_
        refine V_getI dX9_count_83 fX9_84 (Or.inl rfl) (by first | assumption | rfl | exact lay_s0 (by omega) | exact lay_s1 (by omega) | exact lay_s2 (by omega) | exact lay_h0 (by omega) | exact lay_h1 (by omega)) (by first | decide | omega) (by first | assumption | exact CL0_0 (by assumption) | exact CL0_1 (by assumption) | exact CL0_3 (by assumption) | exact CL0_4 (by assumption) | exact CL0_5 (by assumption) | exact CL0_6 (by assumption) | exact CL0_7 (by assumption) | exact CL0_8 (by assumption) | exact CL0_9 (by assumption) | exact CL0_10 (by assumption) | exact CL0_11 (by assumption) | exact CL0_12 (by assumption) | exact CL0_13 (by assumption) | exact CL1_2 (by assumption) | exact CL1_3 (by assumption) | exact CL80_2 (by assumption) | exact CL_slot (by assumption) (by omega) | exact (CL_sh (by assumption) (by omega)).1 | exact (CL_sh (by assumption) (by omega)).2.1 | rfl) ?_
        refine V_callV2 (μ' := mX1_sum) dX9_count_86 okX1_sum lX9_242 rfl (by first | assumption | rfl | exact lay_s0 (by omega) | exact lay_s1 (by omega) | exact lay_s2 (by omega) | exact lay_h0 (by omega) | exact lay_h1 (by omega)) (by first | decide | omega) (Nat.le_of_ble_eq_true rfl) (Nat.le_of_ble_eq_true rfl) (by omega) ?_
        refine c_sum (wt := fun _ => nI 1) (A := coF (cN b) S.1.1) (by omega) hn5 (by omega) (CL_FlP hC3) (CL_74 hC3) (Or.inl rfl) (ShI_fr hI2 hF3 (by omega)) hsk.1 (fun x x1 x2 => by rw [hF3.1 68 (by omega)]; exact hA2' x x1 x2) (fun x x1 x2 => coOk_6 c33.2 x1 x2) (fun x x1 x2 => hw3 x x2) (fun h4 hF4 => ?_)
        have f4 := fin h4 (CLay_G hC3 hF4.2.2.1 hF4.2.2.2) (fun c hc => by rw [hF4.1 c (by omega) (by omega), hF3.1 c (by omega), hF2.1 c (by omega), hF1.1 c (by omega)]) (by rw [hF4.2.1, hF3.2.1, hF2.2.1, hF1.2.1]) (fun c hc => by rw [hF4.2.2.1 c hc, hF3.2.2, hF2.2.2, hF1.2.2])
        have hQ9 := hQ h4 f4.1 f4.2
        dsimp only [gPush]
        refine V_l2i dX9_count_89 rfl ?_
        refine V_iret dX9_count_90 rfl rfl ?_
        exact hQ9
      · skip
        rw [if_t rfl, if_neg c59] at hQ
        have hQ9 := hQ h2 f2.1 f2.2
        refine V_iconst (v := nI 0) dX9_count_62 (by decide) ?_
        refine V_iret dX9_count_63 rfl rfl ?_
        exact hQ9
    · skip
      rw [c33] at hQ
      have hQ9 := hQ h2 f2.1 f2.2
      refine V_iconst (v := -1) dX9_count_36 (by decide) ?_
      refine V_iret dX9_count_37 rfl rfl ?_
      exact hQ9
set_option maxRecDepth 100000 in
set_option maxHeartbeats 4000000 in
theorem c_worthOf {a : Int32} (hd : 19 ≤ d) (hR : RC h S) (hQ : ∀ h', RC h' S → FrC h h' → Q (some (.int (g_worthOf S a))) h') : V Γ mX9_worthOf d 124 124 h 0 [some (.ref 0), some (.int a), none, none] [] Q := by
  obtain ⟨hC, hW, hA, hK, hK2, hB, hSh, hFm⟩ := id hR
  have n0 := hA.1
  have hn2 := hW.1.1
  have hn5 := hW.1.2.1
  unfold g_worthOf at hQ
  have fin : ∀ h', CLay h' → (∀ c, c < 46 ∨ (58 ≤ c ∧ c < 67) ∨ 80 ≤ c → gI h' c = gI h c) → gL h' = gL h → (∀ c, c ≠ 67 → gR h' c = gR h c) → RC h' S ∧ FrC h h' := fun h' c' e l k => ⟨RC_S hR ⟨fun c hc => e c (by omega), by rw [e 43 (by omega)], fun c hc => by rw [l], c'⟩, ⟨fun c hc => e c (by omega), fun c hc => by rw [l], fun c hc => k c (by omega)⟩⟩
  refine V_aloadn0 dX9_worthOf_0 ?_
  refine V_getR dX9_worthOf_1 fX9_63 (by first | assumption | rfl | exact lay_s0 (by omega) | exact lay_s1 (by omega) | exact lay_s2 (by omega) | exact lay_h0 (by omega) | exact lay_h1 (by omega)) (by first | decide | omega) (by first | assumption | exact CL0_0 (by assumption) | exact CL0_1 (by assumption) | exact CL0_3 (by assumption) | exact CL0_4 (by assumption) | exact CL0_5 (by assumption) | exact CL0_6 (by assumption) | exact CL0_7 (by assumption) | exact CL0_8 (by assumption) | exact CL0_9 (by assumption) | exact CL0_10 (by assumption) | exact CL0_11 (by assumption) | exact CL0_12 (by assumption) | exact CL0_13 (by assumption) | exact CL1_2 (by assumption) | exact CL1_3 (by assumption) | exact CL80_2 (by assumption) | exact CL_slot (by assumption) (by omega) | exact (CL_sh (by assumption) (by omega)).1 | exact (CL_sh (by assumption) (by omega)).2.1 | rfl) ?_
  refine V_iloadn1 dX9_worthOf_4 ?_
  refine V_aloadn0 dX9_worthOf_5 ?_
  refine V_getR dX9_worthOf_6 fX9_10 (by first | assumption | rfl | exact lay_s0 (by omega) | exact lay_s1 (by omega) | exact lay_s2 (by omega) | exact lay_h0 (by omega) | exact lay_h1 (by omega)) (by first | decide | omega) (by first | assumption | exact CL0_0 (by assumption) | exact CL0_1 (by assumption) | exact CL0_3 (by assumption) | exact CL0_4 (by assumption) | exact CL0_5 (by assumption) | exact CL0_6 (by assumption) | exact CL0_7 (by assumption) | exact CL0_8 (by assumption) | exact CL0_9 (by assumption) | exact CL0_10 (by assumption) | exact CL0_11 (by assumption) | exact CL0_12 (by assumption) | exact CL0_13 (by assumption) | exact CL1_2 (by assumption) | exact CL1_3 (by assumption) | exact CL80_2 (by assumption) | exact CL_slot (by assumption) (by omega) | exact (CL_sh (by assumption) (by omega)).1 | exact (CL_sh (by assumption) (by omega)).2.1 | rfl) ?_
  refine V_getI dX9_worthOf_9 fX9_84 (Or.inl rfl) (by first | assumption | rfl | exact lay_s0 (by omega) | exact lay_s1 (by omega) | exact lay_s2 (by omega) | exact lay_h0 (by omega) | exact lay_h1 (by omega)) (by first | decide | omega) (by first | assumption | exact CL0_0 (by assumption) | exact CL0_1 (by assumption) | exact CL0_3 (by assumption) | exact CL0_4 (by assumption) | exact CL0_5 (by assumption) | exact CL0_6 (by assumption) | exact CL0_7 (by assumption) | exact CL0_8 (by assumption) | exact CL0_9 (by assumption) | exact CL0_10 (by assumption) | exact CL0_11 (by assumption) | exact CL0_12 (by assumption) | exact CL0_13 (by assumption) | exact CL1_2 (by assumption) | exact CL1_3 (by assumption) | exact CL80_2 (by assumption) | exact CL_slot (by assumption) (by omega) | exact (CL_sh (by assumption) (by omega)).1 | exact (CL_sh (by assumption) (by omega)).2.1 | rfl) ?_
  refine V_callV2 (μ' := mX4_isTold) dX9_worthOf_12 okX4_isTold lX9_229 rfl (by first | assumption | rfl | exact lay_s0 (by omega) | exact lay_s1 (by omega) | exact lay_s2 (by omega) | exact lay_h0 (by omega) | exact lay_h1 (by omega)) (by first | decide | omega) (Nat.le_of_ble_eq_true rfl) (Nat.le_of_ble_eq_true rfl) (by omega) ?_
  refine c_told (by omega) hn5 (CL_74 hC) (fun h1 hI1 hF1 => ?_)
  have hC1 := CLay_eq hC hF1.2.2
  dsimp only [gPush]
  first | refine U_ifB_ne (tgt := 20) dX9_worthOf_15 (by decide) (by with_reducible rfl) (fun c15 => ?_) (fun c15 => ?_) | refine U_if_ne (tgt := 20) dX9_worthOf_15 (by decide) (by with_reducible rfl) (by omega) (fun c15 => ?_) (fun c15 => ?_) | refine V_if_ne (tgt := 20) dX9_worthOf_15 (by decide) (fun c15 => ?_) (fun c15 => ?_)
  · skip
    rw [if_t c15] at hQ
    have hI1' := hI1 c15
    refine V_aloadn0 dX9_worthOf_20 ?_
    refine V_getR dX9_worthOf_21 fX9_56 (by first | assumption | rfl | exact lay_s0 (by omega) | exact lay_s1 (by omega) | exact lay_s2 (by omega) | exact lay_h0 (by omega) | exact lay_h1 (by omega)) (by first | decide | omega) (by first | assumption | exact CL0_0 (by assumption) | exact CL0_1 (by assumption) | exact CL0_3 (by assumption) | exact CL0_4 (by assumption) | exact CL0_5 (by assumption) | exact CL0_6 (by assumption) | exact CL0_7 (by assumption) | exact CL0_8 (by assumption) | exact CL0_9 (by assumption) | exact CL0_10 (by assumption) | exact CL0_11 (by assumption) | exact CL0_12 (by assumption) | exact CL0_13 (by assumption) | exact CL1_2 (by assumption) | exact CL1_3 (by assumption) | exact CL80_2 (by assumption) | exact CL_slot (by assumption) (by omega) | exact (CL_sh (by assumption) (by omega)).1 | exact (CL_sh (by assumption) (by omega)).2.1 | rfl) ?_
    refine V_callV0 (μ' := mX1_allowAny) dX9_worthOf_24 okX1_allowAny lX9_261 rfl (by first | assumption | rfl | exact lay_s0 (by omega) | exact lay_s1 (by omega) | exact lay_s2 (by omega) | exact lay_h0 (by omega) | exact lay_h1 (by omega)) (by first | decide | omega) (Nat.le_of_ble_eq_true rfl) (Nat.le_of_ble_eq_true rfl) (by omega) ?_
    refine c_allowAny (by omega) (CL67_0 hC1) (fun h2 hA2 hF2 => ?_)
    have hC2 := CLay_eq hC1 hF2.2.2
    dsimp only [gPush]
    refine V_aloadn0 dX9_worthOf_27 ?_
    refine V_getR dX9_worthOf_28 fX9_56 (by first | assumption | rfl | exact lay_s0 (by omega) | exact lay_s1 (by omega) | exact lay_s2 (by omega) | exact lay_h0 (by omega) | exact lay_h1 (by omega)) (by first | decide | omega) (by first | assumption | exact CL0_0 (by assumption) | exact CL0_1 (by assumption) | exact CL0_3 (by assumption) | exact CL0_4 (by assumption) | exact CL0_5 (by assumption) | exact CL0_6 (by assumption) | exact CL0_7 (by assumption) | exact CL0_8 (by assumption) | exact CL0_9 (by assumption) | exact CL0_10 (by assumption) | exact CL0_11 (by assumption) | exact CL0_12 (by assumption) | exact CL0_13 (by assumption) | exact CL1_2 (by assumption) | exact CL1_3 (by assumption) | exact CL80_2 (by assumption) | exact CL_slot (by assumption) (by omega) | exact (CL_sh (by assumption) (by omega)).1 | exact (CL_sh (by assumption) (by omega)).2.1 | rfl) ?_
    refine V_aloadn0 dX9_worthOf_31 ?_
    refine V_getR dX9_worthOf_32 fX9_10 (by first | assumption | rfl | exact lay_s0 (by omega) | exact lay_s1 (by omega) | exact lay_s2 (by omega) | exact lay_h0 (by omega) | exact lay_h1 (by omega)) (by first | decide | omega) (by first | assumption | exact CL0_0 (by assumption) | exact CL0_1 (by assumption) | exact CL0_3 (by assumption) | exact CL0_4 (by assumption) | exact CL0_5 (by assumption) | exact CL0_6 (by assumption) | exact CL0_7 (by assumption) | exact CL0_8 (by assumption) | exact CL0_9 (by assumption) | exact CL0_10 (by assumption) | exact CL0_11 (by assumption) | exact CL0_12 (by assumption) | exact CL0_13 (by assumption) | exact CL1_2 (by assumption) | exact CL1_3 (by assumption) | exact CL80_2 (by assumption) | exact CL_slot (by assumption) (by omega) | exact (CL_sh (by assumption) (by omega)).1 | exact (CL_sh (by assumption) (by omega)).2.1 | rfl) ?_
    refine V_getR dX9_worthOf_35 fX9_257 (by first | assumption | rfl | exact lay_s0 (by omega) | exact lay_s1 (by omega) | exact lay_s2 (by omega) | exact lay_h0 (by omega) | exact lay_h1 (by omega)) (by first | decide | omega) (by first | assumption | exact CL0_0 (by assumption) | exact CL0_1 (by assumption) | exact CL0_3 (by assumption) | exact CL0_4 (by assumption) | exact CL0_5 (by assumption) | exact CL0_6 (by assumption) | exact CL0_7 (by assumption) | exact CL0_8 (by assumption) | exact CL0_9 (by assumption) | exact CL0_10 (by assumption) | exact CL0_11 (by assumption) | exact CL0_12 (by assumption) | exact CL0_13 (by assumption) | exact CL1_2 (by assumption) | exact CL1_3 (by assumption) | exact CL80_2 (by assumption) | exact CL_slot (by assumption) (by omega) | exact (CL_sh (by assumption) (by omega)).1 | exact (CL_sh (by assumption) (by omega)).2.1 | rfl) ?_
    refine V_callV1 (μ' := mX1_worthAs) dX9_worthOf_38 okX1_worthAs lX9_264 rfl (by first | assumption | rfl | exact lay_s0 (by omega) | exact lay_s1 (by omega) | exact lay_s2 (by omega) | exact lay_h0 (by omega) | exact lay_h1 (by omega)) (by first | decide | omega) (Nat.le_of_ble_eq_true rfl) (Nat.le_of_ble_eq_true rfl) (by omega) ?_
    refine c_worthAs (by omega) (CL67_1 hC2) (fun h3 hw3 hF3 => ?_)
    have hC3 := CLay_eq hC2 hF3.2.2
    have n3 : gI h3 1 0 = nI S.1.1 := by rw [hF3.1 1 (by omega), hF2.1 1 (by omega), hF1.1 1 (by omega)]; exact n0
    have hsk := shOk_good (D := cN a) (n := S.1.1) (by unfold shB at c15; rw [Bool.and_eq_true] at c15; exact c15.2)
    dsimp only [gPush]
    refine V_aloadn0 dX9_worthOf_41 ?_
    refine V_getR dX9_worthOf_42 fX9_56 (by first | assumption | rfl | exact lay_s0 (by omega) | exact lay_s1 (by omega) | exact lay_s2 (by omega) | exact lay_h0 (by omega) | exact lay_h1 (by omega)) (by first | decide | omega) (by first | assumption | exact CL0_0 (by assumption) | exact CL0_1 (by assumption) | exact CL0_3 (by assumption) | exact CL0_4 (by assumption) | exact CL0_5 (by assumption) | exact CL0_6 (by assumption) | exact CL0_7 (by assumption) | exact CL0_8 (by assumption) | exact CL0_9 (by assumption) | exact CL0_10 (by assumption) | exact CL0_11 (by assumption) | exact CL0_12 (by assumption) | exact CL0_13 (by assumption) | exact CL1_2 (by assumption) | exact CL1_3 (by assumption) | exact CL80_2 (by assumption) | exact CL_slot (by assumption) (by omega) | exact (CL_sh (by assumption) (by omega)).1 | exact (CL_sh (by assumption) (by omega)).2.1 | rfl) ?_
    refine V_aloadn0 dX9_worthOf_45 ?_
    refine V_getR dX9_worthOf_46 fX9_63 (by first | assumption | rfl | exact lay_s0 (by omega) | exact lay_s1 (by omega) | exact lay_s2 (by omega) | exact lay_h0 (by omega) | exact lay_h1 (by omega)) (by first | decide | omega) (by first | assumption | exact CL0_0 (by assumption) | exact CL0_1 (by assumption) | exact CL0_3 (by assumption) | exact CL0_4 (by assumption) | exact CL0_5 (by assumption) | exact CL0_6 (by assumption) | exact CL0_7 (by assumption) | exact CL0_8 (by assumption) | exact CL0_9 (by assumption) | exact CL0_10 (by assumption) | exact CL0_11 (by assumption) | exact CL0_12 (by assumption) | exact CL0_13 (by assumption) | exact CL1_2 (by assumption) | exact CL1_3 (by assumption) | exact CL80_2 (by assumption) | exact CL_slot (by assumption) (by omega) | exact (CL_sh (by assumption) (by omega)).1 | exact (CL_sh (by assumption) (by omega)).2.1 | rfl) ?_
    refine V_aloadn0 dX9_worthOf_49 ?_
    refine V_getR dX9_worthOf_50 fX9_10 (by first | assumption | rfl | exact lay_s0 (by omega) | exact lay_s1 (by omega) | exact lay_s2 (by omega) | exact lay_h0 (by omega) | exact lay_h1 (by omega)) (by first | decide | omega) (by first | assumption | exact CL0_0 (by assumption) | exact CL0_1 (by assumption) | exact CL0_3 (by assumption) | exact CL0_4 (by assumption) | exact CL0_5 (by assumption) | exact CL0_6 (by assumption) | exact CL0_7 (by assumption) | exact CL0_8 (by assumption) | exact CL0_9 (by assumption) | exact CL0_10 (by assumption) | exact CL0_11 (by assumption) | exact CL0_12 (by assumption) | exact CL0_13 (by assumption) | exact CL1_2 (by assumption) | exact CL1_3 (by assumption) | exact CL80_2 (by assumption) | exact CL_slot (by assumption) (by omega) | exact (CL_sh (by assumption) (by omega)).1 | exact (CL_sh (by assumption) (by omega)).2.1 | rfl) ?_
    refine V_getI dX9_worthOf_53 fX9_84 (Or.inl rfl) (by first | assumption | rfl | exact lay_s0 (by omega) | exact lay_s1 (by omega) | exact lay_s2 (by omega) | exact lay_h0 (by omega) | exact lay_h1 (by omega)) (by first | decide | omega) (by first | assumption | exact CL0_0 (by assumption) | exact CL0_1 (by assumption) | exact CL0_3 (by assumption) | exact CL0_4 (by assumption) | exact CL0_5 (by assumption) | exact CL0_6 (by assumption) | exact CL0_7 (by assumption) | exact CL0_8 (by assumption) | exact CL0_9 (by assumption) | exact CL0_10 (by assumption) | exact CL0_11 (by assumption) | exact CL0_12 (by assumption) | exact CL0_13 (by assumption) | exact CL1_2 (by assumption) | exact CL1_3 (by assumption) | exact CL80_2 (by assumption) | exact CL_slot (by assumption) (by omega) | exact (CL_sh (by assumption) (by omega)).1 | exact (CL_sh (by assumption) (by omega)).2.1 | rfl) ?_
    refine V_callV2 (μ' := mX1_sum) dX9_worthOf_56 okX1_sum lX9_242 rfl (by first | assumption | rfl | exact lay_s0 (by omega) | exact lay_s1 (by omega) | exact lay_s2 (by omega) | exact lay_h0 (by omega) | exact lay_h1 (by omega)) (by first | decide | omega) (Nat.le_of_ble_eq_true rfl) (Nat.le_of_ble_eq_true rfl) (by omega) ?_
    refine c_sum (wt := fun x => nI (S.1.2.2.2 x)) (A := fun _ => 6) (by omega) hn5 (by omega) (CL_FlP hC3) (CL_74 hC3) (Or.inl rfl) (ShI_fr (ShI_fr hI1' hF2 (by omega)) hF3 (by omega)) hsk.1 (fun x x1 x2 => by rw [hF3.1 68 (by omega)]; exact hA2 x x1 (by omega)) (fun x x1 x2 => Nat.le_refl _) (fun x x1 x2 => by rw [hw3 x x2, hF2.1 3 (by omega), hF1.1 3 (by omega)]; exact hA.2.2.2 x x1 (by omega)) (fun h4 hF4 => ?_)
    have f4 := fin h4 (CLay_G hC3 hF4.2.2.1 hF4.2.2.2) (fun c hc => by rw [hF4.1 c (by omega) (by omega), hF3.1 c (by omega), hF2.1 c (by omega), hF1.1 c (by omega)]) (by rw [hF4.2.1, hF3.2.1, hF2.2.1, hF1.2.1]) (fun c hc => by rw [hF4.2.2.1 c hc, hF3.2.2, hF2.2.2, hF1.2.2])
    have hQ9 := hQ h4 f4.1 f4.2
    dsimp only [gPush]
    refine V_lstoren2 dX9_worthOf_59 (by decide) rfl ?_
    refine V_lloadn2 dX9_worthOf_60 ?_
    refine V_ldc2 (v := 2147483647) dX9_worthOf_61 kX9_268 ?_
    refine V_lcmp dX9_worthOf_64 ?_
    first | refine U_if_le (tgt := 73) dX9_worthOf_65 (by decide) (by with_reducible rfl) (by omega) (fun c65 => ?_) (fun c65 => ?_) | refine V_if_le (tgt := 73) dX9_worthOf_65 (by decide) (fun c65 => ?_) (fun c65 => ?_)
    · skip
      rw [if_neg (show ¬ 2147483647 < woF S a from lg_le.mp c65)] at hQ9
      refine V_lloadn2 dX9_worthOf_73 ?_
      refine V_l2i dX9_worthOf_74 rfl ?_
      refine V_iret dX9_worthOf_75 rfl rfl ?_
      exact hQ9
    · skip
      rw [if_pos (show 2147483647 < woF S a from Classical.byContradiction (fun q => c65 (lg_le.mpr q)))] at hQ9
      refine V_bipush (v := -16) dX9_worthOf_68 (by decide) ?_
      refine V_goto (tgt := 75) dX9_worthOf_70 (by decide) ?_
      refine V_iret dX9_worthOf_75 rfl rfl ?_
      exact hQ9
  · skip
    rw [if_f c15] at hQ
    have f1 := fin h1 hC1 (fun c hc => hF1.1 c (by omega)) hF1.2.1 (fun c hc => by rw [hF1.2.2])
    have hQ9 := hQ h1 f1.1 f1.2
    refine V_iconst (v := -1) dX9_worthOf_18 (by decide) ?_
    refine V_iret dX9_worthOf_19 rfl rfl ?_
    exact hQ9
set_option maxRecDepth 100000 in
set_option maxHeartbeats 4000000 in
theorem c_together {a b c : Int32} (hd : 19 ≤ d) (hR : RC h S) (hQ : ∀ h', RC h' S → FrC h h' → Q (some (.int (g_together S a b c))) h') : V Γ mX9_together d 124 124 h 0 [some (.ref 0), some (.int a), some (.int b), some (.int c), none] [] Q := by
  obtain ⟨hC, hW, hA, hK, hK2, hB, hSh, hFm⟩ := id hR
  have n0 := hA.1
  have hn2 := hW.1.1
  have hn5 := hW.1.2.1
  unfold g_together at hQ
  have fin : ∀ h', CLay h' → (∀ c, c < 46 ∨ (58 ≤ c ∧ c < 67) ∨ 80 ≤ c → gI h' c = gI h c) → gL h' = gL h → (∀ c, c ≠ 67 → gR h' c = gR h c) → RC h' S ∧ FrC h h' := fun h' c' e l k => ⟨RC_S hR ⟨fun c hc => e c (by omega), by rw [e 43 (by omega)], fun c hc => by rw [l], c'⟩, ⟨fun c hc => e c (by omega), fun c hc => by rw [l], fun c hc => k c (by omega)⟩⟩
  cases hdo : difOk (shL c) (shL a) with
  | false =>
    refine V_aloadn0 dX9_together_0 ?_
    refine V_getR dX9_together_1 fX9_63 (by first | assumption | rfl | exact lay_s0 (by omega) | exact lay_s1 (by omega) | exact lay_s2 (by omega) | exact lay_h0 (by omega) | exact lay_h1 (by omega)) (by first | decide | omega) (by first | assumption | exact CL0_0 (by assumption) | exact CL0_1 (by assumption) | exact CL0_3 (by assumption) | exact CL0_4 (by assumption) | exact CL0_5 (by assumption) | exact CL0_6 (by assumption) | exact CL0_7 (by assumption) | exact CL0_8 (by assumption) | exact CL0_9 (by assumption) | exact CL0_10 (by assumption) | exact CL0_11 (by assumption) | exact CL0_12 (by assumption) | exact CL0_13 (by assumption) | exact CL1_2 (by assumption) | exact CL1_3 (by assumption) | exact CL80_2 (by assumption) | exact CL_slot (by assumption) (by omega) | exact (CL_sh (by assumption) (by omega)).1 | exact (CL_sh (by assumption) (by omega)).2.1 | rfl) ?_
    refine V_iloadn1 dX9_together_4 ?_
    refine V_aloadn0 dX9_together_5 ?_
    refine V_getR dX9_together_6 fX9_10 (by first | assumption | rfl | exact lay_s0 (by omega) | exact lay_s1 (by omega) | exact lay_s2 (by omega) | exact lay_h0 (by omega) | exact lay_h1 (by omega)) (by first | decide | omega) (by first | assumption | exact CL0_0 (by assumption) | exact CL0_1 (by assumption) | exact CL0_3 (by assumption) | exact CL0_4 (by assumption) | exact CL0_5 (by assumption) | exact CL0_6 (by assumption) | exact CL0_7 (by assumption) | exact CL0_8 (by assumption) | exact CL0_9 (by assumption) | exact CL0_10 (by assumption) | exact CL0_11 (by assumption) | exact CL0_12 (by assumption) | exact CL0_13 (by assumption) | exact CL1_2 (by assumption) | exact CL1_3 (by assumption) | exact CL80_2 (by assumption) | exact CL_slot (by assumption) (by omega) | exact (CL_sh (by assumption) (by omega)).1 | exact (CL_sh (by assumption) (by omega)).2.1 | rfl) ?_
    refine V_getI dX9_together_9 fX9_84 (Or.inl rfl) (by first | assumption | rfl | exact lay_s0 (by omega) | exact lay_s1 (by omega) | exact lay_s2 (by omega) | exact lay_h0 (by omega) | exact lay_h1 (by omega)) (by first | decide | omega) (by first | assumption | exact CL0_0 (by assumption) | exact CL0_1 (by assumption) | exact CL0_3 (by assumption) | exact CL0_4 (by assumption) | exact CL0_5 (by assumption) | exact CL0_6 (by assumption) | exact CL0_7 (by assumption) | exact CL0_8 (by assumption) | exact CL0_9 (by assumption) | exact CL0_10 (by assumption) | exact CL0_11 (by assumption) | exact CL0_12 (by assumption) | exact CL0_13 (by assumption) | exact CL1_2 (by assumption) | exact CL1_3 (by assumption) | exact CL80_2 (by assumption) | exact CL_slot (by assumption) (by omega) | exact (CL_sh (by assumption) (by omega)).1 | exact (CL_sh (by assumption) (by omega)).2.1 | rfl) ?_
    refine V_callV2 (μ' := mX4_isTold) dX9_together_12 okX4_isTold lX9_229 rfl (by first | assumption | rfl | exact lay_s0 (by omega) | exact lay_s1 (by omega) | exact lay_s2 (by omega) | exact lay_h0 (by omega) | exact lay_h1 (by omega)) (by first | decide | omega) (Nat.le_of_ble_eq_true rfl) (Nat.le_of_ble_eq_true rfl) (by omega) ?_
    refine c_told (by omega) hn5 (CL_74 hC) (fun h1 hI1 hF1 => ?_)
    have hC1 := CLay_eq hC hF1.2.2
    have n1 : gI h1 1 0 = nI S.1.1 := by rw [hF1.1 1 (by omega)]; exact n0
    have f1 := fin h1 hC1 (fun c hc => hF1.1 c (by omega)) hF1.2.1 (fun c hc => by rw [hF1.2.2])
    dsimp only [gPush]
    first | refine U_ifB_eq (tgt := 54) dX9_together_15 (by decide) (by with_reducible rfl) (fun c15 => ?_) (fun c15 => ?_) | refine U_if_eq (tgt := 54) dX9_together_15 (by decide) (by with_reducible rfl) (by omega) (fun c15 => ?_) (fun c15 => ?_) | refine V_if_eq (tgt := 54) dX9_together_15 (by decide) (fun c15 => ?_) (fun c15 => ?_)
    · skip
      rw [c15, Bool.false_and] at hQ
      have hQ9 := hQ h1 f1.1 f1.2
      refine V_iconst (v := -1) dX9_together_54 (by decide) ?_
      refine V_iret dX9_together_55 rfl rfl ?_
      exact hQ9
    · skip
      rw [c15, Bool.true_and] at hQ
      have hI1' := hI1 c15
      refine V_aloadn0 dX9_together_18 ?_
      refine V_getR dX9_together_19 fX9_67 (by first | assumption | rfl | exact lay_s0 (by omega) | exact lay_s1 (by omega) | exact lay_s2 (by omega) | exact lay_h0 (by omega) | exact lay_h1 (by omega)) (by first | decide | omega) (by first | assumption | exact CL0_0 (by assumption) | exact CL0_1 (by assumption) | exact CL0_3 (by assumption) | exact CL0_4 (by assumption) | exact CL0_5 (by assumption) | exact CL0_6 (by assumption) | exact CL0_7 (by assumption) | exact CL0_8 (by assumption) | exact CL0_9 (by assumption) | exact CL0_10 (by assumption) | exact CL0_11 (by assumption) | exact CL0_12 (by assumption) | exact CL0_13 (by assumption) | exact CL1_2 (by assumption) | exact CL1_3 (by assumption) | exact CL80_2 (by assumption) | exact CL_slot (by assumption) (by omega) | exact (CL_sh (by assumption) (by omega)).1 | exact (CL_sh (by assumption) (by omega)).2.1 | rfl) ?_
      refine V_iloadn2 dX9_together_22 ?_
      refine V_aloadn0 dX9_together_23 ?_
      refine V_getR dX9_together_24 fX9_10 (by first | assumption | rfl | exact lay_s0 (by omega) | exact lay_s1 (by omega) | exact lay_s2 (by omega) | exact lay_h0 (by omega) | exact lay_h1 (by omega)) (by first | decide | omega) (by first | assumption | exact CL0_0 (by assumption) | exact CL0_1 (by assumption) | exact CL0_3 (by assumption) | exact CL0_4 (by assumption) | exact CL0_5 (by assumption) | exact CL0_6 (by assumption) | exact CL0_7 (by assumption) | exact CL0_8 (by assumption) | exact CL0_9 (by assumption) | exact CL0_10 (by assumption) | exact CL0_11 (by assumption) | exact CL0_12 (by assumption) | exact CL0_13 (by assumption) | exact CL1_2 (by assumption) | exact CL1_3 (by assumption) | exact CL80_2 (by assumption) | exact CL_slot (by assumption) (by omega) | exact (CL_sh (by assumption) (by omega)).1 | exact (CL_sh (by assumption) (by omega)).2.1 | rfl) ?_
      refine V_getI dX9_together_27 fX9_84 (Or.inl rfl) (by first | assumption | rfl | exact lay_s0 (by omega) | exact lay_s1 (by omega) | exact lay_s2 (by omega) | exact lay_h0 (by omega) | exact lay_h1 (by omega)) (by first | decide | omega) (by first | assumption | exact CL0_0 (by assumption) | exact CL0_1 (by assumption) | exact CL0_3 (by assumption) | exact CL0_4 (by assumption) | exact CL0_5 (by assumption) | exact CL0_6 (by assumption) | exact CL0_7 (by assumption) | exact CL0_8 (by assumption) | exact CL0_9 (by assumption) | exact CL0_10 (by assumption) | exact CL0_11 (by assumption) | exact CL0_12 (by assumption) | exact CL0_13 (by assumption) | exact CL1_2 (by assumption) | exact CL1_3 (by assumption) | exact CL80_2 (by assumption) | exact CL_slot (by assumption) (by omega) | exact (CL_sh (by assumption) (by omega)).1 | exact (CL_sh (by assumption) (by omega)).2.1 | rfl) ?_
      refine V_callV2 (μ' := mX4_isTold) dX9_together_30 okX4_isTold lX9_229 rfl (by first | assumption | rfl | exact lay_s0 (by omega) | exact lay_s1 (by omega) | exact lay_s2 (by omega) | exact lay_h0 (by omega) | exact lay_h1 (by omega)) (by first | decide | omega) (Nat.le_of_ble_eq_true rfl) (Nat.le_of_ble_eq_true rfl) (by omega) ?_
      refine c_told (by omega) hn5 (CL_76 hC1) (fun h2 hI2 hF2 => ?_)
      have hC2 := CLay_eq hC1 hF2.2.2
      have n2 : gI h2 1 0 = nI S.1.1 := by rw [hF2.1 1 (by omega)]; exact n1
      have f2 := fin h2 hC2 (fun c hc => by rw [hF2.1 c (by omega), hF1.1 c (by omega)]) (by rw [hF2.2.1, hF1.2.1]) (fun c hc => by rw [hF2.2.2, hF1.2.2])
      dsimp only [gPush]
      first | refine U_ifB_eq (tgt := 54) dX9_together_33 (by decide) (by with_reducible rfl) (fun c33 => ?_) (fun c33 => ?_) | refine U_if_eq (tgt := 54) dX9_together_33 (by decide) (by with_reducible rfl) (by omega) (fun c33 => ?_) (fun c33 => ?_) | refine V_if_eq (tgt := 54) dX9_together_33 (by decide) (fun c33 => ?_) (fun c33 => ?_)
      · skip
        rw [c33, Bool.false_and] at hQ
        have hQ9 := hQ h2 f2.1 f2.2
        refine V_iconst (v := -1) dX9_together_54 (by decide) ?_
        refine V_iret dX9_together_55 rfl rfl ?_
        exact hQ9
      · skip
        rw [c33, Bool.true_and] at hQ
        have hI2' := hI2 c33
        refine V_aloadn0 dX9_together_36 ?_
        refine V_getR dX9_together_37 fX9_70 (by first | assumption | rfl | exact lay_s0 (by omega) | exact lay_s1 (by omega) | exact lay_s2 (by omega) | exact lay_h0 (by omega) | exact lay_h1 (by omega)) (by first | decide | omega) (by first | assumption | exact CL0_0 (by assumption) | exact CL0_1 (by assumption) | exact CL0_3 (by assumption) | exact CL0_4 (by assumption) | exact CL0_5 (by assumption) | exact CL0_6 (by assumption) | exact CL0_7 (by assumption) | exact CL0_8 (by assumption) | exact CL0_9 (by assumption) | exact CL0_10 (by assumption) | exact CL0_11 (by assumption) | exact CL0_12 (by assumption) | exact CL0_13 (by assumption) | exact CL1_2 (by assumption) | exact CL1_3 (by assumption) | exact CL80_2 (by assumption) | exact CL_slot (by assumption) (by omega) | exact (CL_sh (by assumption) (by omega)).1 | exact (CL_sh (by assumption) (by omega)).2.1 | rfl) ?_
        refine V_iloadn3 dX9_together_40 ?_
        refine V_aloadn0 dX9_together_41 ?_
        refine V_getR dX9_together_42 fX9_10 (by first | assumption | rfl | exact lay_s0 (by omega) | exact lay_s1 (by omega) | exact lay_s2 (by omega) | exact lay_h0 (by omega) | exact lay_h1 (by omega)) (by first | decide | omega) (by first | assumption | exact CL0_0 (by assumption) | exact CL0_1 (by assumption) | exact CL0_3 (by assumption) | exact CL0_4 (by assumption) | exact CL0_5 (by assumption) | exact CL0_6 (by assumption) | exact CL0_7 (by assumption) | exact CL0_8 (by assumption) | exact CL0_9 (by assumption) | exact CL0_10 (by assumption) | exact CL0_11 (by assumption) | exact CL0_12 (by assumption) | exact CL0_13 (by assumption) | exact CL1_2 (by assumption) | exact CL1_3 (by assumption) | exact CL80_2 (by assumption) | exact CL_slot (by assumption) (by omega) | exact (CL_sh (by assumption) (by omega)).1 | exact (CL_sh (by assumption) (by omega)).2.1 | rfl) ?_
        refine V_getI dX9_together_45 fX9_84 (Or.inl rfl) (by first | assumption | rfl | exact lay_s0 (by omega) | exact lay_s1 (by omega) | exact lay_s2 (by omega) | exact lay_h0 (by omega) | exact lay_h1 (by omega)) (by first | decide | omega) (by first | assumption | exact CL0_0 (by assumption) | exact CL0_1 (by assumption) | exact CL0_3 (by assumption) | exact CL0_4 (by assumption) | exact CL0_5 (by assumption) | exact CL0_6 (by assumption) | exact CL0_7 (by assumption) | exact CL0_8 (by assumption) | exact CL0_9 (by assumption) | exact CL0_10 (by assumption) | exact CL0_11 (by assumption) | exact CL0_12 (by assumption) | exact CL0_13 (by assumption) | exact CL1_2 (by assumption) | exact CL1_3 (by assumption) | exact CL80_2 (by assumption) | exact CL_slot (by assumption) (by omega) | exact (CL_sh (by assumption) (by omega)).1 | exact (CL_sh (by assumption) (by omega)).2.1 | rfl) ?_
        refine V_callV2 (μ' := mX4_isTold) dX9_together_48 okX4_isTold lX9_229 rfl (by first | assumption | rfl | exact lay_s0 (by omega) | exact lay_s1 (by omega) | exact lay_s2 (by omega) | exact lay_h0 (by omega) | exact lay_h1 (by omega)) (by first | decide | omega) (Nat.le_of_ble_eq_true rfl) (Nat.le_of_ble_eq_true rfl) (by omega) ?_
        refine c_told (by omega) hn5 (CL_78 hC2) (fun h3 hI3 hF3 => ?_)
        have hC3 := CLay_eq hC2 hF3.2.2
        have n3 : gI h3 1 0 = nI S.1.1 := by rw [hF3.1 1 (by omega)]; exact n2
        have f3 := fin h3 hC3 (fun c hc => by rw [hF3.1 c (by omega), hF2.1 c (by omega), hF1.1 c (by omega)]) (by rw [hF3.2.1, hF2.2.1, hF1.2.1]) (fun c hc => by rw [hF3.2.2, hF2.2.2, hF1.2.2])
        dsimp only [gPush]
        first | refine U_ifB_ne (tgt := 56) dX9_together_51 (by decide) (by with_reducible rfl) (fun c51 => ?_) (fun c51 => ?_) | refine U_if_ne (tgt := 56) dX9_together_51 (by decide) (by with_reducible rfl) (by omega) (fun c51 => ?_) (fun c51 => ?_) | refine V_if_ne (tgt := 56) dX9_together_51 (by decide) (fun c51 => ?_) (fun c51 => ?_)
        · skip
          rw [c51, Bool.true_and] at hQ
          have hI3' := hI3 c51
          have i1 := ShI_fr (ShI_fr hI1' hF2 (by omega)) hF3 (by omega)
          have i2 := ShI_fr hI2' hF3 (by omega)
          have z1 := i1.2.1
          have z2 := i2.2.1
          have z3 := hI3'.2.1
          have y1 := i1.2.2.2.2.1
          have y2 := i2.2.2.2.2.1
          have y3 := hI3'.2.2.2.2.1
          refine V_aloadn0 dX9_together_56 ?_
          refine V_getR dX9_together_57 fX9_63 (by first | assumption | rfl | exact lay_s0 (by omega) | exact lay_s1 (by omega) | exact lay_s2 (by omega) | exact lay_h0 (by omega) | exact lay_h1 (by omega)) (by first | decide | omega) (by first | assumption | exact CL0_0 (by assumption) | exact CL0_1 (by assumption) | exact CL0_3 (by assumption) | exact CL0_4 (by assumption) | exact CL0_5 (by assumption) | exact CL0_6 (by assumption) | exact CL0_7 (by assumption) | exact CL0_8 (by assumption) | exact CL0_9 (by assumption) | exact CL0_10 (by assumption) | exact CL0_11 (by assumption) | exact CL0_12 (by assumption) | exact CL0_13 (by assumption) | exact CL1_2 (by assumption) | exact CL1_3 (by assumption) | exact CL80_2 (by assumption) | exact CL_slot (by assumption) (by omega) | exact (CL_sh (by assumption) (by omega)).1 | exact (CL_sh (by assumption) (by omega)).2.1 | rfl) ?_
          refine V_getI dX9_together_60 fX9_238 (Or.inl rfl) (by first | assumption | rfl | exact lay_s0 (by omega) | exact lay_s1 (by omega) | exact lay_s2 (by omega) | exact lay_h0 (by omega) | exact lay_h1 (by omega)) (by first | decide | omega) (by first | assumption | exact CL0_0 (by assumption) | exact CL0_1 (by assumption) | exact CL0_3 (by assumption) | exact CL0_4 (by assumption) | exact CL0_5 (by assumption) | exact CL0_6 (by assumption) | exact CL0_7 (by assumption) | exact CL0_8 (by assumption) | exact CL0_9 (by assumption) | exact CL0_10 (by assumption) | exact CL0_11 (by assumption) | exact CL0_12 (by assumption) | exact CL0_13 (by assumption) | exact CL1_2 (by assumption) | exact CL1_3 (by assumption) | exact CL80_2 (by assumption) | exact CL_slot (by assumption) (by omega) | exact (CL_sh (by assumption) (by omega)).1 | exact (CL_sh (by assumption) (by omega)).2.1 | rfl) ?_
          refine V_aloadn0 dX9_together_63 ?_
          refine V_getR dX9_together_64 fX9_67 (by first | assumption | rfl | exact lay_s0 (by omega) | exact lay_s1 (by omega) | exact lay_s2 (by omega) | exact lay_h0 (by omega) | exact lay_h1 (by omega)) (by first | decide | omega) (by first | assumption | exact CL0_0 (by assumption) | exact CL0_1 (by assumption) | exact CL0_3 (by assumption) | exact CL0_4 (by assumption) | exact CL0_5 (by assumption) | exact CL0_6 (by assumption) | exact CL0_7 (by assumption) | exact CL0_8 (by assumption) | exact CL0_9 (by assumption) | exact CL0_10 (by assumption) | exact CL0_11 (by assumption) | exact CL0_12 (by assumption) | exact CL0_13 (by assumption) | exact CL1_2 (by assumption) | exact CL1_3 (by assumption) | exact CL80_2 (by assumption) | exact CL_slot (by assumption) (by omega) | exact (CL_sh (by assumption) (by omega)).1 | exact (CL_sh (by assumption) (by omega)).2.1 | rfl) ?_
          refine V_getI dX9_together_67 fX9_238 (Or.inl rfl) (by first | assumption | rfl | exact lay_s0 (by omega) | exact lay_s1 (by omega) | exact lay_s2 (by omega) | exact lay_h0 (by omega) | exact lay_h1 (by omega)) (by first | decide | omega) (by first | assumption | exact CL0_0 (by assumption) | exact CL0_1 (by assumption) | exact CL0_3 (by assumption) | exact CL0_4 (by assumption) | exact CL0_5 (by assumption) | exact CL0_6 (by assumption) | exact CL0_7 (by assumption) | exact CL0_8 (by assumption) | exact CL0_9 (by assumption) | exact CL0_10 (by assumption) | exact CL0_11 (by assumption) | exact CL0_12 (by assumption) | exact CL0_13 (by assumption) | exact CL1_2 (by assumption) | exact CL1_3 (by assumption) | exact CL80_2 (by assumption) | exact CL_slot (by assumption) (by omega) | exact (CL_sh (by assumption) (by omega)).1 | exact (CL_sh (by assumption) (by omega)).2.1 | rfl) ?_
          first | refine U_iadd dX9_together_70 (by with_reducible rfl) (by with_reducible rfl) ?_ | refine V_iadd dX9_together_70 ?_
          refine V_istorew4 dX9_together_71 (by decide) rfl ?_
          refine V_iloadw4 dX9_together_73 ?_
          refine V_bipush (v := nI 6) dX9_together_75 (by decide) ?_
          first | refine U_icmp_le (tgt := 82) dX9_together_77 (by decide) (by with_reducible rfl) (by with_reducible rfl) (by omega) (by omega) (fun c77 => ?_) (fun c77 => ?_) | refine V_icmp_le (tgt := 82) dX9_together_77 (by decide) (fun c77 => ?_) (fun c77 => ?_)
          · skip
            rw [if_t (decide_eq_true c77), if_neg (fun q => by rw [hdo] at q; exact Bool.false_ne_true q.2)] at hQ
            refine V_iloadw4 dX9_together_82 ?_
            refine V_aloadn0 dX9_together_84 ?_
            refine V_getR dX9_together_85 fX9_70 (by first | assumption | rfl | exact lay_s0 (by omega) | exact lay_s1 (by omega) | exact lay_s2 (by omega) | exact lay_h0 (by omega) | exact lay_h1 (by omega)) (by first | decide | omega) (by first | assumption | exact CL0_0 (by assumption) | exact CL0_1 (by assumption) | exact CL0_3 (by assumption) | exact CL0_4 (by assumption) | exact CL0_5 (by assumption) | exact CL0_6 (by assumption) | exact CL0_7 (by assumption) | exact CL0_8 (by assumption) | exact CL0_9 (by assumption) | exact CL0_10 (by assumption) | exact CL0_11 (by assumption) | exact CL0_12 (by assumption) | exact CL0_13 (by assumption) | exact CL1_2 (by assumption) | exact CL1_3 (by assumption) | exact CL80_2 (by assumption) | exact CL_slot (by assumption) (by omega) | exact (CL_sh (by assumption) (by omega)).1 | exact (CL_sh (by assumption) (by omega)).2.1 | rfl) ?_
            refine V_getI dX9_together_88 fX9_238 (Or.inl rfl) (by first | assumption | rfl | exact lay_s0 (by omega) | exact lay_s1 (by omega) | exact lay_s2 (by omega) | exact lay_h0 (by omega) | exact lay_h1 (by omega)) (by first | decide | omega) (by first | assumption | exact CL0_0 (by assumption) | exact CL0_1 (by assumption) | exact CL0_3 (by assumption) | exact CL0_4 (by assumption) | exact CL0_5 (by assumption) | exact CL0_6 (by assumption) | exact CL0_7 (by assumption) | exact CL0_8 (by assumption) | exact CL0_9 (by assumption) | exact CL0_10 (by assumption) | exact CL0_11 (by assumption) | exact CL0_12 (by assumption) | exact CL0_13 (by assumption) | exact CL1_2 (by assumption) | exact CL1_3 (by assumption) | exact CL80_2 (by assumption) | exact CL_slot (by assumption) (by omega) | exact (CL_sh (by assumption) (by omega)).1 | exact (CL_sh (by assumption) (by omega)).2.1 | rfl) ?_
            first | refine U_icmp_ne (tgt := 112) dX9_together_91 (by decide) (by with_reducible rfl) (by with_reducible rfl) (by omega) (by omega) (fun c91 => ?_) (fun c91 => ?_) | refine V_icmp_ne (tgt := 112) dX9_together_91 (by decide) (fun c91 => ?_) (fun c91 => ?_)
            · skip
              have hQ9 := hQ h3 f3.1 f3.2
              refine V_iconst (v := nI 0) dX9_together_112 (by decide) ?_
              refine V_iret dX9_together_113 rfl rfl ?_
              exact hQ9
            · skip
              refine V_aloadn0 dX9_together_94 ?_
              refine V_getR dX9_together_95 fX9_56 (by first | assumption | rfl | exact lay_s0 (by omega) | exact lay_s1 (by omega) | exact lay_s2 (by omega) | exact lay_h0 (by omega) | exact lay_h1 (by omega)) (by first | decide | omega) (by first | assumption | exact CL0_0 (by assumption) | exact CL0_1 (by assumption) | exact CL0_3 (by assumption) | exact CL0_4 (by assumption) | exact CL0_5 (by assumption) | exact CL0_6 (by assumption) | exact CL0_7 (by assumption) | exact CL0_8 (by assumption) | exact CL0_9 (by assumption) | exact CL0_10 (by assumption) | exact CL0_11 (by assumption) | exact CL0_12 (by assumption) | exact CL0_13 (by assumption) | exact CL1_2 (by assumption) | exact CL1_3 (by assumption) | exact CL80_2 (by assumption) | exact CL_slot (by assumption) (by omega) | exact (CL_sh (by assumption) (by omega)).1 | exact (CL_sh (by assumption) (by omega)).2.1 | rfl) ?_
              refine V_aloadn0 dX9_together_98 ?_
              refine V_getR dX9_together_99 fX9_70 (by first | assumption | rfl | exact lay_s0 (by omega) | exact lay_s1 (by omega) | exact lay_s2 (by omega) | exact lay_h0 (by omega) | exact lay_h1 (by omega)) (by first | decide | omega) (by first | assumption | exact CL0_0 (by assumption) | exact CL0_1 (by assumption) | exact CL0_3 (by assumption) | exact CL0_4 (by assumption) | exact CL0_5 (by assumption) | exact CL0_6 (by assumption) | exact CL0_7 (by assumption) | exact CL0_8 (by assumption) | exact CL0_9 (by assumption) | exact CL0_10 (by assumption) | exact CL0_11 (by assumption) | exact CL0_12 (by assumption) | exact CL0_13 (by assumption) | exact CL1_2 (by assumption) | exact CL1_3 (by assumption) | exact CL80_2 (by assumption) | exact CL_slot (by assumption) (by omega) | exact (CL_sh (by assumption) (by omega)).1 | exact (CL_sh (by assumption) (by omega)).2.1 | rfl) ?_
              refine V_aloadn0 dX9_together_102 ?_
              refine V_getR dX9_together_103 fX9_63 (by first | assumption | rfl | exact lay_s0 (by omega) | exact lay_s1 (by omega) | exact lay_s2 (by omega) | exact lay_h0 (by omega) | exact lay_h1 (by omega)) (by first | decide | omega) (by first | assumption | exact CL0_0 (by assumption) | exact CL0_1 (by assumption) | exact CL0_3 (by assumption) | exact CL0_4 (by assumption) | exact CL0_5 (by assumption) | exact CL0_6 (by assumption) | exact CL0_7 (by assumption) | exact CL0_8 (by assumption) | exact CL0_9 (by assumption) | exact CL0_10 (by assumption) | exact CL0_11 (by assumption) | exact CL0_12 (by assumption) | exact CL0_13 (by assumption) | exact CL1_2 (by assumption) | exact CL1_3 (by assumption) | exact CL80_2 (by assumption) | exact CL_slot (by assumption) (by omega) | exact (CL_sh (by assumption) (by omega)).1 | exact (CL_sh (by assumption) (by omega)).2.1 | rfl) ?_
              refine V_callV2 (μ' := mX1_allowDifference) dX9_together_106 okX1_allowDifference lX9_246 rfl (by first | assumption | rfl | exact lay_s0 (by omega) | exact lay_s1 (by omega) | exact lay_s2 (by omega) | exact lay_h0 (by omega) | exact lay_h1 (by omega)) (by first | decide | omega) (Nat.le_of_ble_eq_true rfl) (Nat.le_of_ble_eq_true rfl) (by omega) ?_
              refine c_allowDifference (by omega) (CL67_0 hC3) (CL_78 hC3) (Or.inr (Or.inr rfl)) hI3' (CL_74 hC3) (Or.inl rfl) i1 (fun q => absurd q (by rw [hdo]; exact Bool.false_ne_true)) (fun _ h4 hF4 => ?_)
              have f4 := fin h4 (CLay_eq hC3 hF4.2.2) (fun c hc => by rw [hF4.1 c (by omega), hF3.1 c (by omega), hF2.1 c (by omega), hF1.1 c (by omega)]) (by rw [hF4.2.1, hF3.2.1, hF2.2.1, hF1.2.1]) (fun c hc => by rw [hF4.2.2, hF3.2.2, hF2.2.2, hF1.2.2])
              have hQ9 := hQ h4 f4.1 f4.2
              dsimp only [gPush]
              first | refine U_ifB_ne (tgt := 114) dX9_together_109 (by decide) (by with_reducible rfl) (fun c109 => ?_) (fun c109 => ?_) | refine U_if_ne (tgt := 114) dX9_together_109 (by decide) (by with_reducible rfl) (by omega) (fun c109 => ?_) (fun c109 => ?_) | refine V_if_ne (tgt := 114) dX9_together_109 (by decide) (fun c109 => ?_) (fun c109 => ?_)
              · skip
                cases c109
              · skip
                refine V_iconst (v := nI 0) dX9_together_112 (by decide) ?_
                refine V_iret dX9_together_113 rfl rfl ?_
                exact hQ9
          · skip
            rw [if_f (decide_eq_false c77)] at hQ
            have hQ9 := hQ h3 f3.1 f3.2
            refine V_iconst (v := -1) dX9_together_80 (by decide) ?_
            refine V_iret dX9_together_81 rfl rfl ?_
            exact hQ9
        · skip
          rw [c51, Bool.false_and] at hQ
          have hQ9 := hQ h3 f3.1 f3.2
          refine V_iconst (v := -1) dX9_together_54 (by decide) ?_
          refine V_iret dX9_together_55 rfl rfl ?_
          exact hQ9
  | true =>
    refine V_aloadn0 dX9_together_0 ?_
    refine V_getR dX9_together_1 fX9_63 (by first | assumption | rfl | exact lay_s0 (by omega) | exact lay_s1 (by omega) | exact lay_s2 (by omega) | exact lay_h0 (by omega) | exact lay_h1 (by omega)) (by first | decide | omega) (by first | assumption | exact CL0_0 (by assumption) | exact CL0_1 (by assumption) | exact CL0_3 (by assumption) | exact CL0_4 (by assumption) | exact CL0_5 (by assumption) | exact CL0_6 (by assumption) | exact CL0_7 (by assumption) | exact CL0_8 (by assumption) | exact CL0_9 (by assumption) | exact CL0_10 (by assumption) | exact CL0_11 (by assumption) | exact CL0_12 (by assumption) | exact CL0_13 (by assumption) | exact CL1_2 (by assumption) | exact CL1_3 (by assumption) | exact CL80_2 (by assumption) | exact CL_slot (by assumption) (by omega) | exact (CL_sh (by assumption) (by omega)).1 | exact (CL_sh (by assumption) (by omega)).2.1 | rfl) ?_
    refine V_iloadn1 dX9_together_4 ?_
    refine V_aloadn0 dX9_together_5 ?_
    refine V_getR dX9_together_6 fX9_10 (by first | assumption | rfl | exact lay_s0 (by omega) | exact lay_s1 (by omega) | exact lay_s2 (by omega) | exact lay_h0 (by omega) | exact lay_h1 (by omega)) (by first | decide | omega) (by first | assumption | exact CL0_0 (by assumption) | exact CL0_1 (by assumption) | exact CL0_3 (by assumption) | exact CL0_4 (by assumption) | exact CL0_5 (by assumption) | exact CL0_6 (by assumption) | exact CL0_7 (by assumption) | exact CL0_8 (by assumption) | exact CL0_9 (by assumption) | exact CL0_10 (by assumption) | exact CL0_11 (by assumption) | exact CL0_12 (by assumption) | exact CL0_13 (by assumption) | exact CL1_2 (by assumption) | exact CL1_3 (by assumption) | exact CL80_2 (by assumption) | exact CL_slot (by assumption) (by omega) | exact (CL_sh (by assumption) (by omega)).1 | exact (CL_sh (by assumption) (by omega)).2.1 | rfl) ?_
    refine V_getI dX9_together_9 fX9_84 (Or.inl rfl) (by first | assumption | rfl | exact lay_s0 (by omega) | exact lay_s1 (by omega) | exact lay_s2 (by omega) | exact lay_h0 (by omega) | exact lay_h1 (by omega)) (by first | decide | omega) (by first | assumption | exact CL0_0 (by assumption) | exact CL0_1 (by assumption) | exact CL0_3 (by assumption) | exact CL0_4 (by assumption) | exact CL0_5 (by assumption) | exact CL0_6 (by assumption) | exact CL0_7 (by assumption) | exact CL0_8 (by assumption) | exact CL0_9 (by assumption) | exact CL0_10 (by assumption) | exact CL0_11 (by assumption) | exact CL0_12 (by assumption) | exact CL0_13 (by assumption) | exact CL1_2 (by assumption) | exact CL1_3 (by assumption) | exact CL80_2 (by assumption) | exact CL_slot (by assumption) (by omega) | exact (CL_sh (by assumption) (by omega)).1 | exact (CL_sh (by assumption) (by omega)).2.1 | rfl) ?_
    refine V_callV2 (μ' := mX4_isTold) dX9_together_12 okX4_isTold lX9_229 rfl (by first | assumption | rfl | exact lay_s0 (by omega) | exact lay_s1 (by omega) | exact lay_s2 (by omega) | exact lay_h0 (by omega) | exact lay_h1 (by omega)) (by first | decide | omega) (Nat.le_of_ble_eq_true rfl) (Nat.le_of_ble_eq_true rfl) (by omega) ?_
    refine c_told (by omega) hn5 (CL_74 hC) (fun h1 hI1 hF1 => ?_)
    have hC1 := CLay_eq hC hF1.2.2
    have n1 : gI h1 1 0 = nI S.1.1 := by rw [hF1.1 1 (by omega)]; exact n0
    have f1 := fin h1 hC1 (fun c hc => hF1.1 c (by omega)) hF1.2.1 (fun c hc => by rw [hF1.2.2])
    dsimp only [gPush]
    first | refine U_ifB_eq (tgt := 54) dX9_together_15 (by decide) (by with_reducible rfl) (fun c15 => ?_) (fun c15 => ?_) | refine U_if_eq (tgt := 54) dX9_together_15 (by decide) (by with_reducible rfl) (by omega) (fun c15 => ?_) (fun c15 => ?_) | refine V_if_eq (tgt := 54) dX9_together_15 (by decide) (fun c15 => ?_) (fun c15 => ?_)
    · skip
      rw [c15, Bool.false_and] at hQ
      have hQ9 := hQ h1 f1.1 f1.2
      refine V_iconst (v := -1) dX9_together_54 (by decide) ?_
      refine V_iret dX9_together_55 rfl rfl ?_
      exact hQ9
    · skip
      rw [c15, Bool.true_and] at hQ
      have hI1' := hI1 c15
      refine V_aloadn0 dX9_together_18 ?_
      refine V_getR dX9_together_19 fX9_67 (by first | assumption | rfl | exact lay_s0 (by omega) | exact lay_s1 (by omega) | exact lay_s2 (by omega) | exact lay_h0 (by omega) | exact lay_h1 (by omega)) (by first | decide | omega) (by first | assumption | exact CL0_0 (by assumption) | exact CL0_1 (by assumption) | exact CL0_3 (by assumption) | exact CL0_4 (by assumption) | exact CL0_5 (by assumption) | exact CL0_6 (by assumption) | exact CL0_7 (by assumption) | exact CL0_8 (by assumption) | exact CL0_9 (by assumption) | exact CL0_10 (by assumption) | exact CL0_11 (by assumption) | exact CL0_12 (by assumption) | exact CL0_13 (by assumption) | exact CL1_2 (by assumption) | exact CL1_3 (by assumption) | exact CL80_2 (by assumption) | exact CL_slot (by assumption) (by omega) | exact (CL_sh (by assumption) (by omega)).1 | exact (CL_sh (by assumption) (by omega)).2.1 | rfl) ?_
      refine V_iloadn2 dX9_together_22 ?_
      refine V_aloadn0 dX9_together_23 ?_
      refine V_getR dX9_together_24 fX9_10 (by first | assumption | rfl | exact lay_s0 (by omega) | exact lay_s1 (by omega) | exact lay_s2 (by omega) | exact lay_h0 (by omega) | exact lay_h1 (by omega)) (by first | decide | omega) (by first | assumption | exact CL0_0 (by assumption) | exact CL0_1 (by assumption) | exact CL0_3 (by assumption) | exact CL0_4 (by assumption) | exact CL0_5 (by assumption) | exact CL0_6 (by assumption) | exact CL0_7 (by assumption) | exact CL0_8 (by assumption) | exact CL0_9 (by assumption) | exact CL0_10 (by assumption) | exact CL0_11 (by assumption) | exact CL0_12 (by assumption) | exact CL0_13 (by assumption) | exact CL1_2 (by assumption) | exact CL1_3 (by assumption) | exact CL80_2 (by assumption) | exact CL_slot (by assumption) (by omega) | exact (CL_sh (by assumption) (by omega)).1 | exact (CL_sh (by assumption) (by omega)).2.1 | rfl) ?_
      refine V_getI dX9_together_27 fX9_84 (Or.inl rfl) (by first | assumption | rfl | exact lay_s0 (by omega) | exact lay_s1 (by omega) | exact lay_s2 (by omega) | exact lay_h0 (by omega) | exact lay_h1 (by omega)) (by first | decide | omega) (by first | assumption | exact CL0_0 (by assumption) | exact CL0_1 (by assumption) | exact CL0_3 (by assumption) | exact CL0_4 (by assumption) | exact CL0_5 (by assumption) | exact CL0_6 (by assumption) | exact CL0_7 (by assumption) | exact CL0_8 (by assumption) | exact CL0_9 (by assumption) | exact CL0_10 (by assumption) | exact CL0_11 (by assumption) | exact CL0_12 (by assumption) | exact CL0_13 (by assumption) | exact CL1_2 (by assumption) | exact CL1_3 (by assumption) | exact CL80_2 (by assumption) | exact CL_slot (by assumption) (by omega) | exact (CL_sh (by assumption) (by omega)).1 | exact (CL_sh (by assumption) (by omega)).2.1 | rfl) ?_
      refine V_callV2 (μ' := mX4_isTold) dX9_together_30 okX4_isTold lX9_229 rfl (by first | assumption | rfl | exact lay_s0 (by omega) | exact lay_s1 (by omega) | exact lay_s2 (by omega) | exact lay_h0 (by omega) | exact lay_h1 (by omega)) (by first | decide | omega) (Nat.le_of_ble_eq_true rfl) (Nat.le_of_ble_eq_true rfl) (by omega) ?_
      refine c_told (by omega) hn5 (CL_76 hC1) (fun h2 hI2 hF2 => ?_)
      have hC2 := CLay_eq hC1 hF2.2.2
      have n2 : gI h2 1 0 = nI S.1.1 := by rw [hF2.1 1 (by omega)]; exact n1
      have f2 := fin h2 hC2 (fun c hc => by rw [hF2.1 c (by omega), hF1.1 c (by omega)]) (by rw [hF2.2.1, hF1.2.1]) (fun c hc => by rw [hF2.2.2, hF1.2.2])
      dsimp only [gPush]
      first | refine U_ifB_eq (tgt := 54) dX9_together_33 (by decide) (by with_reducible rfl) (fun c33 => ?_) (fun c33 => ?_) | refine U_if_eq (tgt := 54) dX9_together_33 (by decide) (by with_reducible rfl) (by omega) (fun c33 => ?_) (fun c33 => ?_) | refine V_if_eq (tgt := 54) dX9_together_33 (by decide) (fun c33 => ?_) (fun c33 => ?_)
      · skip
        rw [c33, Bool.false_and] at hQ
        have hQ9 := hQ h2 f2.1 f2.2
        refine V_iconst (v := -1) dX9_together_54 (by decide) ?_
        refine V_iret dX9_together_55 rfl rfl ?_
        exact hQ9
      · skip
        rw [c33, Bool.true_and] at hQ
        have hI2' := hI2 c33
        refine V_aloadn0 dX9_together_36 ?_
        refine V_getR dX9_together_37 fX9_70 (by first | assumption | rfl | exact lay_s0 (by omega) | exact lay_s1 (by omega) | exact lay_s2 (by omega) | exact lay_h0 (by omega) | exact lay_h1 (by omega)) (by first | decide | omega) (by first | assumption | exact CL0_0 (by assumption) | exact CL0_1 (by assumption) | exact CL0_3 (by assumption) | exact CL0_4 (by assumption) | exact CL0_5 (by assumption) | exact CL0_6 (by assumption) | exact CL0_7 (by assumption) | exact CL0_8 (by assumption) | exact CL0_9 (by assumption) | exact CL0_10 (by assumption) | exact CL0_11 (by assumption) | exact CL0_12 (by assumption) | exact CL0_13 (by assumption) | exact CL1_2 (by assumption) | exact CL1_3 (by assumption) | exact CL80_2 (by assumption) | exact CL_slot (by assumption) (by omega) | exact (CL_sh (by assumption) (by omega)).1 | exact (CL_sh (by assumption) (by omega)).2.1 | rfl) ?_
        refine V_iloadn3 dX9_together_40 ?_
        refine V_aloadn0 dX9_together_41 ?_
        refine V_getR dX9_together_42 fX9_10 (by first | assumption | rfl | exact lay_s0 (by omega) | exact lay_s1 (by omega) | exact lay_s2 (by omega) | exact lay_h0 (by omega) | exact lay_h1 (by omega)) (by first | decide | omega) (by first | assumption | exact CL0_0 (by assumption) | exact CL0_1 (by assumption) | exact CL0_3 (by assumption) | exact CL0_4 (by assumption) | exact CL0_5 (by assumption) | exact CL0_6 (by assumption) | exact CL0_7 (by assumption) | exact CL0_8 (by assumption) | exact CL0_9 (by assumption) | exact CL0_10 (by assumption) | exact CL0_11 (by assumption) | exact CL0_12 (by assumption) | exact CL0_13 (by assumption) | exact CL1_2 (by assumption) | exact CL1_3 (by assumption) | exact CL80_2 (by assumption) | exact CL_slot (by assumption) (by omega) | exact (CL_sh (by assumption) (by omega)).1 | exact (CL_sh (by assumption) (by omega)).2.1 | rfl) ?_
        refine V_getI dX9_together_45 fX9_84 (Or.inl rfl) (by first | assumption | rfl | exact lay_s0 (by omega) | exact lay_s1 (by omega) | exact lay_s2 (by omega) | exact lay_h0 (by omega) | exact lay_h1 (by omega)) (by first | decide | omega) (by first | assumption | exact CL0_0 (by assumption) | exact CL0_1 (by assumption) | exact CL0_3 (by assumption) | exact CL0_4 (by assumption) | exact CL0_5 (by assumption) | exact CL0_6 (by assumption) | exact CL0_7 (by assumption) | exact CL0_8 (by assumption) | exact CL0_9 (by assumption) | exact CL0_10 (by assumption) | exact CL0_11 (by assumption) | exact CL0_12 (by assumption) | exact CL0_13 (by assumption) | exact CL1_2 (by assumption) | exact CL1_3 (by assumption) | exact CL80_2 (by assumption) | exact CL_slot (by assumption) (by omega) | exact (CL_sh (by assumption) (by omega)).1 | exact (CL_sh (by assumption) (by omega)).2.1 | rfl) ?_
        refine V_callV2 (μ' := mX4_isTold) dX9_together_48 okX4_isTold lX9_229 rfl (by first | assumption | rfl | exact lay_s0 (by omega) | exact lay_s1 (by omega) | exact lay_s2 (by omega) | exact lay_h0 (by omega) | exact lay_h1 (by omega)) (by first | decide | omega) (Nat.le_of_ble_eq_true rfl) (Nat.le_of_ble_eq_true rfl) (by omega) ?_
        refine c_told (by omega) hn5 (CL_78 hC2) (fun h3 hI3 hF3 => ?_)
        have hC3 := CLay_eq hC2 hF3.2.2
        have n3 : gI h3 1 0 = nI S.1.1 := by rw [hF3.1 1 (by omega)]; exact n2
        have f3 := fin h3 hC3 (fun c hc => by rw [hF3.1 c (by omega), hF2.1 c (by omega), hF1.1 c (by omega)]) (by rw [hF3.2.1, hF2.2.1, hF1.2.1]) (fun c hc => by rw [hF3.2.2, hF2.2.2, hF1.2.2])
        dsimp only [gPush]
        first | refine U_ifB_ne (tgt := 56) dX9_together_51 (by decide) (by with_reducible rfl) (fun c51 => ?_) (fun c51 => ?_) | refine U_if_ne (tgt := 56) dX9_together_51 (by decide) (by with_reducible rfl) (by omega) (fun c51 => ?_) (fun c51 => ?_) | refine V_if_ne (tgt := 56) dX9_together_51 (by decide) (fun c51 => ?_) (fun c51 => ?_)
        · skip
          rw [c51, Bool.true_and] at hQ
          have hI3' := hI3 c51
          have i1 := ShI_fr (ShI_fr hI1' hF2 (by omega)) hF3 (by omega)
          have i2 := ShI_fr hI2' hF3 (by omega)
          have z1 := i1.2.1
          have z2 := i2.2.1
          have z3 := hI3'.2.1
          have y1 := i1.2.2.2.2.1
          have y2 := i2.2.2.2.2.1
          have y3 := hI3'.2.2.2.2.1
          refine V_aloadn0 dX9_together_56 ?_
          refine V_getR dX9_together_57 fX9_63 (by first | assumption | rfl | exact lay_s0 (by omega) | exact lay_s1 (by omega) | exact lay_s2 (by omega) | exact lay_h0 (by omega) | exact lay_h1 (by omega)) (by first | decide | omega) (by first | assumption | exact CL0_0 (by assumption) | exact CL0_1 (by assumption) | exact CL0_3 (by assumption) | exact CL0_4 (by assumption) | exact CL0_5 (by assumption) | exact CL0_6 (by assumption) | exact CL0_7 (by assumption) | exact CL0_8 (by assumption) | exact CL0_9 (by assumption) | exact CL0_10 (by assumption) | exact CL0_11 (by assumption) | exact CL0_12 (by assumption) | exact CL0_13 (by assumption) | exact CL1_2 (by assumption) | exact CL1_3 (by assumption) | exact CL80_2 (by assumption) | exact CL_slot (by assumption) (by omega) | exact (CL_sh (by assumption) (by omega)).1 | exact (CL_sh (by assumption) (by omega)).2.1 | rfl) ?_
          refine V_getI dX9_together_60 fX9_238 (Or.inl rfl) (by first | assumption | rfl | exact lay_s0 (by omega) | exact lay_s1 (by omega) | exact lay_s2 (by omega) | exact lay_h0 (by omega) | exact lay_h1 (by omega)) (by first | decide | omega) (by first | assumption | exact CL0_0 (by assumption) | exact CL0_1 (by assumption) | exact CL0_3 (by assumption) | exact CL0_4 (by assumption) | exact CL0_5 (by assumption) | exact CL0_6 (by assumption) | exact CL0_7 (by assumption) | exact CL0_8 (by assumption) | exact CL0_9 (by assumption) | exact CL0_10 (by assumption) | exact CL0_11 (by assumption) | exact CL0_12 (by assumption) | exact CL0_13 (by assumption) | exact CL1_2 (by assumption) | exact CL1_3 (by assumption) | exact CL80_2 (by assumption) | exact CL_slot (by assumption) (by omega) | exact (CL_sh (by assumption) (by omega)).1 | exact (CL_sh (by assumption) (by omega)).2.1 | rfl) ?_
          refine V_aloadn0 dX9_together_63 ?_
          refine V_getR dX9_together_64 fX9_67 (by first | assumption | rfl | exact lay_s0 (by omega) | exact lay_s1 (by omega) | exact lay_s2 (by omega) | exact lay_h0 (by omega) | exact lay_h1 (by omega)) (by first | decide | omega) (by first | assumption | exact CL0_0 (by assumption) | exact CL0_1 (by assumption) | exact CL0_3 (by assumption) | exact CL0_4 (by assumption) | exact CL0_5 (by assumption) | exact CL0_6 (by assumption) | exact CL0_7 (by assumption) | exact CL0_8 (by assumption) | exact CL0_9 (by assumption) | exact CL0_10 (by assumption) | exact CL0_11 (by assumption) | exact CL0_12 (by assumption) | exact CL0_13 (by assumption) | exact CL1_2 (by assumption) | exact CL1_3 (by assumption) | exact CL80_2 (by assumption) | exact CL_slot (by assumption) (by omega) | exact (CL_sh (by assumption) (by omega)).1 | exact (CL_sh (by assumption) (by omega)).2.1 | rfl) ?_
          refine V_getI dX9_together_67 fX9_238 (Or.inl rfl) (by first | assumption | rfl | exact lay_s0 (by omega) | exact lay_s1 (by omega) | exact lay_s2 (by omega) | exact lay_h0 (by omega) | exact lay_h1 (by omega)) (by first | decide | omega) (by first | assumption | exact CL0_0 (by assumption) | exact CL0_1 (by assumption) | exact CL0_3 (by assumption) | exact CL0_4 (by assumption) | exact CL0_5 (by assumption) | exact CL0_6 (by assumption) | exact CL0_7 (by assumption) | exact CL0_8 (by assumption) | exact CL0_9 (by assumption) | exact CL0_10 (by assumption) | exact CL0_11 (by assumption) | exact CL0_12 (by assumption) | exact CL0_13 (by assumption) | exact CL1_2 (by assumption) | exact CL1_3 (by assumption) | exact CL80_2 (by assumption) | exact CL_slot (by assumption) (by omega) | exact (CL_sh (by assumption) (by omega)).1 | exact (CL_sh (by assumption) (by omega)).2.1 | rfl) ?_
          first | refine U_iadd dX9_together_70 (by with_reducible rfl) (by with_reducible rfl) ?_ | refine V_iadd dX9_together_70 ?_
          refine V_istorew4 dX9_together_71 (by decide) rfl ?_
          refine V_iloadw4 dX9_together_73 ?_
          refine V_bipush (v := nI 6) dX9_together_75 (by decide) ?_
          first | refine U_icmp_le (tgt := 82) dX9_together_77 (by decide) (by with_reducible rfl) (by with_reducible rfl) (by omega) (by omega) (fun c77 => ?_) (fun c77 => ?_) | refine V_icmp_le (tgt := 82) dX9_together_77 (by decide) (fun c77 => ?_) (fun c77 => ?_)
          · skip
            rw [if_t (decide_eq_true c77)] at hQ
            refine V_iloadw4 dX9_together_82 ?_
            refine V_aloadn0 dX9_together_84 ?_
            refine V_getR dX9_together_85 fX9_70 (by first | assumption | rfl | exact lay_s0 (by omega) | exact lay_s1 (by omega) | exact lay_s2 (by omega) | exact lay_h0 (by omega) | exact lay_h1 (by omega)) (by first | decide | omega) (by first | assumption | exact CL0_0 (by assumption) | exact CL0_1 (by assumption) | exact CL0_3 (by assumption) | exact CL0_4 (by assumption) | exact CL0_5 (by assumption) | exact CL0_6 (by assumption) | exact CL0_7 (by assumption) | exact CL0_8 (by assumption) | exact CL0_9 (by assumption) | exact CL0_10 (by assumption) | exact CL0_11 (by assumption) | exact CL0_12 (by assumption) | exact CL0_13 (by assumption) | exact CL1_2 (by assumption) | exact CL1_3 (by assumption) | exact CL80_2 (by assumption) | exact CL_slot (by assumption) (by omega) | exact (CL_sh (by assumption) (by omega)).1 | exact (CL_sh (by assumption) (by omega)).2.1 | rfl) ?_
            refine V_getI dX9_together_88 fX9_238 (Or.inl rfl) (by first | assumption | rfl | exact lay_s0 (by omega) | exact lay_s1 (by omega) | exact lay_s2 (by omega) | exact lay_h0 (by omega) | exact lay_h1 (by omega)) (by first | decide | omega) (by first | assumption | exact CL0_0 (by assumption) | exact CL0_1 (by assumption) | exact CL0_3 (by assumption) | exact CL0_4 (by assumption) | exact CL0_5 (by assumption) | exact CL0_6 (by assumption) | exact CL0_7 (by assumption) | exact CL0_8 (by assumption) | exact CL0_9 (by assumption) | exact CL0_10 (by assumption) | exact CL0_11 (by assumption) | exact CL0_12 (by assumption) | exact CL0_13 (by assumption) | exact CL1_2 (by assumption) | exact CL1_3 (by assumption) | exact CL80_2 (by assumption) | exact CL_slot (by assumption) (by omega) | exact (CL_sh (by assumption) (by omega)).1 | exact (CL_sh (by assumption) (by omega)).2.1 | rfl) ?_
            first | refine U_icmp_ne (tgt := 112) dX9_together_91 (by decide) (by with_reducible rfl) (by with_reducible rfl) (by omega) (by omega) (fun c91 => ?_) (fun c91 => ?_) | refine V_icmp_ne (tgt := 112) dX9_together_91 (by decide) (fun c91 => ?_) (fun c91 => ?_)
            · skip
              rw [if_neg (fun q => c91 q.1)] at hQ
              have hQ9 := hQ h3 f3.1 f3.2
              refine V_iconst (v := nI 0) dX9_together_112 (by decide) ?_
              refine V_iret dX9_together_113 rfl rfl ?_
              exact hQ9
            · skip
              rw [if_pos ⟨c91, hdo⟩] at hQ
              refine V_aloadn0 dX9_together_94 ?_
              refine V_getR dX9_together_95 fX9_56 (by first | assumption | rfl | exact lay_s0 (by omega) | exact lay_s1 (by omega) | exact lay_s2 (by omega) | exact lay_h0 (by omega) | exact lay_h1 (by omega)) (by first | decide | omega) (by first | assumption | exact CL0_0 (by assumption) | exact CL0_1 (by assumption) | exact CL0_3 (by assumption) | exact CL0_4 (by assumption) | exact CL0_5 (by assumption) | exact CL0_6 (by assumption) | exact CL0_7 (by assumption) | exact CL0_8 (by assumption) | exact CL0_9 (by assumption) | exact CL0_10 (by assumption) | exact CL0_11 (by assumption) | exact CL0_12 (by assumption) | exact CL0_13 (by assumption) | exact CL1_2 (by assumption) | exact CL1_3 (by assumption) | exact CL80_2 (by assumption) | exact CL_slot (by assumption) (by omega) | exact (CL_sh (by assumption) (by omega)).1 | exact (CL_sh (by assumption) (by omega)).2.1 | rfl) ?_
              refine V_aloadn0 dX9_together_98 ?_
              refine V_getR dX9_together_99 fX9_70 (by first | assumption | rfl | exact lay_s0 (by omega) | exact lay_s1 (by omega) | exact lay_s2 (by omega) | exact lay_h0 (by omega) | exact lay_h1 (by omega)) (by first | decide | omega) (by first | assumption | exact CL0_0 (by assumption) | exact CL0_1 (by assumption) | exact CL0_3 (by assumption) | exact CL0_4 (by assumption) | exact CL0_5 (by assumption) | exact CL0_6 (by assumption) | exact CL0_7 (by assumption) | exact CL0_8 (by assumption) | exact CL0_9 (by assumption) | exact CL0_10 (by assumption) | exact CL0_11 (by assumption) | exact CL0_12 (by assumption) | exact CL0_13 (by assumption) | exact CL1_2 (by assumption) | exact CL1_3 (by assumption) | exact CL80_2 (by assumption) | exact CL_slot (by assumption) (by omega) | exact (CL_sh (by assumption) (by omega)).1 | exact (CL_sh (by assumption) (by omega)).2.1 | rfl) ?_
              refine V_aloadn0 dX9_together_102 ?_
              refine V_getR dX9_together_103 fX9_63 (by first | assumption | rfl | exact lay_s0 (by omega) | exact lay_s1 (by omega) | exact lay_s2 (by omega) | exact lay_h0 (by omega) | exact lay_h1 (by omega)) (by first | decide | omega) (by first | assumption | exact CL0_0 (by assumption) | exact CL0_1 (by assumption) | exact CL0_3 (by assumption) | exact CL0_4 (by assumption) | exact CL0_5 (by assumption) | exact CL0_6 (by assumption) | exact CL0_7 (by assumption) | exact CL0_8 (by assumption) | exact CL0_9 (by assumption) | exact CL0_10 (by assumption) | exact CL0_11 (by assumption) | exact CL0_12 (by assumption) | exact CL0_13 (by assumption) | exact CL1_2 (by assumption) | exact CL1_3 (by assumption) | exact CL80_2 (by assumption) | exact CL_slot (by assumption) (by omega) | exact (CL_sh (by assumption) (by omega)).1 | exact (CL_sh (by assumption) (by omega)).2.1 | rfl) ?_
              refine V_callV2 (μ' := mX1_allowDifference) dX9_together_106 okX1_allowDifference lX9_246 rfl (by first | assumption | rfl | exact lay_s0 (by omega) | exact lay_s1 (by omega) | exact lay_s2 (by omega) | exact lay_h0 (by omega) | exact lay_h1 (by omega)) (by first | decide | omega) (Nat.le_of_ble_eq_true rfl) (Nat.le_of_ble_eq_true rfl) (by omega) ?_
              refine c_allowDifference (by omega) (CL67_0 hC3) (CL_78 hC3) (Or.inr (Or.inr rfl)) hI3' (CL_74 hC3) (Or.inl rfl) i1 (fun _ h4 hA4 hF4 => ?_) (fun q => absurd q (by rw [hdo]; exact Bool.noConfusion))
              have hC4 := CLay_eq hC3 hF4.2.2
              have n4 : gI h4 1 0 = nI S.1.1 := by rw [hF4.1 1 (by omega)]; exact n3
              have hsk := shOk_good (D := cN b) (n := S.1.1) (by unfold shB at c33; rw [Bool.and_eq_true] at c33; exact c33.2)
              dsimp only [gPush]
              first | refine U_ifB_ne (tgt := 114) dX9_together_109 (by decide) (by with_reducible rfl) (fun c109 => ?_) (fun c109 => ?_) | refine U_if_ne (tgt := 114) dX9_together_109 (by decide) (by with_reducible rfl) (by omega) (fun c109 => ?_) (fun c109 => ?_) | refine V_if_ne (tgt := 114) dX9_together_109 (by decide) (fun c109 => ?_) (fun c109 => ?_)
              · skip
                refine V_aloadn0 dX9_together_114 ?_
                refine V_getR dX9_together_115 fX9_56 (by first | assumption | rfl | exact lay_s0 (by omega) | exact lay_s1 (by omega) | exact lay_s2 (by omega) | exact lay_h0 (by omega) | exact lay_h1 (by omega)) (by first | decide | omega) (by first | assumption | exact CL0_0 (by assumption) | exact CL0_1 (by assumption) | exact CL0_3 (by assumption) | exact CL0_4 (by assumption) | exact CL0_5 (by assumption) | exact CL0_6 (by assumption) | exact CL0_7 (by assumption) | exact CL0_8 (by assumption) | exact CL0_9 (by assumption) | exact CL0_10 (by assumption) | exact CL0_11 (by assumption) | exact CL0_12 (by assumption) | exact CL0_13 (by assumption) | exact CL1_2 (by assumption) | exact CL1_3 (by assumption) | exact CL80_2 (by assumption) | exact CL_slot (by assumption) (by omega) | exact (CL_sh (by assumption) (by omega)).1 | exact (CL_sh (by assumption) (by omega)).2.1 | rfl) ?_
                refine V_callV0 (μ' := mX1_worthOneEach) dX9_together_118 okX1_worthOneEach lX9_239 rfl (by first | assumption | rfl | exact lay_s0 (by omega) | exact lay_s1 (by omega) | exact lay_s2 (by omega) | exact lay_h0 (by omega) | exact lay_h1 (by omega)) (by first | decide | omega) (Nat.le_of_ble_eq_true rfl) (Nat.le_of_ble_eq_true rfl) (by omega) ?_
                refine c_worthOneEach (by omega) (CL67_1 hC4) (fun h5 hw5 hF5 => ?_)
                have hC5 := CLay_eq hC4 hF5.2.2
                have n5 : gI h5 1 0 = nI S.1.1 := by rw [hF5.1 1 (by omega)]; exact n4
                have i1' := ShI_fr (ShI_fr i1 hF4 (by omega)) hF5 (by omega)
                have i2' := ShI_fr (ShI_fr i2 hF4 (by omega)) hF5 (by omega)
                have b3 := hI3'.2.2.2.2.2
                dsimp only [gPush]
                refine V_aloadn0 dX9_together_121 ?_
                refine V_getR dX9_together_122 fX9_56 (by first | assumption | rfl | exact lay_s0 (by omega) | exact lay_s1 (by omega) | exact lay_s2 (by omega) | exact lay_h0 (by omega) | exact lay_h1 (by omega)) (by first | decide | omega) (by first | assumption | exact CL0_0 (by assumption) | exact CL0_1 (by assumption) | exact CL0_3 (by assumption) | exact CL0_4 (by assumption) | exact CL0_5 (by assumption) | exact CL0_6 (by assumption) | exact CL0_7 (by assumption) | exact CL0_8 (by assumption) | exact CL0_9 (by assumption) | exact CL0_10 (by assumption) | exact CL0_11 (by assumption) | exact CL0_12 (by assumption) | exact CL0_13 (by assumption) | exact CL1_2 (by assumption) | exact CL1_3 (by assumption) | exact CL80_2 (by assumption) | exact CL_slot (by assumption) (by omega) | exact (CL_sh (by assumption) (by omega)).1 | exact (CL_sh (by assumption) (by omega)).2.1 | rfl) ?_
                refine V_aloadn0 dX9_together_125 ?_
                refine V_getR dX9_together_126 fX9_67 (by first | assumption | rfl | exact lay_s0 (by omega) | exact lay_s1 (by omega) | exact lay_s2 (by omega) | exact lay_h0 (by omega) | exact lay_h1 (by omega)) (by first | decide | omega) (by first | assumption | exact CL0_0 (by assumption) | exact CL0_1 (by assumption) | exact CL0_3 (by assumption) | exact CL0_4 (by assumption) | exact CL0_5 (by assumption) | exact CL0_6 (by assumption) | exact CL0_7 (by assumption) | exact CL0_8 (by assumption) | exact CL0_9 (by assumption) | exact CL0_10 (by assumption) | exact CL0_11 (by assumption) | exact CL0_12 (by assumption) | exact CL0_13 (by assumption) | exact CL1_2 (by assumption) | exact CL1_3 (by assumption) | exact CL80_2 (by assumption) | exact CL_slot (by assumption) (by omega) | exact (CL_sh (by assumption) (by omega)).1 | exact (CL_sh (by assumption) (by omega)).2.1 | rfl) ?_
                refine V_aloadn0 dX9_together_129 ?_
                refine V_getR dX9_together_130 fX9_63 (by first | assumption | rfl | exact lay_s0 (by omega) | exact lay_s1 (by omega) | exact lay_s2 (by omega) | exact lay_h0 (by omega) | exact lay_h1 (by omega)) (by first | decide | omega) (by first | assumption | exact CL0_0 (by assumption) | exact CL0_1 (by assumption) | exact CL0_3 (by assumption) | exact CL0_4 (by assumption) | exact CL0_5 (by assumption) | exact CL0_6 (by assumption) | exact CL0_7 (by assumption) | exact CL0_8 (by assumption) | exact CL0_9 (by assumption) | exact CL0_10 (by assumption) | exact CL0_11 (by assumption) | exact CL0_12 (by assumption) | exact CL0_13 (by assumption) | exact CL1_2 (by assumption) | exact CL1_3 (by assumption) | exact CL80_2 (by assumption) | exact CL_slot (by assumption) (by omega) | exact (CL_sh (by assumption) (by omega)).1 | exact (CL_sh (by assumption) (by omega)).2.1 | rfl) ?_
                refine V_aloadn0 dX9_together_133 ?_
                refine V_getR dX9_together_134 fX9_35 (by first | assumption | rfl | exact lay_s0 (by omega) | exact lay_s1 (by omega) | exact lay_s2 (by omega) | exact lay_h0 (by omega) | exact lay_h1 (by omega)) (by first | decide | omega) (by first | assumption | exact CL0_0 (by assumption) | exact CL0_1 (by assumption) | exact CL0_3 (by assumption) | exact CL0_4 (by assumption) | exact CL0_5 (by assumption) | exact CL0_6 (by assumption) | exact CL0_7 (by assumption) | exact CL0_8 (by assumption) | exact CL0_9 (by assumption) | exact CL0_10 (by assumption) | exact CL0_11 (by assumption) | exact CL0_12 (by assumption) | exact CL0_13 (by assumption) | exact CL1_2 (by assumption) | exact CL1_3 (by assumption) | exact CL80_2 (by assumption) | exact CL_slot (by assumption) (by omega) | exact (CL_sh (by assumption) (by omega)).1 | exact (CL_sh (by assumption) (by omega)).2.1 | rfl) ?_
                refine V_aloadn0 dX9_together_137 ?_
                refine V_getR dX9_together_138 fX9_10 (by first | assumption | rfl | exact lay_s0 (by omega) | exact lay_s1 (by omega) | exact lay_s2 (by omega) | exact lay_h0 (by omega) | exact lay_h1 (by omega)) (by first | decide | omega) (by first | assumption | exact CL0_0 (by assumption) | exact CL0_1 (by assumption) | exact CL0_3 (by assumption) | exact CL0_4 (by assumption) | exact CL0_5 (by assumption) | exact CL0_6 (by assumption) | exact CL0_7 (by assumption) | exact CL0_8 (by assumption) | exact CL0_9 (by assumption) | exact CL0_10 (by assumption) | exact CL0_11 (by assumption) | exact CL0_12 (by assumption) | exact CL0_13 (by assumption) | exact CL1_2 (by assumption) | exact CL1_3 (by assumption) | exact CL80_2 (by assumption) | exact CL_slot (by assumption) (by omega) | exact (CL_sh (by assumption) (by omega)).1 | exact (CL_sh (by assumption) (by omega)).2.1 | rfl) ?_
                refine V_getI dX9_together_141 fX9_84 (Or.inl rfl) (by first | assumption | rfl | exact lay_s0 (by omega) | exact lay_s1 (by omega) | exact lay_s2 (by omega) | exact lay_h0 (by omega) | exact lay_h1 (by omega)) (by first | decide | omega) (by first | assumption | exact CL0_0 (by assumption) | exact CL0_1 (by assumption) | exact CL0_3 (by assumption) | exact CL0_4 (by assumption) | exact CL0_5 (by assumption) | exact CL0_6 (by assumption) | exact CL0_7 (by assumption) | exact CL0_8 (by assumption) | exact CL0_9 (by assumption) | exact CL0_10 (by assumption) | exact CL0_11 (by assumption) | exact CL0_12 (by assumption) | exact CL0_13 (by assumption) | exact CL1_2 (by assumption) | exact CL1_3 (by assumption) | exact CL80_2 (by assumption) | exact CL_slot (by assumption) (by omega) | exact (CL_sh (by assumption) (by omega)).1 | exact (CL_sh (by assumption) (by omega)).2.1 | rfl) ?_
                refine V_callV4 (μ' := mX1_countHighest) dX9_together_144 okX1_countHighest lX9_250 rfl (by first | assumption | rfl | exact lay_s0 (by omega) | exact lay_s1 (by omega) | exact lay_s2 (by omega) | exact lay_h0 (by omega) | exact lay_h1 (by omega)) (by first | decide | omega) (Nat.le_of_ble_eq_true rfl) (Nat.le_of_ble_eq_true rfl) (by omega) ?_
                refine c_countHighest (wt := fun _ => nI 1) (A := fun x => (shL c).getD (x - 1) 0 - (shL a).getD (x - 1) 0) (by omega) hn5 (by omega) (CL_FlP hC5) (CL_76 hC5) (Or.inr (Or.inl rfl)) i2' (CL_74 hC5) (Or.inl rfl) i1' (by omega) hsk.1 (fun x x1 x2 => by rw [hF5.1 68 (by omega)]; exact hA4 x x1 (by omega)) (fun x x1 x2 => Nat.le_trans (Nat.sub_le _ _) (b3 _)) (fun x x1 x2 => hw5 x x2) (fun h6 hF6 => ?_)
                have f6 := fin h6 (CLay_G hC5 hF6.2.2.1 hF6.2.2.2) (fun c hc => by rw [hF6.1 c (by omega) (by omega), hF5.1 c (by omega), hF4.1 c (by omega), hF3.1 c (by omega), hF2.1 c (by omega), hF1.1 c (by omega)]) (by rw [hF6.2.1, hF5.2.1, hF4.2.1, hF3.2.1, hF2.2.1, hF1.2.1]) (fun c hc => by rw [hF6.2.2.1 c hc, hF5.2.2, hF4.2.2, hF3.2.2, hF2.2.2, hF1.2.2])
                have hQ9 := hQ h6 f6.1 f6.2
                dsimp only [gPush]
                refine V_iret dX9_together_147 rfl rfl ?_
                exact hQ9
              · skip
                cases c109
          · skip
            rw [if_f (decide_eq_false c77)] at hQ
            have hQ9 := hQ h3 f3.1 f3.2
            refine V_iconst (v := -1) dX9_together_80 (by decide) ?_
            refine V_iret dX9_together_81 rfl rfl ?_
            exact hQ9
        · skip
          rw [c51, Bool.false_and] at hQ
          have hQ9 := hQ h3 f3.1 f3.2
          refine V_iconst (v := -1) dX9_together_54 (by decide) ?_
          refine V_iret dX9_together_55 rfl rfl ?_
          exact hQ9
end C54
