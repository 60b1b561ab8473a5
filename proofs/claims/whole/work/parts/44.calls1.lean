/-! ===== the class: calls on things ===== -/
theorem inR_lo {v : Int32} {a b : Nat} (h : v < nI a) : inR v a b = false := by unfold inR; rw [decide_eq_false (Int32.not_le.mpr h), Bool.false_and]
theorem inR_hi {v : Int32} {a b : Nat} (h : ¬ v ≤ nI b) : inR v a b = false := by unfold inR; rw [decide_eq_false h, Bool.and_false]
theorem inR_in {v : Int32} {a b : Nat} (h1 : ¬ v < nI a) (h2 : v ≤ nI b) : inR v a b = true := by unfold inR; rw [decide_eq_true (Int32.not_lt.mp h1), decide_eq_true h2]; rfl
theorem inR_lo0 {v : Int32} {b : Nat} (h : v < 0) : inR v 0 b = false := inR_lo h
theorem inR_in0 {v : Int32} {b : Nat} (h1 : ¬ v < 0) (h2 : v ≤ nI b) : inR v 0 b = true := inR_in h1 h2
theorem WT_nil (n : Nat) : WT n (0, [], []) := ⟨by decide, by decide, fun p hp => absurd hp (Nat.not_lt_zero _), fun _ => rfl, fun _ => rfl, fun h => absurd h (by decide)⟩
theorem WT_word {n : Nat} {w : List Nat} (hl : w.length ≤ 6) (hw : LtW n w) : WT n (1, w, []) := ⟨Nat.le_succ 1, hl, hw, fun h => Nat.noConfusion h, fun _ => rfl, fun h => Nat.noConfusion (Nat.succ.inj h)⟩
theorem WT_tab {n : Nat} {w L : List Nat} (hl : w.length ≤ 6) (hw : LtW n w) (hr : L = (rnL w).reverse) : WT n (2, w, L) := ⟨Nat.le_refl 2, hl, hw, fun h => Nat.noConfusion h, fun h => absurd rfl h, fun _ => hr⟩
theorem if_t {α : Sort _} {b : Bool} {x y : α} (h : b = true) : (if b = true then x else y) = x := if_pos h
theorem if_f {α : Sort _} {b : Bool} {x y : α} (h : b = false) : (if b = true then x else y) = y := if_neg (by rw [h]; exact Bool.false_ne_true)
theorem wordOk_lt {D n : Nat} (h : wordOk D n = true) : LtW n (digL D (ndF 10 D)) := by
  unfold wordOk at h
  rw [Bool.and_eq_true, List.all_eq_true] at h
  intro p hp
  have h1 := h.2 _ (List.getElem_mem hp)
  rw [List.getD_eq_getElem?_getD, List.getElem?_eq_getElem hp]
  simpa using h1
section C44
variable {Γ : gM} {d : Nat} {h : gH} {Q : Option Value → gH → Prop} {S : GS}
set_option maxRecDepth 100000 in
set_option maxHeartbeats 4000000 in
theorem c_letters {v : Int32} (hd : 2 ≤ d) (hR : RC h S) (hQ : ∀ h', RC h' (f_letters S v).2 → FrC h h' → Q (some (.int (f_letters S v).1)) h') : V Γ mX9_letters d 124 124 h 0 [some (.ref 0), some (.int v), none] [] Q := by
  obtain ⟨hC, hW, hA, hK, hK2, hB, hSh, hFm⟩ := id hR
  have n0 := hA.1
  have hn5 := hW.1.2.1
  have bad : inR v 2 5 = false → Q (some (.int (-1))) h := fun e => by
    have e2 : f_letters S v = (-1, S) := if_f e
    rw [e2] at hQ; exact hQ h hR FrC.rf
  refine V_iloadn1 dX9_letters_0 ?_
  refine V_iconst (v := nI 2) dX9_letters_1 (by decide) ?_
  first | refine U_icmp_lt (tgt := 10) dX9_letters_2 (by decide) (by with_reducible rfl) (by with_reducible rfl) (by omega) (by omega) (fun c2 => ?_) (fun c2 => ?_) | refine V_icmp_lt (tgt := 10) dX9_letters_2 (by decide) (fun c2 => ?_) (fun c2 => ?_)
  · skip
    have hQ9 := bad (inR_lo c2)
    refine V_iconst (v := -1) dX9_letters_10 (by decide) ?_
    refine V_iret dX9_letters_11 rfl rfl ?_
    exact hQ9
  · skip
    refine V_iloadn1 dX9_letters_5 ?_
    refine V_iconst (v := nI 5) dX9_letters_6 (by decide) ?_
    first | refine U_icmp_le (tgt := 12) dX9_letters_7 (by decide) (by with_reducible rfl) (by with_reducible rfl) (by omega) (by omega) (fun c7 => ?_) (fun c7 => ?_) | refine V_icmp_le (tgt := 12) dX9_letters_7 (by decide) (fun c7 => ?_) (fun c7 => ?_)
    · skip
      have hin := inR_in c2 c7
      obtain ⟨s, s1, s2, rfl⟩ := inR_t (by decide) (by decide) hin
      refine V_aloadn0 dX9_letters_12 ?_
      refine V_getR dX9_letters_13 fX9_10 (by first | assumption | rfl | exact lay_s0 (by omega) | exact lay_s1 (by omega) | exact lay_s2 (by omega) | exact lay_h0 (by omega) | exact lay_h1 (by omega)) (by first | decide | omega) (by first | assumption | exact CL0_0 (by assumption) | exact CL0_1 (by assumption) | exact CL0_3 (by assumption) | exact CL0_4 (by assumption) | exact CL0_5 (by assumption) | exact CL0_6 (by assumption) | exact CL0_7 (by assumption) | exact CL0_8 (by assumption) | exact CL0_9 (by assumption) | exact CL0_10 (by assumption) | exact CL0_11 (by assumption) | exact CL0_12 (by assumption) | exact CL0_13 (by assumption) | exact CL1_2 (by assumption) | exact CL1_3 (by assumption) | exact CL80_2 (by assumption) | exact CL_slot (by assumption) (by omega) | exact (CL_sh (by assumption) (by omega)).1 | exact (CL_sh (by assumption) (by omega)).2.1 | rfl) ?_
      refine V_getI dX9_letters_16 fX9_84 (Or.inl rfl) (by first | assumption | rfl | exact lay_s0 (by omega) | exact lay_s1 (by omega) | exact lay_s2 (by omega) | exact lay_h0 (by omega) | exact lay_h1 (by omega)) (by first | decide | omega) (by first | assumption | exact CL0_0 (by assumption) | exact CL0_1 (by assumption) | exact CL0_3 (by assumption) | exact CL0_4 (by assumption) | exact CL0_5 (by assumption) | exact CL0_6 (by assumption) | exact CL0_7 (by assumption) | exact CL0_8 (by assumption) | exact CL0_9 (by assumption) | exact CL0_10 (by assumption) | exact CL0_11 (by assumption) | exact CL0_12 (by assumption) | exact CL0_13 (by assumption) | exact CL1_2 (by assumption) | exact CL1_3 (by assumption) | exact CL80_2 (by assumption) | exact CL_slot (by assumption) (by omega) | exact (CL_sh (by assumption) (by omega)).1 | exact (CL_sh (by assumption) (by omega)).2.1 | rfl) ?_
      refine V_istoren2 dX9_letters_19 (by decide) rfl ?_
      refine V_iloadn1 dX9_letters_20 ?_
      refine V_iloadn2 dX9_letters_21 ?_
      first | refine U_icmp_eq (tgt := 40) dX9_letters_22 (by decide) (by with_reducible rfl) (by with_reducible rfl) (by omega) (by omega) (fun c22 => ?_) (fun c22 => ?_) | refine V_icmp_eq (tgt := 40) dX9_letters_22 (by decide) (fun c22 => ?_) (fun c22 => ?_)
      · skip
        have e2 : f_letters S (nI s) = (nI S.1.1, S) := by unfold f_letters; rw [if_t hin, if_pos (by rw [c22])]
        rw [e2] at hQ
        have hQ9 := hQ h hR FrC.rf
        refine V_iloadn2 dX9_letters_40 ?_
        refine V_iret dX9_letters_41 rfl rfl ?_
        exact hQ9
      · skip
        have e2 : f_letters S (nI s) = (nI S.1.1, ((s, S.1.2.1, (fun _ => (0, [], [])), S.1.2.2.2), S.2)) := by unfold f_letters; rw [if_t hin, if_neg (fun q => c22 ((nI_eq (by omega) (by omega)).mp q)), cN_nI (by omega)]
        rw [e2] at hQ
        refine V_aloadn0 dX9_letters_25 ?_
        refine V_getR dX9_letters_26 fX9_10 (by first | assumption | rfl | exact lay_s0 (by omega) | exact lay_s1 (by omega) | exact lay_s2 (by omega) | exact lay_h0 (by omega) | exact lay_h1 (by omega)) (by first | decide | omega) (by first | assumption | exact CL0_0 (by assumption) | exact CL0_1 (by assumption) | exact CL0_3 (by assumption) | exact CL0_4 (by assumption) | exact CL0_5 (by assumption) | exact CL0_6 (by assumption) | exact CL0_7 (by assumption) | exact CL0_8 (by assumption) | exact CL0_9 (by assumption) | exact CL0_10 (by assumption) | exact CL0_11 (by assumption) | exact CL0_12 (by assumption) | exact CL0_13 (by assumption) | exact CL1_2 (by assumption) | exact CL1_3 (by assumption) | exact CL80_2 (by assumption) | exact CL_slot (by assumption) (by omega) | exact (CL_sh (by assumption) (by omega)).1 | exact (CL_sh (by assumption) (by omega)).2.1 | rfl) ?_
        refine V_iloadn1 dX9_letters_29 ?_
        refine V_putI dX9_letters_30 fX9_84 (by first | assumption | rfl | exact lay_s0 (by omega) | exact lay_s1 (by omega) | exact lay_s2 (by omega) | exact lay_h0 (by omega) | exact lay_h1 (by omega)) (by first | decide | omega) ?_
        refine V_aloadn0 dX9_letters_33 ?_
        refine V_getR dX9_letters_34 fX9_10 (by first | assumption | rfl | exact lay_s0 (by omega) | exact lay_s1 (by omega) | exact lay_s2 (by omega) | exact lay_h0 (by omega) | exact lay_h1 (by omega)) (by first | decide | omega) (by first | assumption | exact CL0_0 (by assumption) | exact CL0_1 (by assumption) | exact CL0_3 (by assumption) | exact CL0_4 (by assumption) | exact CL0_5 (by assumption) | exact CL0_6 (by assumption) | exact CL0_7 (by assumption) | exact CL0_8 (by assumption) | exact CL0_9 (by assumption) | exact CL0_10 (by assumption) | exact CL0_11 (by assumption) | exact CL0_12 (by assumption) | exact CL0_13 (by assumption) | exact CL1_2 (by assumption) | exact CL1_3 (by assumption) | exact CL80_2 (by assumption) | exact CL_slot (by assumption) (by omega) | exact (CL_sh (by assumption) (by omega)).1 | exact (CL_sh (by assumption) (by omega)).2.1 | rfl) ?_
        refine V_callV0 (μ' := mX6_emptySlots) dX9_letters_37 okX6_emptySlots lX9_88 rfl (by first | assumption | rfl | exact lay_s0 (by omega) | exact lay_s1 (by omega) | exact lay_s2 (by omega) | exact lay_h0 (by omega) | exact lay_h1 (by omega)) (by first | decide | omega) (Nat.le_of_ble_eq_true rfl) (Nat.le_of_ble_eq_true rfl) (by omega) ?_
        refine c_emptySlots (by omega) (CL_now (CLay_eq hC rfl)) (fun h2 hT2 hF2 => ?_)
        have f1 : Fr1 h h2 1 22 := (fr_sI (t := 1) (k := 0) (v := nI s) Fr1.rf (by omega) (by omega)).tr (hF2.wd (by omega) (by omega))
        have hQ9 := hQ h2 ⟨CLay_eq hC f1.2.2, ⟨⟨s1, s2, fun _ _ => WT_nil s, hW.1.2.2.2⟩, hW.2⟩, ⟨by rw [hF2.1 1 (by omega), gI_sI, if_pos ⟨rfl, rfl⟩], by rw [hF2.1 1 (by omega), gI_sI, if_neg (by omega)]; exact hA.2.1, hT2, fun k k1 k2 => by rw [hF2.1 (1 + 2) (by omega), gI_sI, if_neg (by omega)]; exact hA.2.2.2 k k1 k2⟩, by rw [f1.1 0 (by omega)]; exact hK, fun K e => RS_cg (hK2 K e) (fun a _ _ => f1.1 a (by omega)), TpB_cg hB (by rw [f1.1 43 (by omega)]) (f1.1 44 (by omega)), fun q hq => ShtI_cg (hSh q hq) (f1.1 _ (by omega)) (by rw [f1.2.1]), FamI_cg hFm (f1.1 58 (by omega)) (by rw [f1.2.1])⟩ (f1.toC (by omega))
        dsimp only [gPush]
        refine V_iloadn2 dX9_letters_40 ?_
        refine V_iret dX9_letters_41 rfl rfl ?_
        exact hQ9
    · skip
      have hQ9 := bad (inR_hi c7)
      refine V_iconst (v := -1) dX9_letters_10 (by decide) ?_
      refine V_iret dX9_letters_11 rfl rfl ?_
      exact hQ9
set_option maxRecDepth 100000 in
set_option maxHeartbeats 4000000 in
theorem c_word {x D : Int32} (hd : 2 ≤ d) (hR : RC h S) (hQ : ∀ h', RC h' (f_word S x D).2 → FrC h h' → Q (some (.int (f_word S x D).1)) h') : V Γ mX9_word d 124 124 h 0 [some (.ref 0), some (.int x), some (.int D)] [] Q := by
  obtain ⟨hC, hW, hA, hK, hK2, hB, hSh, hFm⟩ := id hR
  have n0 := hA.1
  have hn5 := hW.1.2.1
  have bad : ∀ h', RC h' S → FrC h h' → (inB x 6 && (decide (0 ≤ D) && wordOk (cN D) S.1.1)) = false → Q (some (.int (-1))) h' := fun h' r f e => by
    have e2 : f_word S x D = (-1, S) := if_f e
    rw [e2] at hQ; exact hQ h' r f
  have scr : ∀ h', Fr1 h h' 80 83 → FrS h h' := fun h' f => ⟨fun a ha => f.1 a (by omega), by rw [f.1 43 (by omega)], fun a ha => by rw [f.2.1], CLay_eq hC f.2.2⟩
  by_cases hD : D < 0
  · skip
    refine V_iloadn1 dX9_word_0 ?_
    refine V_callS1 (μ' := mX9_isSlot) dX9_word_1 okX9_isSlot lX9_91 (Nat.le_of_ble_eq_true rfl) (Nat.le_of_ble_eq_true rfl) (by omega) ?_
    refine c_isSlot ?_
    dsimp only [gPush]
    first | refine U_ifB_eq (tgt := 25) dX9_word_4 (by decide) (by with_reducible rfl) (fun c4 => ?_) (fun c4 => ?_) | refine U_if_eq (tgt := 25) dX9_word_4 (by decide) (by with_reducible rfl) (by omega) (fun c4 => ?_) (fun c4 => ?_) | refine V_if_eq (tgt := 25) dX9_word_4 (by decide) (fun c4 => ?_) (fun c4 => ?_)
    · skip
      have hQ9 := bad h hR FrC.rf (by rw [c4, Bool.false_and])
      refine V_iconst (v := -1) dX9_word_25 (by decide) ?_
      refine V_iret dX9_word_26 rfl rfl ?_
      exact hQ9
    · skip
      have hQ9 := bad h hR FrC.rf (by rw [decide_eq_false (Int32.not_le.mpr hD), Bool.false_and, Bool.and_false])
      refine V_aloadn0 dX9_word_7 ?_
      refine V_getR dX9_word_8 fX9_76 (by first | assumption | rfl | exact lay_s0 (by omega) | exact lay_s1 (by omega) | exact lay_s2 (by omega) | exact lay_h0 (by omega) | exact lay_h1 (by omega)) (by first | decide | omega) (by first | assumption | exact CL0_0 (by assumption) | exact CL0_1 (by assumption) | exact CL0_3 (by assumption) | exact CL0_4 (by assumption) | exact CL0_5 (by assumption) | exact CL0_6 (by assumption) | exact CL0_7 (by assumption) | exact CL0_8 (by assumption) | exact CL0_9 (by assumption) | exact CL0_10 (by assumption) | exact CL0_11 (by assumption) | exact CL0_12 (by assumption) | exact CL0_13 (by assumption) | exact CL1_2 (by assumption) | exact CL1_3 (by assumption) | exact CL80_2 (by assumption) | exact CL_slot (by assumption) (by omega) | exact (CL_sh (by assumption) (by omega)).1 | exact (CL_sh (by assumption) (by omega)).2.1 | rfl) ?_
      refine V_iloadn2 dX9_word_11 ?_
      refine V_aloadn0 dX9_word_12 ?_
      refine V_getR dX9_word_13 fX9_10 (by first | assumption | rfl | exact lay_s0 (by omega) | exact lay_s1 (by omega) | exact lay_s2 (by omega) | exact lay_h0 (by omega) | exact lay_h1 (by omega)) (by first | decide | omega) (by first | assumption | exact CL0_0 (by assumption) | exact CL0_1 (by assumption) | exact CL0_3 (by assumption) | exact CL0_4 (by assumption) | exact CL0_5 (by assumption) | exact CL0_6 (by assumption) | exact CL0_7 (by assumption) | exact CL0_8 (by assumption) | exact CL0_9 (by assumption) | exact CL0_10 (by assumption) | exact CL0_11 (by assumption) | exact CL0_12 (by assumption) | exact CL0_13 (by assumption) | exact CL1_2 (by assumption) | exact CL1_3 (by assumption) | exact CL80_2 (by assumption) | exact CL_slot (by assumption) (by omega) | exact (CL_sh (by assumption) (by omega)).1 | exact (CL_sh (by assumption) (by omega)).2.1 | rfl) ?_
      refine V_getI dX9_word_16 fX9_84 (Or.inl rfl) (by first | assumption | rfl | exact lay_s0 (by omega) | exact lay_s1 (by omega) | exact lay_s2 (by omega) | exact lay_h0 (by omega) | exact lay_h1 (by omega)) (by first | decide | omega) (by first | assumption | exact CL0_0 (by assumption) | exact CL0_1 (by assumption) | exact CL0_3 (by assumption) | exact CL0_4 (by assumption) | exact CL0_5 (by assumption) | exact CL0_6 (by assumption) | exact CL0_7 (by assumption) | exact CL0_8 (by assumption) | exact CL0_9 (by assumption) | exact CL0_10 (by assumption) | exact CL0_11 (by assumption) | exact CL0_12 (by assumption) | exact CL0_13 (by assumption) | exact CL1_2 (by assumption) | exact CL1_3 (by assumption) | exact CL80_2 (by assumption) | exact CL_slot (by assumption) (by omega) | exact (CL_sh (by assumption) (by omega)).1 | exact (CL_sh (by assumption) (by omega)).2.1 | rfl) ?_
      refine V_callV2 (μ' := mX8_becomesWord) dX9_word_19 okX8_becomesWord lX9_95 rfl (by first | assumption | rfl | exact lay_s0 (by omega) | exact lay_s1 (by omega) | exact lay_s2 (by omega) | exact lay_h0 (by omega) | exact lay_h1 (by omega)) (by first | decide | omega) (Nat.le_of_ble_eq_true rfl) (Nat.le_of_ble_eq_true rfl) (by omega) ?_
      refine c_becomesWordNeg (by omega) hD ?_
      dsimp only [gPush]
      first | refine U_ifB_ne (tgt := 27) dX9_word_22 (by decide) (by with_reducible rfl) (fun c22 => ?_) (fun c22 => ?_) | refine U_if_ne (tgt := 27) dX9_word_22 (by decide) (by with_reducible rfl) (by omega) (fun c22 => ?_) (fun c22 => ?_) | refine V_if_ne (tgt := 27) dX9_word_22 (by decide) (fun c22 => ?_) (fun c22 => ?_)
      · skip
        cases c22
      · skip
        refine V_iconst (v := -1) dX9_word_25 (by decide) ?_
        refine V_iret dX9_word_26 rfl rfl ?_
        exact hQ9
  obtain ⟨D', hD', rfl⟩ := nI_of hD
  cases hok : wordOk D' S.1.1 with
  | false =>
    refine V_iloadn1 dX9_word_0 ?_
    refine V_callS1 (μ' := mX9_isSlot) dX9_word_1 okX9_isSlot lX9_91 (Nat.le_of_ble_eq_true rfl) (Nat.le_of_ble_eq_true rfl) (by omega) ?_
    refine c_isSlot ?_
    dsimp only [gPush]
    first | refine U_ifB_eq (tgt := 25) dX9_word_4 (by decide) (by with_reducible rfl) (fun c4 => ?_) (fun c4 => ?_) | refine U_if_eq (tgt := 25) dX9_word_4 (by decide) (by with_reducible rfl) (by omega) (fun c4 => ?_) (fun c4 => ?_) | refine V_if_eq (tgt := 25) dX9_word_4 (by decide) (fun c4 => ?_) (fun c4 => ?_)
    · skip
      have hQ9 := bad h hR FrC.rf (by rw [c4, Bool.false_and])
      refine V_iconst (v := -1) dX9_word_25 (by decide) ?_
      refine V_iret dX9_word_26 rfl rfl ?_
      exact hQ9
    · skip
      refine V_aloadn0 dX9_word_7 ?_
      refine V_getR dX9_word_8 fX9_76 (by first | assumption | rfl | exact lay_s0 (by omega) | exact lay_s1 (by omega) | exact lay_s2 (by omega) | exact lay_h0 (by omega) | exact lay_h1 (by omega)) (by first | decide | omega) (by first | assumption | exact CL0_0 (by assumption) | exact CL0_1 (by assumption) | exact CL0_3 (by assumption) | exact CL0_4 (by assumption) | exact CL0_5 (by assumption) | exact CL0_6 (by assumption) | exact CL0_7 (by assumption) | exact CL0_8 (by assumption) | exact CL0_9 (by assumption) | exact CL0_10 (by assumption) | exact CL0_11 (by assumption) | exact CL0_12 (by assumption) | exact CL0_13 (by assumption) | exact CL1_2 (by assumption) | exact CL1_3 (by assumption) | exact CL80_2 (by assumption) | exact CL_slot (by assumption) (by omega) | exact (CL_sh (by assumption) (by omega)).1 | exact (CL_sh (by assumption) (by omega)).2.1 | rfl) ?_
      refine V_iloadn2 dX9_word_11 ?_
      refine V_aloadn0 dX9_word_12 ?_
      refine V_getR dX9_word_13 fX9_10 (by first | assumption | rfl | exact lay_s0 (by omega) | exact lay_s1 (by omega) | exact lay_s2 (by omega) | exact lay_h0 (by omega) | exact lay_h1 (by omega)) (by first | decide | omega) (by first | assumption | exact CL0_0 (by assumption) | exact CL0_1 (by assumption) | exact CL0_3 (by assumption) | exact CL0_4 (by assumption) | exact CL0_5 (by assumption) | exact CL0_6 (by assumption) | exact CL0_7 (by assumption) | exact CL0_8 (by assumption) | exact CL0_9 (by assumption) | exact CL0_10 (by assumption) | exact CL0_11 (by assumption) | exact CL0_12 (by assumption) | exact CL0_13 (by assumption) | exact CL1_2 (by assumption) | exact CL1_3 (by assumption) | exact CL80_2 (by assumption) | exact CL_slot (by assumption) (by omega) | exact (CL_sh (by assumption) (by omega)).1 | exact (CL_sh (by assumption) (by omega)).2.1 | rfl) ?_
      refine V_getI dX9_word_16 fX9_84 (Or.inl rfl) (by first | assumption | rfl | exact lay_s0 (by omega) | exact lay_s1 (by omega) | exact lay_s2 (by omega) | exact lay_h0 (by omega) | exact lay_h1 (by omega)) (by first | decide | omega) (by first | assumption | exact CL0_0 (by assumption) | exact CL0_1 (by assumption) | exact CL0_3 (by assumption) | exact CL0_4 (by assumption) | exact CL0_5 (by assumption) | exact CL0_6 (by assumption) | exact CL0_7 (by assumption) | exact CL0_8 (by assumption) | exact CL0_9 (by assumption) | exact CL0_10 (by assumption) | exact CL0_11 (by assumption) | exact CL0_12 (by assumption) | exact CL0_13 (by assumption) | exact CL1_2 (by assumption) | exact CL1_3 (by assumption) | exact CL80_2 (by assumption) | exact CL_slot (by assumption) (by omega) | exact (CL_sh (by assumption) (by omega)).1 | exact (CL_sh (by assumption) (by omega)).2.1 | rfl) ?_
      refine V_callV2 (μ' := mX8_becomesWord) dX9_word_19 okX8_becomesWord lX9_95 rfl (by first | assumption | rfl | exact lay_s0 (by omega) | exact lay_s1 (by omega) | exact lay_s2 (by omega) | exact lay_h0 (by omega) | exact lay_h1 (by omega)) (by first | decide | omega) (Nat.le_of_ble_eq_true rfl) (Nat.le_of_ble_eq_true rfl) (by omega) ?_
      refine c_becomesWord (by omega) hD' hn5 (CL_80 hC) (fun q => absurd q (by rw [hok]; exact Bool.false_ne_true)) (fun _ h1 hF1 => ?_)
      have hQ9 := bad h1 (RC_S hR (scr h1 hF1)) (hF1.toC (by omega)) (by rw [cN_nI hD', hok, Bool.and_false, Bool.and_false])
      dsimp only [gPush]
      first | refine U_ifB_ne (tgt := 27) dX9_word_22 (by decide) (by with_reducible rfl) (fun c22 => ?_) (fun c22 => ?_) | refine U_if_ne (tgt := 27) dX9_word_22 (by decide) (by with_reducible rfl) (by omega) (fun c22 => ?_) (fun c22 => ?_) | refine V_if_ne (tgt := 27) dX9_word_22 (by decide) (fun c22 => ?_) (fun c22 => ?_)
      · skip
        cases c22
      · skip
        refine V_iconst (v := -1) dX9_word_25 (by decide) ?_
        refine V_iret dX9_word_26 rfl rfl ?_
        exact hQ9
  | true =>
    refine V_iloadn1 dX9_word_0 ?_
    refine V_callS1 (μ' := mX9_isSlot) dX9_word_1 okX9_isSlot lX9_91 (Nat.le_of_ble_eq_true rfl) (Nat.le_of_ble_eq_true rfl) (by omega) ?_
    refine c_isSlot ?_
    dsimp only [gPush]
    first | refine U_ifB_eq (tgt := 25) dX9_word_4 (by decide) (by with_reducible rfl) (fun c4 => ?_) (fun c4 => ?_) | refine U_if_eq (tgt := 25) dX9_word_4 (by decide) (by with_reducible rfl) (by omega) (fun c4 => ?_) (fun c4 => ?_) | refine V_if_eq (tgt := 25) dX9_word_4 (by decide) (fun c4 => ?_) (fun c4 => ?_)
    · skip
      have hQ9 := bad h hR FrC.rf (by rw [c4, Bool.false_and])
      refine V_iconst (v := -1) dX9_word_25 (by decide) ?_
      refine V_iret dX9_word_26 rfl rfl ?_
      exact hQ9
    · skip
      obtain ⟨s, hs, rfl⟩ := inB_t (by decide) c4
      have e2 : f_word S (nI s) (nI D') = (nI (ndF 10 D'), putT S s (1, digL D' (ndF 10 D'), [])) := by unfold f_word; rw [cN_nI hD', cN_nI (by omega), hok, c4, decide_eq_true (nI_pos' hD')]; rfl
      rw [e2] at hQ
      refine V_aloadn0 dX9_word_7 ?_
      refine V_getR dX9_word_8 fX9_76 (by first | assumption | rfl | exact lay_s0 (by omega) | exact lay_s1 (by omega) | exact lay_s2 (by omega) | exact lay_h0 (by omega) | exact lay_h1 (by omega)) (by first | decide | omega) (by first | assumption | exact CL0_0 (by assumption) | exact CL0_1 (by assumption) | exact CL0_3 (by assumption) | exact CL0_4 (by assumption) | exact CL0_5 (by assumption) | exact CL0_6 (by assumption) | exact CL0_7 (by assumption) | exact CL0_8 (by assumption) | exact CL0_9 (by assumption) | exact CL0_10 (by assumption) | exact CL0_11 (by assumption) | exact CL0_12 (by assumption) | exact CL0_13 (by assumption) | exact CL1_2 (by assumption) | exact CL1_3 (by assumption) | exact CL80_2 (by assumption) | exact CL_slot (by assumption) (by omega) | exact (CL_sh (by assumption) (by omega)).1 | exact (CL_sh (by assumption) (by omega)).2.1 | rfl) ?_
      refine V_iloadn2 dX9_word_11 ?_
      refine V_aloadn0 dX9_word_12 ?_
      refine V_getR dX9_word_13 fX9_10 (by first | assumption | rfl | exact lay_s0 (by omega) | exact lay_s1 (by omega) | exact lay_s2 (by omega) | exact lay_h0 (by omega) | exact lay_h1 (by omega)) (by first | decide | omega) (by first | assumption | exact CL0_0 (by assumption) | exact CL0_1 (by assumption) | exact CL0_3 (by assumption) | exact CL0_4 (by assumption) | exact CL0_5 (by assumption) | exact CL0_6 (by assumption) | exact CL0_7 (by assumption) | exact CL0_8 (by assumption) | exact CL0_9 (by assumption) | exact CL0_10 (by assumption) | exact CL0_11 (by assumption) | exact CL0_12 (by assumption) | exact CL0_13 (by assumption) | exact CL1_2 (by assumption) | exact CL1_3 (by assumption) | exact CL80_2 (by assumption) | exact CL_slot (by assumption) (by omega) | exact (CL_sh (by assumption) (by omega)).1 | exact (CL_sh (by assumption) (by omega)).2.1 | rfl) ?_
      refine V_getI dX9_word_16 fX9_84 (Or.inl rfl) (by first | assumption | rfl | exact lay_s0 (by omega) | exact lay_s1 (by omega) | exact lay_s2 (by omega) | exact lay_h0 (by omega) | exact lay_h1 (by omega)) (by first | decide | omega) (by first | assumption | exact CL0_0 (by assumption) | exact CL0_1 (by assumption) | exact CL0_3 (by assumption) | exact CL0_4 (by assumption) | exact CL0_5 (by assumption) | exact CL0_6 (by assumption) | exact CL0_7 (by assumption) | exact CL0_8 (by assumption) | exact CL0_9 (by assumption) | exact CL0_10 (by assumption) | exact CL0_11 (by assumption) | exact CL0_12 (by assumption) | exact CL0_13 (by assumption) | exact CL1_2 (by assumption) | exact CL1_3 (by assumption) | exact CL80_2 (by assumption) | exact CL_slot (by assumption) (by omega) | exact (CL_sh (by assumption) (by omega)).1 | exact (CL_sh (by assumption) (by omega)).2.1 | rfl) ?_
      refine V_callV2 (μ' := mX8_becomesWord) dX9_word_19 okX8_becomesWord lX9_95 rfl (by first | assumption | rfl | exact lay_s0 (by omega) | exact lay_s1 (by omega) | exact lay_s2 (by omega) | exact lay_h0 (by omega) | exact lay_h1 (by omega)) (by first | decide | omega) (Nat.le_of_ble_eq_true rfl) (Nat.le_of_ble_eq_true rfl) (by omega) ?_
      refine c_becomesWord (by omega) hD' hn5 (CL_80 hC) (fun _ h1 hT1 hF1 => ?_) (fun q => absurd q (by rw [hok]; exact Bool.noConfusion))
      have hC1 := CLay_eq hC hF1.2.2
      have hR1 := RC_S hR (scr h1 hF1)
      dsimp only [gPush]
      first | refine U_ifB_ne (tgt := 27) dX9_word_22 (by decide) (by with_reducible rfl) (fun c22 => ?_) (fun c22 => ?_) | refine U_if_ne (tgt := 27) dX9_word_22 (by decide) (by with_reducible rfl) (by omega) (fun c22 => ?_) (fun c22 => ?_) | refine V_if_ne (tgt := 27) dX9_word_22 (by decide) (fun c22 => ?_) (fun c22 => ?_)
      · skip
        refine V_aloadn0 dX9_word_27 ?_
        refine V_getR dX9_word_28 fX9_10 (by first | assumption | rfl | exact lay_s0 (by omega) | exact lay_s1 (by omega) | exact lay_s2 (by omega) | exact lay_h0 (by omega) | exact lay_h1 (by omega)) (by first | decide | omega) (by first | assumption | exact CL0_0 (by assumption) | exact CL0_1 (by assumption) | exact CL0_3 (by assumption) | exact CL0_4 (by assumption) | exact CL0_5 (by assumption) | exact CL0_6 (by assumption) | exact CL0_7 (by assumption) | exact CL0_8 (by assumption) | exact CL0_9 (by assumption) | exact CL0_10 (by assumption) | exact CL0_11 (by assumption) | exact CL0_12 (by assumption) | exact CL0_13 (by assumption) | exact CL1_2 (by assumption) | exact CL1_3 (by assumption) | exact CL80_2 (by assumption) | exact CL_slot (by assumption) (by omega) | exact (CL_sh (by assumption) (by omega)).1 | exact (CL_sh (by assumption) (by omega)).2.1 | rfl) ?_
        refine V_getR dX9_word_31 fX9_99 (by first | assumption | rfl | exact lay_s0 (by omega) | exact lay_s1 (by omega) | exact lay_s2 (by omega) | exact lay_h0 (by omega) | exact lay_h1 (by omega)) (by first | decide | omega) (by first | assumption | exact CL0_0 (by assumption) | exact CL0_1 (by assumption) | exact CL0_3 (by assumption) | exact CL0_4 (by assumption) | exact CL0_5 (by assumption) | exact CL0_6 (by assumption) | exact CL0_7 (by assumption) | exact CL0_8 (by assumption) | exact CL0_9 (by assumption) | exact CL0_10 (by assumption) | exact CL0_11 (by assumption) | exact CL0_12 (by assumption) | exact CL0_13 (by assumption) | exact CL1_2 (by assumption) | exact CL1_3 (by assumption) | exact CL80_2 (by assumption) | exact CL_slot (by assumption) (by omega) | exact (CL_sh (by assumption) (by omega)).1 | exact (CL_sh (by assumption) (by omega)).2.1 | rfl) ?_
        refine V_iloadn1 dX9_word_34 ?_
        refine U_aald dX9_word_35 (by with_reducible rfl) (by first | assumption | rfl | exact lay_s0 (by omega) | exact lay_s1 (by omega) | exact lay_s2 (by omega) | exact lay_h0 (by omega) | exact lay_h1 (by omega)) (by decide) (by first | decide | omega) (by omega) (by first | assumption | exact CL0_0 (by assumption) | exact CL0_1 (by assumption) | exact CL0_3 (by assumption) | exact CL0_4 (by assumption) | exact CL0_5 (by assumption) | exact CL0_6 (by assumption) | exact CL0_7 (by assumption) | exact CL0_8 (by assumption) | exact CL0_9 (by assumption) | exact CL0_10 (by assumption) | exact CL0_11 (by assumption) | exact CL0_12 (by assumption) | exact CL0_13 (by assumption) | exact CL1_2 (by assumption) | exact CL1_3 (by assumption) | exact CL80_2 (by assumption) | exact CL_slot (by assumption) (by omega) | exact (CL_sh (by assumption) (by omega)).1 | exact (CL_sh (by assumption) (by omega)).2.1 | rfl) ?_
        refine V_aloadn0 dX9_word_36 ?_
        refine V_getR dX9_word_37 fX9_76 (by first | assumption | rfl | exact lay_s0 (by omega) | exact lay_s1 (by omega) | exact lay_s2 (by omega) | exact lay_h0 (by omega) | exact lay_h1 (by omega)) (by first | decide | omega) (by first | assumption | exact CL0_0 (by assumption) | exact CL0_1 (by assumption) | exact CL0_3 (by assumption) | exact CL0_4 (by assumption) | exact CL0_5 (by assumption) | exact CL0_6 (by assumption) | exact CL0_7 (by assumption) | exact CL0_8 (by assumption) | exact CL0_9 (by assumption) | exact CL0_10 (by assumption) | exact CL0_11 (by assumption) | exact CL0_12 (by assumption) | exact CL0_13 (by assumption) | exact CL1_2 (by assumption) | exact CL1_3 (by assumption) | exact CL80_2 (by assumption) | exact CL_slot (by assumption) (by omega) | exact (CL_sh (by assumption) (by omega)).1 | exact (CL_sh (by assumption) (by omega)).2.1 | rfl) ?_
        refine V_callV1 (μ' := mX8_becomeLike) dX9_word_40 okX8_becomeLike lX9_103 rfl (by first | assumption | rfl | exact lay_s0 (by omega) | exact lay_s1 (by omega) | exact lay_s2 (by omega) | exact lay_h0 (by omega) | exact lay_h1 (by omega)) (by first | decide | omega) (Nat.le_of_ble_eq_true rfl) (Nat.le_of_ble_eq_true rfl) (by omega) ?_
        refine c_becomeLike (by omega) (CL_T hC1 hs) (CL_80 hC1) hT1 (by omega) (fun h2 hT2 hF2 => ?_)
        have hC2 := CLay_eq hC1 hF2.2.2
        have hD80 : gI h2 80 1 = nI (ndF 10 D') := by rw [hF2.1 80 (by omega), hT1.2.1, digL_len]
        have hl6 : ndF 10 D' ≤ 6 := by have := hT1.2.2.2.2.2.1; rw [digL_len] at this; exact this
        have hlt : LtW S.1.1 (digL D' (ndF 10 D')) := wordOk_lt hok
        have hQ9 := hQ h2 (RC_put hR1 hs (WT_word (by rw [digL_len]; exact hl6) hlt) hT2 (hF2.wd (by omega) (by omega))) ((hF1.toC (by omega)).tr (hF2.toC (by omega)))
        dsimp only [gPush]
        refine V_aloadn0 dX9_word_43 ?_
        refine V_getR dX9_word_44 fX9_76 (by first | assumption | rfl | exact lay_s0 (by omega) | exact lay_s1 (by omega) | exact lay_s2 (by omega) | exact lay_h0 (by omega) | exact lay_h1 (by omega)) (by first | decide | omega) (by first | assumption | exact CL0_0 (by assumption) | exact CL0_1 (by assumption) | exact CL0_3 (by assumption) | exact CL0_4 (by assumption) | exact CL0_5 (by assumption) | exact CL0_6 (by assumption) | exact CL0_7 (by assumption) | exact CL0_8 (by assumption) | exact CL0_9 (by assumption) | exact CL0_10 (by assumption) | exact CL0_11 (by assumption) | exact CL0_12 (by assumption) | exact CL0_13 (by assumption) | exact CL1_2 (by assumption) | exact CL1_3 (by assumption) | exact CL80_2 (by assumption) | exact CL_slot (by assumption) (by omega) | exact (CL_sh (by assumption) (by omega)).1 | exact (CL_sh (by assumption) (by omega)).2.1 | rfl) ?_
        refine V_getI dX9_word_47 fX9_107 (Or.inl rfl) (by first | assumption | rfl | exact lay_s0 (by omega) | exact lay_s1 (by omega) | exact lay_s2 (by omega) | exact lay_h0 (by omega) | exact lay_h1 (by omega)) (by first | decide | omega) (by first | assumption | exact CL0_0 (by assumption) | exact CL0_1 (by assumption) | exact CL0_3 (by assumption) | exact CL0_4 (by assumption) | exact CL0_5 (by assumption) | exact CL0_6 (by assumption) | exact CL0_7 (by assumption) | exact CL0_8 (by assumption) | exact CL0_9 (by assumption) | exact CL0_10 (by assumption) | exact CL0_11 (by assumption) | exact CL0_12 (by assumption) | exact CL0_13 (by assumption) | exact CL1_2 (by assumption) | exact CL1_3 (by assumption) | exact CL80_2 (by assumption) | exact CL_slot (by assumption) (by omega) | exact (CL_sh (by assumption) (by omega)).1 | exact (CL_sh (by assumption) (by omega)).2.1 | rfl) ?_
        refine V_iret dX9_word_50 rfl rfl ?_
        exact hQ9
      · skip
        cases c22
set_option maxRecDepth 100000 in
set_option maxHeartbeats 4000000 in
theorem c_bare {x : Int32} (hd : 1 ≤ d) (hR : RC h S) (hQ : ∀ h', RC h' (f_bare S x).2 → FrC h h' → Q (some (.int (f_bare S x).1)) h') : V Γ mX9_bare d 124 124 h 0 [some (.ref 0), some (.int x), none] [] Q := by
  obtain ⟨hC, hW, hA, hK, hK2, hB, hSh, hFm⟩ := id hR
  cases c4 : inB x 6 with
  | false =>
    have e2 : f_bare S x = (-1, S) := if_f c4
    rw [e2] at hQ
    refine V_iloadn1 dX9_bare_0 ?_
    refine V_callS1 (μ' := mX9_isSlot) dX9_bare_1 okX9_isSlot lX9_91 (Nat.le_of_ble_eq_true rfl) (Nat.le_of_ble_eq_true rfl) (by omega) ?_
    refine c_isSlot ?_
    rw [c4]
    dsimp only [gPush]
    first | refine U_ifB_ne (tgt := 9) dX9_bare_4 (by decide) (by with_reducible rfl) (fun c4 => ?_) (fun c4 => ?_) | refine U_if_ne (tgt := 9) dX9_bare_4 (by decide) (by with_reducible rfl) (by omega) (fun c4 => ?_) (fun c4 => ?_) | refine V_if_ne (tgt := 9) dX9_bare_4 (by decide) (fun c4 => ?_) (fun c4 => ?_)
    · skip
      cases c4
    · skip
      refine V_iconst (v := -1) dX9_bare_7 (by decide) ?_
      refine V_iret dX9_bare_8 rfl rfl ?_
      exact hQ h hR FrC.rf
  | true =>
    obtain ⟨s, hs, rfl⟩ := inB_t (by decide) c4
    obtain ⟨hT, hWT⟩ := RC_slot hR hs
    have e2 : f_bare S (nI s) = ((if (S.1.2.2.1 s).1 = 0 then nI 0 else nI 1), putT S s (0, [], [])) := by unfold f_bare tS; rw [if_t c4, cN_nI (by omega)]
    rw [e2] at hQ
    have fin : Q (some (.int (if (S.1.2.2.1 s).1 = 0 then nI 0 else nI 1))) (sI (sI (sI h (4 + 3 * s) 0 (nI 0)) (4 + 3 * s) 1 (nI 0)) (4 + 3 * s) 3 (nI 0)) := by
      have f1 : Fr1 h (sI (sI (sI h (4 + 3 * s) 0 (nI 0)) (4 + 3 * s) 1 (nI 0)) (4 + 3 * s) 3 (nI 0)) (4 + 3 * s) (7 + 3 * s) := fr_sI (fr_sI (fr_sI Fr1.rf (by omega) (by omega)) (by omega) (by omega)) (by omega) (by omega)
      refine hQ _ (RC_put hR hs (WT_nil _) ⟨by simp [gI_sI], by simp [gI_sI], by simp [gI_sI], fun p hp => absurd hp (Nat.not_lt_zero _), fun p hp => absurd hp (Nat.not_lt_zero _), by decide, by decide, fun p => by simp, fun p => by simp, by decide⟩ f1) (f1.toC (by omega))
    refine V_iloadn1 dX9_bare_0 ?_
    refine V_callS1 (μ' := mX9_isSlot) dX9_bare_1 okX9_isSlot lX9_91 (Nat.le_of_ble_eq_true rfl) (Nat.le_of_ble_eq_true rfl) (by omega) ?_
    refine c_isSlot ?_
    rw [c4]
    dsimp only [gPush]
    first | refine U_ifB_ne (tgt := 9) dX9_bare_4 (by decide) (by with_reducible rfl) (fun c4 => ?_) (fun c4 => ?_) | refine U_if_ne (tgt := 9) dX9_bare_4 (by decide) (by with_reducible rfl) (by omega) (fun c4 => ?_) (fun c4 => ?_) | refine V_if_ne (tgt := 9) dX9_bare_4 (by decide) (fun c4 => ?_) (fun c4 => ?_)
    · skip
      refine V_aloadn0 dX9_bare_9 ?_
      refine V_iloadn1 dX9_bare_10 ?_
      refine V_callV1 (μ' := mX9_isHeld) dX9_bare_11 okX9_isHeld lX9_130 rfl (by first | assumption | rfl | exact lay_s0 (by omega) | exact lay_s1 (by omega) | exact lay_s2 (by omega) | exact lay_h0 (by omega) | exact lay_h1 (by omega)) (by first | decide | omega) (Nat.le_of_ble_eq_true rfl) (Nat.le_of_ble_eq_true rfl) (by omega) ?_
      refine c_isHeld hs (CL0_0 hC) (CL1_2 hC) (CL_slot hC hs) (lay_s0 hs) hT.1 hWT.1 ?_
      dsimp only [gPush]
      first | refine U_ifB_eq (tgt := 21) dX9_bare_14 (by decide) (by with_reducible rfl) (fun c14 => ?_) (fun c14 => ?_) | refine U_if_eq (tgt := 21) dX9_bare_14 (by decide) (by with_reducible rfl) (by omega) (fun c14 => ?_) (fun c14 => ?_) | refine V_if_eq (tgt := 21) dX9_bare_14 (by decide) (fun c14 => ?_) (fun c14 => ?_)
      · skip
        have ek : (S.1.2.2.1 s).1 = 0 := by simpa using c14
        rw [if_pos ek] at fin
        refine V_iconst (v := nI 0) dX9_bare_21 (by decide) ?_
        refine V_istoren2 dX9_bare_22 (by decide) rfl ?_
        refine V_aloadn0 dX9_bare_23 ?_
        refine V_getR dX9_bare_24 fX9_10 (by first | assumption | rfl | exact lay_s0 (by omega) | exact lay_s1 (by omega) | exact lay_s2 (by omega) | exact lay_h0 (by omega) | exact lay_h1 (by omega)) (by first | decide | omega) (by first | assumption | exact CL0_0 (by assumption) | exact CL0_1 (by assumption) | exact CL0_3 (by assumption) | exact CL0_4 (by assumption) | exact CL0_5 (by assumption) | exact CL0_6 (by assumption) | exact CL0_7 (by assumption) | exact CL0_8 (by assumption) | exact CL0_9 (by assumption) | exact CL0_10 (by assumption) | exact CL0_11 (by assumption) | exact CL0_12 (by assumption) | exact CL0_13 (by assumption) | exact CL1_2 (by assumption) | exact CL1_3 (by assumption) | exact CL80_2 (by assumption) | exact CL_slot (by assumption) (by omega) | exact (CL_sh (by assumption) (by omega)).1 | exact (CL_sh (by assumption) (by omega)).2.1 | rfl) ?_
        refine V_getR dX9_bare_27 fX9_99 (by first | assumption | rfl | exact lay_s0 (by omega) | exact lay_s1 (by omega) | exact lay_s2 (by omega) | exact lay_h0 (by omega) | exact lay_h1 (by omega)) (by first | decide | omega) (by first | assumption | exact CL0_0 (by assumption) | exact CL0_1 (by assumption) | exact CL0_3 (by assumption) | exact CL0_4 (by assumption) | exact CL0_5 (by assumption) | exact CL0_6 (by assumption) | exact CL0_7 (by assumption) | exact CL0_8 (by assumption) | exact CL0_9 (by assumption) | exact CL0_10 (by assumption) | exact CL0_11 (by assumption) | exact CL0_12 (by assumption) | exact CL0_13 (by assumption) | exact CL1_2 (by assumption) | exact CL1_3 (by assumption) | exact CL80_2 (by assumption) | exact CL_slot (by assumption) (by omega) | exact (CL_sh (by assumption) (by omega)).1 | exact (CL_sh (by assumption) (by omega)).2.1 | rfl) ?_
        refine V_iloadn1 dX9_bare_30 ?_
        refine U_aald dX9_bare_31 (by with_reducible rfl) (by first | assumption | rfl | exact lay_s0 (by omega) | exact lay_s1 (by omega) | exact lay_s2 (by omega) | exact lay_h0 (by omega) | exact lay_h1 (by omega)) (by decide) (by first | decide | omega) (by omega) (by first | assumption | exact CL0_0 (by assumption) | exact CL0_1 (by assumption) | exact CL0_3 (by assumption) | exact CL0_4 (by assumption) | exact CL0_5 (by assumption) | exact CL0_6 (by assumption) | exact CL0_7 (by assumption) | exact CL0_8 (by assumption) | exact CL0_9 (by assumption) | exact CL0_10 (by assumption) | exact CL0_11 (by assumption) | exact CL0_12 (by assumption) | exact CL0_13 (by assumption) | exact CL1_2 (by assumption) | exact CL1_3 (by assumption) | exact CL80_2 (by assumption) | exact CL_slot (by assumption) (by omega) | exact (CL_sh (by assumption) (by omega)).1 | exact (CL_sh (by assumption) (by omega)).2.1 | rfl) ?_
        refine V_callV0 (μ' := mX8_becomeNothing) dX9_bare_32 okX8_becomeNothing lX9_133 rfl (by first | assumption | rfl | exact lay_s0 (by omega) | exact lay_s1 (by omega) | exact lay_s2 (by omega) | exact lay_h0 (by omega) | exact lay_h1 (by omega)) (by first | decide | omega) (Nat.le_of_ble_eq_true rfl) (Nat.le_of_ble_eq_true rfl) (by omega) ?_
        refine c_becomeNothing (CL_T hC hs) ?_
        dsimp only [gPush]
        refine V_iloadn2 dX9_bare_35 ?_
        refine V_iret dX9_bare_36 rfl rfl ?_
        exact fin
      · skip
        have ek : ¬ (S.1.2.2.1 s).1 = 0 := by simpa using c14
        rw [if_neg ek] at fin
        refine V_iconst (v := nI 1) dX9_bare_17 (by decide) ?_
        refine V_goto (tgt := 22) dX9_bare_18 (by decide) ?_
        refine V_istoren2 dX9_bare_22 (by decide) rfl ?_
        refine V_aloadn0 dX9_bare_23 ?_
        refine V_getR dX9_bare_24 fX9_10 (by first | assumption | rfl | exact lay_s0 (by omega) | exact lay_s1 (by omega) | exact lay_s2 (by omega) | exact lay_h0 (by omega) | exact lay_h1 (by omega)) (by first | decide | omega) (by first | assumption | exact CL0_0 (by assumption) | exact CL0_1 (by assumption) | exact CL0_3 (by assumption) | exact CL0_4 (by assumption) | exact CL0_5 (by assumption) | exact CL0_6 (by assumption) | exact CL0_7 (by assumption) | exact CL0_8 (by assumption) | exact CL0_9 (by assumption) | exact CL0_10 (by assumption) | exact CL0_11 (by assumption) | exact CL0_12 (by assumption) | exact CL0_13 (by assumption) | exact CL1_2 (by assumption) | exact CL1_3 (by assumption) | exact CL80_2 (by assumption) | exact CL_slot (by assumption) (by omega) | exact (CL_sh (by assumption) (by omega)).1 | exact (CL_sh (by assumption) (by omega)).2.1 | rfl) ?_
        refine V_getR dX9_bare_27 fX9_99 (by first | assumption | rfl | exact lay_s0 (by omega) | exact lay_s1 (by omega) | exact lay_s2 (by omega) | exact lay_h0 (by omega) | exact lay_h1 (by omega)) (by first | decide | omega) (by first | assumption | exact CL0_0 (by assumption) | exact CL0_1 (by assumption) | exact CL0_3 (by assumption) | exact CL0_4 (by assumption) | exact CL0_5 (by assumption) | exact CL0_6 (by assumption) | exact CL0_7 (by assumption) | exact CL0_8 (by assumption) | exact CL0_9 (by assumption) | exact CL0_10 (by assumption) | exact CL0_11 (by assumption) | exact CL0_12 (by assumption) | exact CL0_13 (by assumption) | exact CL1_2 (by assumption) | exact CL1_3 (by assumption) | exact CL80_2 (by assumption) | exact CL_slot (by assumption) (by omega) | exact (CL_sh (by assumption) (by omega)).1 | exact (CL_sh (by assumption) (by omega)).2.1 | rfl) ?_
        refine V_iloadn1 dX9_bare_30 ?_
        refine U_aald dX9_bare_31 (by with_reducible rfl) (by first | assumption | rfl | exact lay_s0 (by omega) | exact lay_s1 (by omega) | exact lay_s2 (by omega) | exact lay_h0 (by omega) | exact lay_h1 (by omega)) (by decide) (by first | decide | omega) (by omega) (by first | assumption | exact CL0_0 (by assumption) | exact CL0_1 (by assumption) | exact CL0_3 (by assumption) | exact CL0_4 (by assumption) | exact CL0_5 (by assumption) | exact CL0_6 (by assumption) | exact CL0_7 (by assumption) | exact CL0_8 (by assumption) | exact CL0_9 (by assumption) | exact CL0_10 (by assumption) | exact CL0_11 (by assumption) | exact CL0_12 (by assumption) | exact CL0_13 (by assumption) | exact CL1_2 (by assumption) | exact CL1_3 (by assumption) | exact CL80_2 (by assumption) | exact CL_slot (by assumption) (by omega) | exact (CL_sh (by assumption) (by omega)).1 | exact (CL_sh (by assumption) (by omega)).2.1 | rfl) ?_
        refine V_callV0 (μ' := mX8_becomeNothing) dX9_bare_32 okX8_becomeNothing lX9_133 rfl (by first | assumption | rfl | exact lay_s0 (by omega) | exact lay_s1 (by omega) | exact lay_s2 (by omega) | exact lay_h0 (by omega) | exact lay_h1 (by omega)) (by first | decide | omega) (Nat.le_of_ble_eq_true rfl) (Nat.le_of_ble_eq_true rfl) (by omega) ?_
        refine c_becomeNothing (CL_T hC hs) ?_
        dsimp only [gPush]
        refine V_iloadn2 dX9_bare_35 ?_
        refine V_iret dX9_bare_36 rfl rfl ?_
        exact fin
    · skip
      cases c4
set_option maxRecDepth 100000 in
set_option maxHeartbeats 4000000 in
theorem c_of {x y : Int32} (hd : 2 ≤ d) (hR : RC h S) (hQ : ∀ h', RC h' S → FrC h h' → Q (some (.int (g_of S x y))) h') : V Γ mX9_of d 124 124 h 0 [some (.ref 0), some (.int x), some (.int y), none] [] Q := by
  obtain ⟨hC, hW, hA, hK, hK2, hB, hSh, hFm⟩ := id hR
  have n0 := hA.1
  have hn2 := hW.1.1
  have hn5 := hW.1.2.1
  have bad : (inB x 6 && inR y 0 4) = false → Q (some (.int (-1))) h := fun e => by
    have e2 : g_of S x y = -1 := if_f e
    rw [e2] at hQ; exact hQ h hR FrC.rf
  by_cases hg : (inB x 6 && inR y 0 4) = true
  · have hg2 := hg
    rw [Bool.and_eq_true] at hg2
    obtain ⟨s, hs, rfl⟩ := inB_t (by decide) hg2.1
    obtain ⟨k, k0, k4, rfl⟩ := inR_t (by decide) (by decide) hg2.2
    obtain ⟨hT, hWT⟩ := RC_slot hR hs
    obtain ⟨t0, t1, t3, -⟩ := id hT
    have hQ' := hQ h hR FrC.rf
    unfold g_of tS at hQ'
    rw [if_t hg, cN_nI (by omega)] at hQ'
    by_cases hz : (S.1.2.2.1 s).1 = 0
    · rw [if_pos hz] at hQ'
      refine V_iloadn1 dX9_of_0 ?_
      refine V_callS1 (μ' := mX9_isSlot) dX9_of_1 okX9_isSlot lX9_91 (Nat.le_of_ble_eq_true rfl) (Nat.le_of_ble_eq_true rfl) (by omega) ?_
      refine c_isSlot ?_
      rw [hg2.1]
      dsimp only [gPush]
      first | refine U_ifB_eq (tgt := 16) dX9_of_4 (by decide) (by with_reducible rfl) (fun c4 => ?_) (fun c4 => ?_) | refine U_if_eq (tgt := 16) dX9_of_4 (by decide) (by with_reducible rfl) (by omega) (fun c4 => ?_) (fun c4 => ?_) | refine V_if_eq (tgt := 16) dX9_of_4 (by decide) (fun c4 => ?_) (fun c4 => ?_)
      · skip
        cases c4
      · skip
        refine V_iloadn2 dX9_of_7 ?_
        refine V_if_lt (tgt := 16) dX9_of_8 (by decide) (fun c8 => ?_) (fun c8 => ?_)
        · skip
          exact absurd c8 (nI_pos (by omega))
        · skip
          refine V_iloadn2 dX9_of_11 ?_
          refine V_iconst (v := nI 4) dX9_of_12 (by decide) ?_
          first | refine U_icmp_le (tgt := 18) dX9_of_13 (by decide) (by with_reducible rfl) (by with_reducible rfl) (by omega) (by omega) (fun c13 => ?_) (fun c13 => ?_) | refine V_icmp_le (tgt := 18) dX9_of_13 (by decide) (fun c13 => ?_) (fun c13 => ?_)
          · skip
            refine V_aloadn0 dX9_of_18 ?_
            refine V_iloadn1 dX9_of_19 ?_
            refine V_callV1 (μ' := mX9_isHeld) dX9_of_20 okX9_isHeld lX9_130 rfl (by first | assumption | rfl | exact lay_s0 (by omega) | exact lay_s1 (by omega) | exact lay_s2 (by omega) | exact lay_h0 (by omega) | exact lay_h1 (by omega)) (by first | decide | omega) (Nat.le_of_ble_eq_true rfl) (Nat.le_of_ble_eq_true rfl) (by omega) ?_
            refine c_isHeld hs (CL0_0 hC) (CL1_2 hC) (CL_slot hC hs) (lay_s0 hs) hT.1 hWT.1 ?_
            dsimp only [gPush]
            first | refine U_ifB_ne (tgt := 29) dX9_of_23 (by decide) (by with_reducible rfl) (fun c23 => ?_) (fun c23 => ?_) | refine U_if_ne (tgt := 29) dX9_of_23 (by decide) (by with_reducible rfl) (by omega) (fun c23 => ?_) (fun c23 => ?_) | refine V_if_ne (tgt := 29) dX9_of_23 (by decide) (fun c23 => ?_) (fun c23 => ?_)
            · skip
              exact absurd (of_decide_eq_true c23) (fun q => q hz)
            · skip
              refine V_bipush (v := -11) dX9_of_26 (by decide) ?_
              refine V_iret dX9_of_28 rfl rfl ?_
              exact hQ'
          · skip
            omega
    · rw [if_neg hz] at hQ'
      have kd1 := hWT.1
      by_cases hk0 : k = 0
      · subst hk0
        rw [if_pos rfl] at hQ'
        refine V_iloadn1 dX9_of_0 ?_
        refine V_callS1 (μ' := mX9_isSlot) dX9_of_1 okX9_isSlot lX9_91 (Nat.le_of_ble_eq_true rfl) (Nat.le_of_ble_eq_true rfl) (by omega) ?_
        refine c_isSlot ?_
        rw [hg2.1]
        dsimp only [gPush]
        first | refine U_ifB_eq (tgt := 16) dX9_of_4 (by decide) (by with_reducible rfl) (fun c4 => ?_) (fun c4 => ?_) | refine U_if_eq (tgt := 16) dX9_of_4 (by decide) (by with_reducible rfl) (by omega) (fun c4 => ?_) (fun c4 => ?_) | refine V_if_eq (tgt := 16) dX9_of_4 (by decide) (fun c4 => ?_) (fun c4 => ?_)
        · skip
          cases c4
        · skip
          refine V_iloadn2 dX9_of_7 ?_
          refine V_if_lt (tgt := 16) dX9_of_8 (by decide) (fun c8 => ?_) (fun c8 => ?_)
          · skip
            exact absurd c8 (by decide)
          · skip
            refine V_iloadn2 dX9_of_11 ?_
            refine V_iconst (v := nI 4) dX9_of_12 (by decide) ?_
            first | refine U_icmp_le (tgt := 18) dX9_of_13 (by decide) (by with_reducible rfl) (by with_reducible rfl) (by omega) (by omega) (fun c13 => ?_) (fun c13 => ?_) | refine V_icmp_le (tgt := 18) dX9_of_13 (by decide) (fun c13 => ?_) (fun c13 => ?_)
            · skip
              refine V_aloadn0 dX9_of_18 ?_
              refine V_iloadn1 dX9_of_19 ?_
              refine V_callV1 (μ' := mX9_isHeld) dX9_of_20 okX9_isHeld lX9_130 rfl (by first | assumption | rfl | exact lay_s0 (by omega) | exact lay_s1 (by omega) | exact lay_s2 (by omega) | exact lay_h0 (by omega) | exact lay_h1 (by omega)) (by first | decide | omega) (Nat.le_of_ble_eq_true rfl) (Nat.le_of_ble_eq_true rfl) (by omega) ?_
              refine c_isHeld hs (CL0_0 hC) (CL1_2 hC) (CL_slot hC hs) (lay_s0 hs) hT.1 hWT.1 ?_
              dsimp only [gPush]
              first | refine U_ifB_ne (tgt := 29) dX9_of_23 (by decide) (by with_reducible rfl) (fun c23 => ?_) (fun c23 => ?_) | refine U_if_ne (tgt := 29) dX9_of_23 (by decide) (by with_reducible rfl) (by omega) (fun c23 => ?_) (fun c23 => ?_) | refine V_if_ne (tgt := 29) dX9_of_23 (by decide) (fun c23 => ?_) (fun c23 => ?_)
              · skip
                refine V_aloadn0 dX9_of_29 ?_
                refine V_getR dX9_of_30 fX9_10 (by first | assumption | rfl | exact lay_s0 (by omega) | exact lay_s1 (by omega) | exact lay_s2 (by omega) | exact lay_h0 (by omega) | exact lay_h1 (by omega)) (by first | decide | omega) (by first | assumption | exact CL0_0 (by assumption) | exact CL0_1 (by assumption) | exact CL0_3 (by assumption) | exact CL0_4 (by assumption) | exact CL0_5 (by assumption) | exact CL0_6 (by assumption) | exact CL0_7 (by assumption) | exact CL0_8 (by assumption) | exact CL0_9 (by assumption) | exact CL0_10 (by assumption) | exact CL0_11 (by assumption) | exact CL0_12 (by assumption) | exact CL0_13 (by assumption) | exact CL1_2 (by assumption) | exact CL1_3 (by assumption) | exact CL80_2 (by assumption) | exact CL_slot (by assumption) (by omega) | exact (CL_sh (by assumption) (by omega)).1 | exact (CL_sh (by assumption) (by omega)).2.1 | rfl) ?_
                refine V_getR dX9_of_33 fX9_99 (by first | assumption | rfl | exact lay_s0 (by omega) | exact lay_s1 (by omega) | exact lay_s2 (by omega) | exact lay_h0 (by omega) | exact lay_h1 (by omega)) (by first | decide | omega) (by first | assumption | exact CL0_0 (by assumption) | exact CL0_1 (by assumption) | exact CL0_3 (by assumption) | exact CL0_4 (by assumption) | exact CL0_5 (by assumption) | exact CL0_6 (by assumption) | exact CL0_7 (by assumption) | exact CL0_8 (by assumption) | exact CL0_9 (by assumption) | exact CL0_10 (by assumption) | exact CL0_11 (by assumption) | exact CL0_12 (by assumption) | exact CL0_13 (by assumption) | exact CL1_2 (by assumption) | exact CL1_3 (by assumption) | exact CL80_2 (by assumption) | exact CL_slot (by assumption) (by omega) | exact (CL_sh (by assumption) (by omega)).1 | exact (CL_sh (by assumption) (by omega)).2.1 | rfl) ?_
                refine V_iloadn1 dX9_of_36 ?_
                refine U_aald dX9_of_37 (by with_reducible rfl) (by first | assumption | rfl | exact lay_s0 (by omega) | exact lay_s1 (by omega) | exact lay_s2 (by omega) | exact lay_h0 (by omega) | exact lay_h1 (by omega)) (by decide) (by first | decide | omega) (by omega) (by first | assumption | exact CL0_0 (by assumption) | exact CL0_1 (by assumption) | exact CL0_3 (by assumption) | exact CL0_4 (by assumption) | exact CL0_5 (by assumption) | exact CL0_6 (by assumption) | exact CL0_7 (by assumption) | exact CL0_8 (by assumption) | exact CL0_9 (by assumption) | exact CL0_10 (by assumption) | exact CL0_11 (by assumption) | exact CL0_12 (by assumption) | exact CL0_13 (by assumption) | exact CL1_2 (by assumption) | exact CL1_3 (by assumption) | exact CL80_2 (by assumption) | exact CL_slot (by assumption) (by omega) | exact (CL_sh (by assumption) (by omega)).1 | exact (CL_sh (by assumption) (by omega)).2.1 | rfl) ?_
                refine V_astoren3 dX9_of_38 (by decide) rfl ?_
                refine V_iloadn2 dX9_of_39 ?_
                refine V_tableIn (tgt := 72) dX9_of_40 (by decide) (by decide) rfl (by decide) ?_
                refine V_aloadn3 dX9_of_72 ?_
                refine V_getI dX9_of_73 fX9_136 (Or.inl rfl) (by first | assumption | rfl | exact lay_s0 (by omega) | exact lay_s1 (by omega) | exact lay_s2 (by omega) | exact lay_h0 (by omega) | exact lay_h1 (by omega)) (by first | decide | omega) (by first | assumption | exact CL0_0 (by assumption) | exact CL0_1 (by assumption) | exact CL0_3 (by assumption) | exact CL0_4 (by assumption) | exact CL0_5 (by assumption) | exact CL0_6 (by assumption) | exact CL0_7 (by assumption) | exact CL0_8 (by assumption) | exact CL0_9 (by assumption) | exact CL0_10 (by assumption) | exact CL0_11 (by assumption) | exact CL0_12 (by assumption) | exact CL0_13 (by assumption) | exact CL1_2 (by assumption) | exact CL1_3 (by assumption) | exact CL80_2 (by assumption) | exact CL_slot (by assumption) (by omega) | exact (CL_sh (by assumption) (by omega)).1 | exact (CL_sh (by assumption) (by omega)).2.1 | rfl) ?_
                refine V_iconst (v := nI 2) dX9_of_76 (by decide) ?_
                first | refine U_icmp_ne (tgt := 84) dX9_of_77 (by decide) (by with_reducible rfl) (by with_reducible rfl) (by omega) (by omega) (fun c77 => ?_) (fun c77 => ?_) | refine V_icmp_ne (tgt := 84) dX9_of_77 (by decide) (fun c77 => ?_) (fun c77 => ?_)
                · skip
                  rw [if_neg c77] at hQ'
                  refine V_iconst (v := nI 0) dX9_of_84 (by decide) ?_
                  refine V_iret dX9_of_85 rfl rfl ?_
                  exact hQ'
                · skip
                  rw [if_pos c77] at hQ'
                  refine V_iconst (v := nI 1) dX9_of_80 (by decide) ?_
                  refine V_goto (tgt := 85) dX9_of_81 (by decide) ?_
                  refine V_iret dX9_of_85 rfl rfl ?_
                  exact hQ'
              · skip
                exact absurd (of_decide_eq_false c23) (fun q => q hz)
            · skip
              omega
      by_cases hk1 : k = 1
      · subst hk1
        rw [if_neg (by decide), if_pos rfl] at hQ'
        refine V_iloadn1 dX9_of_0 ?_
        refine V_callS1 (μ' := mX9_isSlot) dX9_of_1 okX9_isSlot lX9_91 (Nat.le_of_ble_eq_true rfl) (Nat.le_of_ble_eq_true rfl) (by omega) ?_
        refine c_isSlot ?_
        rw [hg2.1]
        dsimp only [gPush]
        first | refine U_ifB_eq (tgt := 16) dX9_of_4 (by decide) (by with_reducible rfl) (fun c4 => ?_) (fun c4 => ?_) | refine U_if_eq (tgt := 16) dX9_of_4 (by decide) (by with_reducible rfl) (by omega) (fun c4 => ?_) (fun c4 => ?_) | refine V_if_eq (tgt := 16) dX9_of_4 (by decide) (fun c4 => ?_) (fun c4 => ?_)
        · skip
          cases c4
        · skip
          refine V_iloadn2 dX9_of_7 ?_
          refine V_if_lt (tgt := 16) dX9_of_8 (by decide) (fun c8 => ?_) (fun c8 => ?_)
          · skip
            exact absurd c8 (by decide)
          · skip
            refine V_iloadn2 dX9_of_11 ?_
            refine V_iconst (v := nI 4) dX9_of_12 (by decide) ?_
            first | refine U_icmp_le (tgt := 18) dX9_of_13 (by decide) (by with_reducible rfl) (by with_reducible rfl) (by omega) (by omega) (fun c13 => ?_) (fun c13 => ?_) | refine V_icmp_le (tgt := 18) dX9_of_13 (by decide) (fun c13 => ?_) (fun c13 => ?_)
            · skip
              refine V_aloadn0 dX9_of_18 ?_
              refine V_iloadn1 dX9_of_19 ?_
              refine V_callV1 (μ' := mX9_isHeld) dX9_of_20 okX9_isHeld lX9_130 rfl (by first | assumption | rfl | exact lay_s0 (by omega) | exact lay_s1 (by omega) | exact lay_s2 (by omega) | exact lay_h0 (by omega) | exact lay_h1 (by omega)) (by first | decide | omega) (Nat.le_of_ble_eq_true rfl) (Nat.le_of_ble_eq_true rfl) (by omega) ?_
              refine c_isHeld hs (CL0_0 hC) (CL1_2 hC) (CL_slot hC hs) (lay_s0 hs) hT.1 hWT.1 ?_
              dsimp only [gPush]
              first | refine U_ifB_ne (tgt := 29) dX9_of_23 (by decide) (by with_reducible rfl) (fun c23 => ?_) (fun c23 => ?_) | refine U_if_ne (tgt := 29) dX9_of_23 (by decide) (by with_reducible rfl) (by omega) (fun c23 => ?_) (fun c23 => ?_) | refine V_if_ne (tgt := 29) dX9_of_23 (by decide) (fun c23 => ?_) (fun c23 => ?_)
              · skip
                refine V_aloadn0 dX9_of_29 ?_
                refine V_getR dX9_of_30 fX9_10 (by first | assumption | rfl | exact lay_s0 (by omega) | exact lay_s1 (by omega) | exact lay_s2 (by omega) | exact lay_h0 (by omega) | exact lay_h1 (by omega)) (by first | decide | omega) (by first | assumption | exact CL0_0 (by assumption) | exact CL0_1 (by assumption) | exact CL0_3 (by assumption) | exact CL0_4 (by assumption) | exact CL0_5 (by assumption) | exact CL0_6 (by assumption) | exact CL0_7 (by assumption) | exact CL0_8 (by assumption) | exact CL0_9 (by assumption) | exact CL0_10 (by assumption) | exact CL0_11 (by assumption) | exact CL0_12 (by assumption) | exact CL0_13 (by assumption) | exact CL1_2 (by assumption) | exact CL1_3 (by assumption) | exact CL80_2 (by assumption) | exact CL_slot (by assumption) (by omega) | exact (CL_sh (by assumption) (by omega)).1 | exact (CL_sh (by assumption) (by omega)).2.1 | rfl) ?_
                refine V_getR dX9_of_33 fX9_99 (by first | assumption | rfl | exact lay_s0 (by omega) | exact lay_s1 (by omega) | exact lay_s2 (by omega) | exact lay_h0 (by omega) | exact lay_h1 (by omega)) (by first | decide | omega) (by first | assumption | exact CL0_0 (by assumption) | exact CL0_1 (by assumption) | exact CL0_3 (by assumption) | exact CL0_4 (by assumption) | exact CL0_5 (by assumption) | exact CL0_6 (by assumption) | exact CL0_7 (by assumption) | exact CL0_8 (by assumption) | exact CL0_9 (by assumption) | exact CL0_10 (by assumption) | exact CL0_11 (by assumption) | exact CL0_12 (by assumption) | exact CL0_13 (by assumption) | exact CL1_2 (by assumption) | exact CL1_3 (by assumption) | exact CL80_2 (by assumption) | exact CL_slot (by assumption) (by omega) | exact (CL_sh (by assumption) (by omega)).1 | exact (CL_sh (by assumption) (by omega)).2.1 | rfl) ?_
                refine V_iloadn1 dX9_of_36 ?_
                refine U_aald dX9_of_37 (by with_reducible rfl) (by first | assumption | rfl | exact lay_s0 (by omega) | exact lay_s1 (by omega) | exact lay_s2 (by omega) | exact lay_h0 (by omega) | exact lay_h1 (by omega)) (by decide) (by first | decide | omega) (by omega) (by first | assumption | exact CL0_0 (by assumption) | exact CL0_1 (by assumption) | exact CL0_3 (by assumption) | exact CL0_4 (by assumption) | exact CL0_5 (by assumption) | exact CL0_6 (by assumption) | exact CL0_7 (by assumption) | exact CL0_8 (by assumption) | exact CL0_9 (by assumption) | exact CL0_10 (by assumption) | exact CL0_11 (by assumption) | exact CL0_12 (by assumption) | exact CL0_13 (by assumption) | exact CL1_2 (by assumption) | exact CL1_3 (by assumption) | exact CL80_2 (by assumption) | exact CL_slot (by assumption) (by omega) | exact (CL_sh (by assumption) (by omega)).1 | exact (CL_sh (by assumption) (by omega)).2.1 | rfl) ?_
                refine V_astoren3 dX9_of_38 (by decide) rfl ?_
                refine V_iloadn2 dX9_of_39 ?_
                refine V_tableIn (tgt := 86) dX9_of_40 (by decide) (by decide) rfl (by decide) ?_
                refine V_aloadn3 dX9_of_86 ?_
                refine V_getI dX9_of_87 fX9_107 (Or.inl rfl) (by first | assumption | rfl | exact lay_s0 (by omega) | exact lay_s1 (by omega) | exact lay_s2 (by omega) | exact lay_h0 (by omega) | exact lay_h1 (by omega)) (by first | decide | omega) (by first | assumption | exact CL0_0 (by assumption) | exact CL0_1 (by assumption) | exact CL0_3 (by assumption) | exact CL0_4 (by assumption) | exact CL0_5 (by assumption) | exact CL0_6 (by assumption) | exact CL0_7 (by assumption) | exact CL0_8 (by assumption) | exact CL0_9 (by assumption) | exact CL0_10 (by assumption) | exact CL0_11 (by assumption) | exact CL0_12 (by assumption) | exact CL0_13 (by assumption) | exact CL1_2 (by assumption) | exact CL1_3 (by assumption) | exact CL80_2 (by assumption) | exact CL_slot (by assumption) (by omega) | exact (CL_sh (by assumption) (by omega)).1 | exact (CL_sh (by assumption) (by omega)).2.1 | rfl) ?_
                refine V_iret dX9_of_90 rfl rfl ?_
                exact hQ'
              · skip
                exact absurd (of_decide_eq_false c23) (fun q => q hz)
            · skip
              omega
      by_cases hk2 : k = 2
      · subst hk2
        rw [if_neg (by decide), if_neg (by decide), if_pos rfl] at hQ'
        refine V_iloadn1 dX9_of_0 ?_
        refine V_callS1 (μ' := mX9_isSlot) dX9_of_1 okX9_isSlot lX9_91 (Nat.le_of_ble_eq_true rfl) (Nat.le_of_ble_eq_true rfl) (by omega) ?_
        refine c_isSlot ?_
        rw [hg2.1]
        dsimp only [gPush]
        first | refine U_ifB_eq (tgt := 16) dX9_of_4 (by decide) (by with_reducible rfl) (fun c4 => ?_) (fun c4 => ?_) | refine U_if_eq (tgt := 16) dX9_of_4 (by decide) (by with_reducible rfl) (by omega) (fun c4 => ?_) (fun c4 => ?_) | refine V_if_eq (tgt := 16) dX9_of_4 (by decide) (fun c4 => ?_) (fun c4 => ?_)
        · skip
          cases c4
        · skip
          refine V_iloadn2 dX9_of_7 ?_
          refine V_if_lt (tgt := 16) dX9_of_8 (by decide) (fun c8 => ?_) (fun c8 => ?_)
          · skip
            exact absurd c8 (by decide)
          · skip
            refine V_iloadn2 dX9_of_11 ?_
            refine V_iconst (v := nI 4) dX9_of_12 (by decide) ?_
            first | refine U_icmp_le (tgt := 18) dX9_of_13 (by decide) (by with_reducible rfl) (by with_reducible rfl) (by omega) (by omega) (fun c13 => ?_) (fun c13 => ?_) | refine V_icmp_le (tgt := 18) dX9_of_13 (by decide) (fun c13 => ?_) (fun c13 => ?_)
            · skip
              refine V_aloadn0 dX9_of_18 ?_
              refine V_iloadn1 dX9_of_19 ?_
              refine V_callV1 (μ' := mX9_isHeld) dX9_of_20 okX9_isHeld lX9_130 rfl (by first | assumption | rfl | exact lay_s0 (by omega) | exact lay_s1 (by omega) | exact lay_s2 (by omega) | exact lay_h0 (by omega) | exact lay_h1 (by omega)) (by first | decide | omega) (Nat.le_of_ble_eq_true rfl) (Nat.le_of_ble_eq_true rfl) (by omega) ?_
              refine c_isHeld hs (CL0_0 hC) (CL1_2 hC) (CL_slot hC hs) (lay_s0 hs) hT.1 hWT.1 ?_
              dsimp only [gPush]
              first | refine U_ifB_ne (tgt := 29) dX9_of_23 (by decide) (by with_reducible rfl) (fun c23 => ?_) (fun c23 => ?_) | refine U_if_ne (tgt := 29) dX9_of_23 (by decide) (by with_reducible rfl) (by omega) (fun c23 => ?_) (fun c23 => ?_) | refine V_if_ne (tgt := 29) dX9_of_23 (by decide) (fun c23 => ?_) (fun c23 => ?_)
              · skip
                refine V_aloadn0 dX9_of_29 ?_
                refine V_getR dX9_of_30 fX9_10 (by first | assumption | rfl | exact lay_s0 (by omega) | exact lay_s1 (by omega) | exact lay_s2 (by omega) | exact lay_h0 (by omega) | exact lay_h1 (by omega)) (by first | decide | omega) (by first | assumption | exact CL0_0 (by assumption) | exact CL0_1 (by assumption) | exact CL0_3 (by assumption) | exact CL0_4 (by assumption) | exact CL0_5 (by assumption) | exact CL0_6 (by assumption) | exact CL0_7 (by assumption) | exact CL0_8 (by assumption) | exact CL0_9 (by assumption) | exact CL0_10 (by assumption) | exact CL0_11 (by assumption) | exact CL0_12 (by assumption) | exact CL0_13 (by assumption) | exact CL1_2 (by assumption) | exact CL1_3 (by assumption) | exact CL80_2 (by assumption) | exact CL_slot (by assumption) (by omega) | exact (CL_sh (by assumption) (by omega)).1 | exact (CL_sh (by assumption) (by omega)).2.1 | rfl) ?_
                refine V_getR dX9_of_33 fX9_99 (by first | assumption | rfl | exact lay_s0 (by omega) | exact lay_s1 (by omega) | exact lay_s2 (by omega) | exact lay_h0 (by omega) | exact lay_h1 (by omega)) (by first | decide | omega) (by first | assumption | exact CL0_0 (by assumption) | exact CL0_1 (by assumption) | exact CL0_3 (by assumption) | exact CL0_4 (by assumption) | exact CL0_5 (by assumption) | exact CL0_6 (by assumption) | exact CL0_7 (by assumption) | exact CL0_8 (by assumption) | exact CL0_9 (by assumption) | exact CL0_10 (by assumption) | exact CL0_11 (by assumption) | exact CL0_12 (by assumption) | exact CL0_13 (by assumption) | exact CL1_2 (by assumption) | exact CL1_3 (by assumption) | exact CL80_2 (by assumption) | exact CL_slot (by assumption) (by omega) | exact (CL_sh (by assumption) (by omega)).1 | exact (CL_sh (by assumption) (by omega)).2.1 | rfl) ?_
                refine V_iloadn1 dX9_of_36 ?_
                refine U_aald dX9_of_37 (by with_reducible rfl) (by first | assumption | rfl | exact lay_s0 (by omega) | exact lay_s1 (by omega) | exact lay_s2 (by omega) | exact lay_h0 (by omega) | exact lay_h1 (by omega)) (by decide) (by first | decide | omega) (by omega) (by first | assumption | exact CL0_0 (by assumption) | exact CL0_1 (by assumption) | exact CL0_3 (by assumption) | exact CL0_4 (by assumption) | exact CL0_5 (by assumption) | exact CL0_6 (by assumption) | exact CL0_7 (by assumption) | exact CL0_8 (by assumption) | exact CL0_9 (by assumption) | exact CL0_10 (by assumption) | exact CL0_11 (by assumption) | exact CL0_12 (by assumption) | exact CL0_13 (by assumption) | exact CL1_2 (by assumption) | exact CL1_3 (by assumption) | exact CL80_2 (by assumption) | exact CL_slot (by assumption) (by omega) | exact (CL_sh (by assumption) (by omega)).1 | exact (CL_sh (by assumption) (by omega)).2.1 | rfl) ?_
                refine V_astoren3 dX9_of_38 (by decide) rfl ?_
                refine V_iloadn2 dX9_of_39 ?_
                refine V_tableIn (tgt := 91) dX9_of_40 (by decide) (by decide) rfl (by decide) ?_
                refine V_aloadn3 dX9_of_91 ?_
                refine V_callV0 (μ' := mX8_number) dX9_of_92 okX8_number lX9_139 rfl (by first | assumption | rfl | exact lay_s0 (by omega) | exact lay_s1 (by omega) | exact lay_s2 (by omega) | exact lay_h0 (by omega) | exact lay_h1 (by omega)) (by first | decide | omega) (Nat.le_of_ble_eq_true rfl) (Nat.le_of_ble_eq_true rfl) (by omega) ?_
                refine c_number (by omega) (CL_T hC hs) hT ?_
                dsimp only [gPush]
                refine V_iret dX9_of_95 rfl rfl ?_
                exact hQ'
              · skip
                exact absurd (of_decide_eq_false c23) (fun q => q hz)
            · skip
              omega
      by_cases hk3 : k = 3
      · subst hk3
        rw [if_neg (by decide), if_neg (by decide), if_neg (by decide), if_pos rfl] at hQ'
        refine V_iloadn1 dX9_of_0 ?_
        refine V_callS1 (μ' := mX9_isSlot) dX9_of_1 okX9_isSlot lX9_91 (Nat.le_of_ble_eq_true rfl) (Nat.le_of_ble_eq_true rfl) (by omega) ?_
        refine c_isSlot ?_
        rw [hg2.1]
        dsimp only [gPush]
        first | refine U_ifB_eq (tgt := 16) dX9_of_4 (by decide) (by with_reducible rfl) (fun c4 => ?_) (fun c4 => ?_) | refine U_if_eq (tgt := 16) dX9_of_4 (by decide) (by with_reducible rfl) (by omega) (fun c4 => ?_) (fun c4 => ?_) | refine V_if_eq (tgt := 16) dX9_of_4 (by decide) (fun c4 => ?_) (fun c4 => ?_)
        · skip
          cases c4
        · skip
          refine V_iloadn2 dX9_of_7 ?_
          refine V_if_lt (tgt := 16) dX9_of_8 (by decide) (fun c8 => ?_) (fun c8 => ?_)
          · skip
            exact absurd c8 (by decide)
          · skip
            refine V_iloadn2 dX9_of_11 ?_
            refine V_iconst (v := nI 4) dX9_of_12 (by decide) ?_
            first | refine U_icmp_le (tgt := 18) dX9_of_13 (by decide) (by with_reducible rfl) (by with_reducible rfl) (by omega) (by omega) (fun c13 => ?_) (fun c13 => ?_) | refine V_icmp_le (tgt := 18) dX9_of_13 (by decide) (fun c13 => ?_) (fun c13 => ?_)
            · skip
              refine V_aloadn0 dX9_of_18 ?_
              refine V_iloadn1 dX9_of_19 ?_
              refine V_callV1 (μ' := mX9_isHeld) dX9_of_20 okX9_isHeld lX9_130 rfl (by first | assumption | rfl | exact lay_s0 (by omega) | exact lay_s1 (by omega) | exact lay_s2 (by omega) | exact lay_h0 (by omega) | exact lay_h1 (by omega)) (by first | decide | omega) (Nat.le_of_ble_eq_true rfl) (Nat.le_of_ble_eq_true rfl) (by omega) ?_
              refine c_isHeld hs (CL0_0 hC) (CL1_2 hC) (CL_slot hC hs) (lay_s0 hs) hT.1 hWT.1 ?_
              dsimp only [gPush]
              first | refine U_ifB_ne (tgt := 29) dX9_of_23 (by decide) (by with_reducible rfl) (fun c23 => ?_) (fun c23 => ?_) | refine U_if_ne (tgt := 29) dX9_of_23 (by decide) (by with_reducible rfl) (by omega) (fun c23 => ?_) (fun c23 => ?_) | refine V_if_ne (tgt := 29) dX9_of_23 (by decide) (fun c23 => ?_) (fun c23 => ?_)
              · skip
                refine V_aloadn0 dX9_of_29 ?_
                refine V_getR dX9_of_30 fX9_10 (by first | assumption | rfl | exact lay_s0 (by omega) | exact lay_s1 (by omega) | exact lay_s2 (by omega) | exact lay_h0 (by omega) | exact lay_h1 (by omega)) (by first | decide | omega) (by first | assumption | exact CL0_0 (by assumption) | exact CL0_1 (by assumption) | exact CL0_3 (by assumption) | exact CL0_4 (by assumption) | exact CL0_5 (by assumption) | exact CL0_6 (by assumption) | exact CL0_7 (by assumption) | exact CL0_8 (by assumption) | exact CL0_9 (by assumption) | exact CL0_10 (by assumption) | exact CL0_11 (by assumption) | exact CL0_12 (by assumption) | exact CL0_13 (by assumption) | exact CL1_2 (by assumption) | exact CL1_3 (by assumption) | exact CL80_2 (by assumption) | exact CL_slot (by assumption) (by omega) | exact (CL_sh (by assumption) (by omega)).1 | exact (CL_sh (by assumption) (by omega)).2.1 | rfl) ?_
                refine V_getR dX9_of_33 fX9_99 (by first | assumption | rfl | exact lay_s0 (by omega) | exact lay_s1 (by omega) | exact lay_s2 (by omega) | exact lay_h0 (by omega) | exact lay_h1 (by omega)) (by first | decide | omega) (by first | assumption | exact CL0_0 (by assumption) | exact CL0_1 (by assumption) | exact CL0_3 (by assumption) | exact CL0_4 (by assumption) | exact CL0_5 (by assumption) | exact CL0_6 (by assumption) | exact CL0_7 (by assumption) | exact CL0_8 (by assumption) | exact CL0_9 (by assumption) | exact CL0_10 (by assumption) | exact CL0_11 (by assumption) | exact CL0_12 (by assumption) | exact CL0_13 (by assumption) | exact CL1_2 (by assumption) | exact CL1_3 (by assumption) | exact CL80_2 (by assumption) | exact CL_slot (by assumption) (by omega) | exact (CL_sh (by assumption) (by omega)).1 | exact (CL_sh (by assumption) (by omega)).2.1 | rfl) ?_
                refine V_iloadn1 dX9_of_36 ?_
                refine U_aald dX9_of_37 (by with_reducible rfl) (by first | assumption | rfl | exact lay_s0 (by omega) | exact lay_s1 (by omega) | exact lay_s2 (by omega) | exact lay_h0 (by omega) | exact lay_h1 (by omega)) (by decide) (by first | decide | omega) (by omega) (by first | assumption | exact CL0_0 (by assumption) | exact CL0_1 (by assumption) | exact CL0_3 (by assumption) | exact CL0_4 (by assumption) | exact CL0_5 (by assumption) | exact CL0_6 (by assumption) | exact CL0_7 (by assumption) | exact CL0_8 (by assumption) | exact CL0_9 (by assumption) | exact CL0_10 (by assumption) | exact CL0_11 (by assumption) | exact CL0_12 (by assumption) | exact CL0_13 (by assumption) | exact CL1_2 (by assumption) | exact CL1_3 (by assumption) | exact CL80_2 (by assumption) | exact CL_slot (by assumption) (by omega) | exact (CL_sh (by assumption) (by omega)).1 | exact (CL_sh (by assumption) (by omega)).2.1 | rfl) ?_
                refine V_astoren3 dX9_of_38 (by decide) rfl ?_
                refine V_iloadn2 dX9_of_39 ?_
                refine V_tableIn (tgt := 96) dX9_of_40 (by decide) (by decide) rfl (by decide) ?_
                refine V_aloadn3 dX9_of_96 ?_
                refine V_aloadn0 dX9_of_97 ?_
                refine V_getR dX9_of_98 fX9_10 (by first | assumption | rfl | exact lay_s0 (by omega) | exact lay_s1 (by omega) | exact lay_s2 (by omega) | exact lay_h0 (by omega) | exact lay_h1 (by omega)) (by first | decide | omega) (by first | assumption | exact CL0_0 (by assumption) | exact CL0_1 (by assumption) | exact CL0_3 (by assumption) | exact CL0_4 (by assumption) | exact CL0_5 (by assumption) | exact CL0_6 (by assumption) | exact CL0_7 (by assumption) | exact CL0_8 (by assumption) | exact CL0_9 (by assumption) | exact CL0_10 (by assumption) | exact CL0_11 (by assumption) | exact CL0_12 (by assumption) | exact CL0_13 (by assumption) | exact CL1_2 (by assumption) | exact CL1_3 (by assumption) | exact CL80_2 (by assumption) | exact CL_slot (by assumption) (by omega) | exact (CL_sh (by assumption) (by omega)).1 | exact (CL_sh (by assumption) (by omega)).2.1 | rfl) ?_
                refine V_getI dX9_of_101 fX9_84 (Or.inl rfl) (by first | assumption | rfl | exact lay_s0 (by omega) | exact lay_s1 (by omega) | exact lay_s2 (by omega) | exact lay_h0 (by omega) | exact lay_h1 (by omega)) (by first | decide | omega) (by first | assumption | exact CL0_0 (by assumption) | exact CL0_1 (by assumption) | exact CL0_3 (by assumption) | exact CL0_4 (by assumption) | exact CL0_5 (by assumption) | exact CL0_6 (by assumption) | exact CL0_7 (by assumption) | exact CL0_8 (by assumption) | exact CL0_9 (by assumption) | exact CL0_10 (by assumption) | exact CL0_11 (by assumption) | exact CL0_12 (by assumption) | exact CL0_13 (by assumption) | exact CL1_2 (by assumption) | exact CL1_3 (by assumption) | exact CL80_2 (by assumption) | exact CL_slot (by assumption) (by omega) | exact (CL_sh (by assumption) (by omega)).1 | exact (CL_sh (by assumption) (by omega)).2.1 | rfl) ?_
                refine V_callV1 (μ' := mX8_content) dX9_of_104 okX8_content lX9_143 rfl (by first | assumption | rfl | exact lay_s0 (by omega) | exact lay_s1 (by omega) | exact lay_s2 (by omega) | exact lay_h0 (by omega) | exact lay_h1 (by omega)) (by first | decide | omega) (Nat.le_of_ble_eq_true rfl) (Nat.le_of_ble_eq_true rfl) (by omega) ?_
                refine c_content hn5 (CL_T hC hs) hT ?_
                dsimp only [gPush]
                refine V_iret dX9_of_107 rfl rfl ?_
                exact hQ'
              · skip
                exact absurd (of_decide_eq_false c23) (fun q => q hz)
            · skip
              omega
      by_cases hk4 : k = 4
      · subst hk4
        rw [if_neg (by decide), if_neg (by decide), if_neg (by decide), if_neg (by decide)] at hQ'
        refine V_iloadn1 dX9_of_0 ?_
        refine V_callS1 (μ' := mX9_isSlot) dX9_of_1 okX9_isSlot lX9_91 (Nat.le_of_ble_eq_true rfl) (Nat.le_of_ble_eq_true rfl) (by omega) ?_
        refine c_isSlot ?_
        rw [hg2.1]
        dsimp only [gPush]
        first | refine U_ifB_eq (tgt := 16) dX9_of_4 (by decide) (by with_reducible rfl) (fun c4 => ?_) (fun c4 => ?_) | refine U_if_eq (tgt := 16) dX9_of_4 (by decide) (by with_reducible rfl) (by omega) (fun c4 => ?_) (fun c4 => ?_) | refine V_if_eq (tgt := 16) dX9_of_4 (by decide) (fun c4 => ?_) (fun c4 => ?_)
        · skip
          cases c4
        · skip
          refine V_iloadn2 dX9_of_7 ?_
          refine V_if_lt (tgt := 16) dX9_of_8 (by decide) (fun c8 => ?_) (fun c8 => ?_)
          · skip
            exact absurd c8 (by decide)
          · skip
            refine V_iloadn2 dX9_of_11 ?_
            refine V_iconst (v := nI 4) dX9_of_12 (by decide) ?_
            first | refine U_icmp_le (tgt := 18) dX9_of_13 (by decide) (by with_reducible rfl) (by with_reducible rfl) (by omega) (by omega) (fun c13 => ?_) (fun c13 => ?_) | refine V_icmp_le (tgt := 18) dX9_of_13 (by decide) (fun c13 => ?_) (fun c13 => ?_)
            · skip
              refine V_aloadn0 dX9_of_18 ?_
              refine V_iloadn1 dX9_of_19 ?_
              refine V_callV1 (μ' := mX9_isHeld) dX9_of_20 okX9_isHeld lX9_130 rfl (by first | assumption | rfl | exact lay_s0 (by omega) | exact lay_s1 (by omega) | exact lay_s2 (by omega) | exact lay_h0 (by omega) | exact lay_h1 (by omega)) (by first | decide | omega) (Nat.le_of_ble_eq_true rfl) (Nat.le_of_ble_eq_true rfl) (by omega) ?_
              refine c_isHeld hs (CL0_0 hC) (CL1_2 hC) (CL_slot hC hs) (lay_s0 hs) hT.1 hWT.1 ?_
              dsimp only [gPush]
              first | refine U_ifB_ne (tgt := 29) dX9_of_23 (by decide) (by with_reducible rfl) (fun c23 => ?_) (fun c23 => ?_) | refine U_if_ne (tgt := 29) dX9_of_23 (by decide) (by with_reducible rfl) (by omega) (fun c23 => ?_) (fun c23 => ?_) | refine V_if_ne (tgt := 29) dX9_of_23 (by decide) (fun c23 => ?_) (fun c23 => ?_)
              · skip
                refine V_aloadn0 dX9_of_29 ?_
                refine V_getR dX9_of_30 fX9_10 (by first | assumption | rfl | exact lay_s0 (by omega) | exact lay_s1 (by omega) | exact lay_s2 (by omega) | exact lay_h0 (by omega) | exact lay_h1 (by omega)) (by first | decide | omega) (by first | assumption | exact CL0_0 (by assumption) | exact CL0_1 (by assumption) | exact CL0_3 (by assumption) | exact CL0_4 (by assumption) | exact CL0_5 (by assumption) | exact CL0_6 (by assumption) | exact CL0_7 (by assumption) | exact CL0_8 (by assumption) | exact CL0_9 (by assumption) | exact CL0_10 (by assumption) | exact CL0_11 (by assumption) | exact CL0_12 (by assumption) | exact CL0_13 (by assumption) | exact CL1_2 (by assumption) | exact CL1_3 (by assumption) | exact CL80_2 (by assumption) | exact CL_slot (by assumption) (by omega) | exact (CL_sh (by assumption) (by omega)).1 | exact (CL_sh (by assumption) (by omega)).2.1 | rfl) ?_
                refine V_getR dX9_of_33 fX9_99 (by first | assumption | rfl | exact lay_s0 (by omega) | exact lay_s1 (by omega) | exact lay_s2 (by omega) | exact lay_h0 (by omega) | exact lay_h1 (by omega)) (by first | decide | omega) (by first | assumption | exact CL0_0 (by assumption) | exact CL0_1 (by assumption) | exact CL0_3 (by assumption) | exact CL0_4 (by assumption) | exact CL0_5 (by assumption) | exact CL0_6 (by assumption) | exact CL0_7 (by assumption) | exact CL0_8 (by assumption) | exact CL0_9 (by assumption) | exact CL0_10 (by assumption) | exact CL0_11 (by assumption) | exact CL0_12 (by assumption) | exact CL0_13 (by assumption) | exact CL1_2 (by assumption) | exact CL1_3 (by assumption) | exact CL80_2 (by assumption) | exact CL_slot (by assumption) (by omega) | exact (CL_sh (by assumption) (by omega)).1 | exact (CL_sh (by assumption) (by omega)).2.1 | rfl) ?_
                refine V_iloadn1 dX9_of_36 ?_
                refine U_aald dX9_of_37 (by with_reducible rfl) (by first | assumption | rfl | exact lay_s0 (by omega) | exact lay_s1 (by omega) | exact lay_s2 (by omega) | exact lay_h0 (by omega) | exact lay_h1 (by omega)) (by decide) (by first | decide | omega) (by omega) (by first | assumption | exact CL0_0 (by assumption) | exact CL0_1 (by assumption) | exact CL0_3 (by assumption) | exact CL0_4 (by assumption) | exact CL0_5 (by assumption) | exact CL0_6 (by assumption) | exact CL0_7 (by assumption) | exact CL0_8 (by assumption) | exact CL0_9 (by assumption) | exact CL0_10 (by assumption) | exact CL0_11 (by assumption) | exact CL0_12 (by assumption) | exact CL0_13 (by assumption) | exact CL1_2 (by assumption) | exact CL1_3 (by assumption) | exact CL80_2 (by assumption) | exact CL_slot (by assumption) (by omega) | exact (CL_sh (by assumption) (by omega)).1 | exact (CL_sh (by assumption) (by omega)).2.1 | rfl) ?_
                refine V_astoren3 dX9_of_38 (by decide) rfl ?_
                refine V_iloadn2 dX9_of_39 ?_
                refine V_tableOut (tgt := 108) dX9_of_40 (by first | assumption | decide) (by decide) ?_
                refine V_aloadn3 dX9_of_108 ?_
                refine V_getI dX9_of_109 fX9_147 (Or.inl rfl) (by first | assumption | rfl | exact lay_s0 (by omega) | exact lay_s1 (by omega) | exact lay_s2 (by omega) | exact lay_h0 (by omega) | exact lay_h1 (by omega)) (by first | decide | omega) (by first | assumption | exact CL0_0 (by assumption) | exact CL0_1 (by assumption) | exact CL0_3 (by assumption) | exact CL0_4 (by assumption) | exact CL0_5 (by assumption) | exact CL0_6 (by assumption) | exact CL0_7 (by assumption) | exact CL0_8 (by assumption) | exact CL0_9 (by assumption) | exact CL0_10 (by assumption) | exact CL0_11 (by assumption) | exact CL0_12 (by assumption) | exact CL0_13 (by assumption) | exact CL1_2 (by assumption) | exact CL1_3 (by assumption) | exact CL80_2 (by assumption) | exact CL_slot (by assumption) (by omega) | exact (CL_sh (by assumption) (by omega)).1 | exact (CL_sh (by assumption) (by omega)).2.1 | rfl) ?_
                refine V_iret dX9_of_112 rfl rfl ?_
                exact hQ'
              · skip
                exact absurd (of_decide_eq_false c23) (fun q => q hz)
            · skip
              omega
      omega
  · have hQ9 := bad (by simpa using hg)
    refine V_iloadn1 dX9_of_0 ?_
    refine V_callS1 (μ' := mX9_isSlot) dX9_of_1 okX9_isSlot lX9_91 (Nat.le_of_ble_eq_true rfl) (Nat.le_of_ble_eq_true rfl) (by omega) ?_
    refine c_isSlot ?_
    dsimp only [gPush]
    first | refine U_ifB_eq (tgt := 16) dX9_of_4 (by decide) (by with_reducible rfl) (fun c4 => ?_) (fun c4 => ?_) | refine U_if_eq (tgt := 16) dX9_of_4 (by decide) (by with_reducible rfl) (by omega) (fun c4 => ?_) (fun c4 => ?_) | refine V_if_eq (tgt := 16) dX9_of_4 (by decide) (fun c4 => ?_) (fun c4 => ?_)
    · skip
      refine V_iconst (v := -1) dX9_of_16 (by decide) ?_
      refine V_iret dX9_of_17 rfl rfl ?_
      exact hQ9
    · skip
      refine V_iloadn2 dX9_of_7 ?_
      refine V_if_lt (tgt := 16) dX9_of_8 (by decide) (fun c8 => ?_) (fun c8 => ?_)
      · skip
        refine V_iconst (v := -1) dX9_of_16 (by decide) ?_
        refine V_iret dX9_of_17 rfl rfl ?_
        exact hQ9
      · skip
        refine V_iloadn2 dX9_of_11 ?_
        refine V_iconst (v := nI 4) dX9_of_12 (by decide) ?_
        first | refine U_icmp_le (tgt := 18) dX9_of_13 (by decide) (by with_reducible rfl) (by with_reducible rfl) (by omega) (by omega) (fun c13 => ?_) (fun c13 => ?_) | refine V_icmp_le (tgt := 18) dX9_of_13 (by decide) (fun c13 => ?_) (fun c13 => ?_)
        · skip
          exact absurd (by rw [c4, inR_in0 c8 c13]; rfl) hg
        · skip
          refine V_iconst (v := -1) dX9_of_16 (by decide) ?_
          refine V_iret dX9_of_17 rfl rfl ?_
          exact hQ9
end C44
