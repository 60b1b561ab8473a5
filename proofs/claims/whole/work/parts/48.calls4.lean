/-! ===== the class: insert, record, alike, act, acts, tableau ===== -/
section C48
variable {Γ : gM} {d : Nat} {h : gH} {Q : Option Value → gH → Prop} {S : GS}

set_option maxRecDepth 100000 in
set_option maxHeartbeats 4000000 in
theorem c_insert {x y : Int32} (hd : 4 ≤ d) (hR : RC h S) (hQ : ∀ h', RC h' (f_insert S x y).2 → FrC h h' → Q (some (.int (f_insert S x y).1)) h') : V Γ mX9_insert d 124 124 h 0 [some (.ref 0), some (.int x), some (.int y)] [] Q := by
  obtain ⟨hC, hW, hA, hK, hK2, hB, hSh, hFm⟩ := id hR
  have n0 := hA.1
  have hn2 := hW.1.1
  have hn5 := hW.1.2.1
  by_cases hg : (inB x 6 && inB y 6) = true
  · have hg2 := hg
    rw [Bool.and_eq_true] at hg2
    obtain ⟨s, hs, rfl⟩ := inB_t (by decide) hg2.1
    obtain ⟨q, hq, rfl⟩ := inB_t (by decide) hg2.2
    obtain ⟨hT, hWT⟩ := RC_slot hR hs
    obtain ⟨hT2, hWT2⟩ := RC_slot hR hq
    have hwl := hWT.2.1
    have hlt := hWT.2.2.1
    have eS : tS S (nI s) = S.1.2.2.1 s := by unfold tS; rw [cN_nI (by omega)]
    have eT : tS S (nI q) = S.1.2.2.1 q := by unfold tS; rw [cN_nI (by omega)]
    have eq0 : f_insert S (nI s) (nI q) = _ := if_t hg
    unfold inP at eq0
    rw [eq0, eS, cN_nI (by omega)] at hQ
    refine V_iloadn1 dX9_insert_0 ?_
    refine V_callS1 (μ' := mX9_isSlot) dX9_insert_1 okX9_isSlot lX9_91 (Nat.le_of_ble_eq_true rfl) (Nat.le_of_ble_eq_true rfl) (by omega) ?_
    refine c_isSlot ?_
    rw [hg2.1]
    dsimp only [gPush]
    first | refine U_ifB_eq (tgt := 14) dX9_insert_4 (by decide) (by with_reducible rfl) (fun c4 => ?_) (fun c4 => ?_) | refine U_if_eq (tgt := 14) dX9_insert_4 (by decide) (by with_reducible rfl) (by omega) (fun c4 => ?_) (fun c4 => ?_) | refine V_if_eq (tgt := 14) dX9_insert_4 (by decide) (fun c4 => ?_) (fun c4 => ?_)
    · skip
      cases c4
    · skip
      refine V_iloadn2 dX9_insert_7 ?_
      refine V_callS1 (μ' := mX9_isSlot) dX9_insert_8 okX9_isSlot lX9_91 (Nat.le_of_ble_eq_true rfl) (Nat.le_of_ble_eq_true rfl) (by omega) ?_
      refine c_isSlot ?_
      rw [hg2.2]
      dsimp only [gPush]
      first | refine U_ifB_ne (tgt := 16) dX9_insert_11 (by decide) (by with_reducible rfl) (fun c11 => ?_) (fun c11 => ?_) | refine U_if_ne (tgt := 16) dX9_insert_11 (by decide) (by with_reducible rfl) (by omega) (fun c11 => ?_) (fun c11 => ?_) | refine V_if_ne (tgt := 16) dX9_insert_11 (by decide) (fun c11 => ?_) (fun c11 => ?_)
      · skip
        refine V_aloadn0 dX9_insert_16 ?_
        refine V_iloadn1 dX9_insert_17 ?_
        refine V_callV1 (μ' := mX9_isHeld) dX9_insert_18 okX9_isHeld lX9_130 rfl (by first | assumption | rfl | exact lay_s0 (by omega) | exact lay_s1 (by omega) | exact lay_s2 (by omega) | exact lay_h0 (by omega) | exact lay_h1 (by omega)) (by first | decide | omega) (Nat.le_of_ble_eq_true rfl) (Nat.le_of_ble_eq_true rfl) (by omega) ?_
        refine c_isHeld hs (CL0_0 hC) (CL1_2 hC) (CL_slot hC hs) (lay_s0 hs) hT.1 hWT.1 ?_
        dsimp only [gPush]
        first | refine U_ifB_ne (tgt := 27) dX9_insert_21 (by decide) (by with_reducible rfl) (fun c21 => ?_) (fun c21 => ?_) | refine U_if_ne (tgt := 27) dX9_insert_21 (by decide) (by with_reducible rfl) (by omega) (fun c21 => ?_) (fun c21 => ?_) | refine V_if_ne (tgt := 27) dX9_insert_21 (by decide) (fun c21 => ?_) (fun c21 => ?_)
        · skip
          have hz : ¬ (S.1.2.2.1 s).1 = 0 := of_decide_eq_true c21
          rw [if_neg hz] at hQ
          refine V_aloadn0 dX9_insert_27 ?_
          refine V_getR dX9_insert_28 fX9_42 (by first | assumption | rfl | exact lay_s0 (by omega) | exact lay_s1 (by omega) | exact lay_s2 (by omega) | exact lay_h0 (by omega) | exact lay_h1 (by omega)) (by first | decide | omega) (by first | assumption | exact CL0_0 (by assumption) | exact CL0_1 (by assumption) | exact CL0_3 (by assumption) | exact CL0_4 (by assumption) | exact CL0_5 (by assumption) | exact CL0_6 (by assumption) | exact CL0_7 (by assumption) | exact CL0_8 (by assumption) | exact CL0_9 (by assumption) | exact CL0_10 (by assumption) | exact CL0_11 (by assumption) | exact CL0_12 (by assumption) | exact CL0_13 (by assumption) | exact CL1_2 (by assumption) | exact CL1_3 (by assumption) | exact CL80_2 (by assumption) | exact CL_slot (by assumption) (by omega) | exact (CL_sh (by assumption) (by omega)).1 | exact (CL_sh (by assumption) (by omega)).2.1 | rfl) ?_
          refine V_aloadn0 dX9_insert_31 ?_
          refine V_getR dX9_insert_32 fX9_10 (by first | assumption | rfl | exact lay_s0 (by omega) | exact lay_s1 (by omega) | exact lay_s2 (by omega) | exact lay_h0 (by omega) | exact lay_h1 (by omega)) (by first | decide | omega) (by first | assumption | exact CL0_0 (by assumption) | exact CL0_1 (by assumption) | exact CL0_3 (by assumption) | exact CL0_4 (by assumption) | exact CL0_5 (by assumption) | exact CL0_6 (by assumption) | exact CL0_7 (by assumption) | exact CL0_8 (by assumption) | exact CL0_9 (by assumption) | exact CL0_10 (by assumption) | exact CL0_11 (by assumption) | exact CL0_12 (by assumption) | exact CL0_13 (by assumption) | exact CL1_2 (by assumption) | exact CL1_3 (by assumption) | exact CL80_2 (by assumption) | exact CL_slot (by assumption) (by omega) | exact (CL_sh (by assumption) (by omega)).1 | exact (CL_sh (by assumption) (by omega)).2.1 | rfl) ?_
          refine V_getR dX9_insert_35 fX9_99 (by first | assumption | rfl | exact lay_s0 (by omega) | exact lay_s1 (by omega) | exact lay_s2 (by omega) | exact lay_h0 (by omega) | exact lay_h1 (by omega)) (by first | decide | omega) (by first | assumption | exact CL0_0 (by assumption) | exact CL0_1 (by assumption) | exact CL0_3 (by assumption) | exact CL0_4 (by assumption) | exact CL0_5 (by assumption) | exact CL0_6 (by assumption) | exact CL0_7 (by assumption) | exact CL0_8 (by assumption) | exact CL0_9 (by assumption) | exact CL0_10 (by assumption) | exact CL0_11 (by assumption) | exact CL0_12 (by assumption) | exact CL0_13 (by assumption) | exact CL1_2 (by assumption) | exact CL1_3 (by assumption) | exact CL80_2 (by assumption) | exact CL_slot (by assumption) (by omega) | exact (CL_sh (by assumption) (by omega)).1 | exact (CL_sh (by assumption) (by omega)).2.1 | rfl) ?_
          refine V_iloadn1 dX9_insert_38 ?_
          refine U_aald dX9_insert_39 (by with_reducible rfl) (by first | assumption | rfl | exact lay_s0 (by omega) | exact lay_s1 (by omega) | exact lay_s2 (by omega) | exact lay_h0 (by omega) | exact lay_h1 (by omega)) (by decide) (by first | decide | omega) (by omega) (by first | assumption | exact CL0_0 (by assumption) | exact CL0_1 (by assumption) | exact CL0_3 (by assumption) | exact CL0_4 (by assumption) | exact CL0_5 (by assumption) | exact CL0_6 (by assumption) | exact CL0_7 (by assumption) | exact CL0_8 (by assumption) | exact CL0_9 (by assumption) | exact CL0_10 (by assumption) | exact CL0_11 (by assumption) | exact CL0_12 (by assumption) | exact CL0_13 (by assumption) | exact CL1_2 (by assumption) | exact CL1_3 (by assumption) | exact CL80_2 (by assumption) | exact CL_slot (by assumption) (by omega) | exact (CL_sh (by assumption) (by omega)).1 | exact (CL_sh (by assumption) (by omega)).2.1 | rfl) ?_
          refine V_callV1 (μ' := mX2_insertAll) dX9_insert_40 okX2_insertAll lX9_218 rfl (by first | assumption | rfl | exact lay_s0 (by omega) | exact lay_s1 (by omega) | exact lay_s2 (by omega) | exact lay_h0 (by omega) | exact lay_h1 (by omega)) (by first | decide | omega) (Nat.le_of_ble_eq_true rfl) (Nat.le_of_ble_eq_true rfl) (by omega) ?_
          refine c_insertAll (by omega) (CL_G hC) (CL_T hC hs) hT (by omega) (fun h1 hG1 hF1 => ?_)
          have hC1 := CLay_eq hC hF1.2.2
          have hR1 := RC_S hR (h' := h1) ⟨fun a ha => hF1.1 a (by omega), by rw [hF1.1 43 (by omega)], fun a ha => by rw [hF1.2.1], hC1⟩
          dsimp only [gPush]
          refine V_aloadn0 dX9_insert_43 ?_
          refine V_getR dX9_insert_44 fX9_42 (by first | assumption | rfl | exact lay_s0 (by omega) | exact lay_s1 (by omega) | exact lay_s2 (by omega) | exact lay_h0 (by omega) | exact lay_h1 (by omega)) (by first | decide | omega) (by first | assumption | exact CL0_0 (by assumption) | exact CL0_1 (by assumption) | exact CL0_3 (by assumption) | exact CL0_4 (by assumption) | exact CL0_5 (by assumption) | exact CL0_6 (by assumption) | exact CL0_7 (by assumption) | exact CL0_8 (by assumption) | exact CL0_9 (by assumption) | exact CL0_10 (by assumption) | exact CL0_11 (by assumption) | exact CL0_12 (by assumption) | exact CL0_13 (by assumption) | exact CL1_2 (by assumption) | exact CL1_3 (by assumption) | exact CL80_2 (by assumption) | exact CL_slot (by assumption) (by omega) | exact (CL_sh (by assumption) (by omega)).1 | exact (CL_sh (by assumption) (by omega)).2.1 | rfl) ?_
          refine V_aloadn0 dX9_insert_47 ?_
          refine V_getR dX9_insert_48 fX9_10 (by first | assumption | rfl | exact lay_s0 (by omega) | exact lay_s1 (by omega) | exact lay_s2 (by omega) | exact lay_h0 (by omega) | exact lay_h1 (by omega)) (by first | decide | omega) (by first | assumption | exact CL0_0 (by assumption) | exact CL0_1 (by assumption) | exact CL0_3 (by assumption) | exact CL0_4 (by assumption) | exact CL0_5 (by assumption) | exact CL0_6 (by assumption) | exact CL0_7 (by assumption) | exact CL0_8 (by assumption) | exact CL0_9 (by assumption) | exact CL0_10 (by assumption) | exact CL0_11 (by assumption) | exact CL0_12 (by assumption) | exact CL0_13 (by assumption) | exact CL1_2 (by assumption) | exact CL1_3 (by assumption) | exact CL80_2 (by assumption) | exact CL_slot (by assumption) (by omega) | exact (CL_sh (by assumption) (by omega)).1 | exact (CL_sh (by assumption) (by omega)).2.1 | rfl) ?_
          refine V_getR dX9_insert_51 fX9_99 (by first | assumption | rfl | exact lay_s0 (by omega) | exact lay_s1 (by omega) | exact lay_s2 (by omega) | exact lay_h0 (by omega) | exact lay_h1 (by omega)) (by first | decide | omega) (by first | assumption | exact CL0_0 (by assumption) | exact CL0_1 (by assumption) | exact CL0_3 (by assumption) | exact CL0_4 (by assumption) | exact CL0_5 (by assumption) | exact CL0_6 (by assumption) | exact CL0_7 (by assumption) | exact CL0_8 (by assumption) | exact CL0_9 (by assumption) | exact CL0_10 (by assumption) | exact CL0_11 (by assumption) | exact CL0_12 (by assumption) | exact CL0_13 (by assumption) | exact CL1_2 (by assumption) | exact CL1_3 (by assumption) | exact CL80_2 (by assumption) | exact CL_slot (by assumption) (by omega) | exact (CL_sh (by assumption) (by omega)).1 | exact (CL_sh (by assumption) (by omega)).2.1 | rfl) ?_
          refine V_iloadn2 dX9_insert_54 ?_
          refine U_aald dX9_insert_55 (by with_reducible rfl) (by first | assumption | rfl | exact lay_s0 (by omega) | exact lay_s1 (by omega) | exact lay_s2 (by omega) | exact lay_h0 (by omega) | exact lay_h1 (by omega)) (by decide) (by first | decide | omega) (by omega) (by first | assumption | exact CL0_0 (by assumption) | exact CL0_1 (by assumption) | exact CL0_3 (by assumption) | exact CL0_4 (by assumption) | exact CL0_5 (by assumption) | exact CL0_6 (by assumption) | exact CL0_7 (by assumption) | exact CL0_8 (by assumption) | exact CL0_9 (by assumption) | exact CL0_10 (by assumption) | exact CL0_11 (by assumption) | exact CL0_12 (by assumption) | exact CL0_13 (by assumption) | exact CL1_2 (by assumption) | exact CL1_3 (by assumption) | exact CL80_2 (by assumption) | exact CL_slot (by assumption) (by omega) | exact (CL_sh (by assumption) (by omega)).1 | exact (CL_sh (by assumption) (by omega)).2.1 | rfl) ?_
          refine V_callV1 (μ' := mX2_writeTo) dX9_insert_56 okX2_writeTo lX9_127 rfl (by first | assumption | rfl | exact lay_s0 (by omega) | exact lay_s1 (by omega) | exact lay_s2 (by omega) | exact lay_h0 (by omega) | exact lay_h1 (by omega)) (by first | decide | omega) (Nat.le_of_ble_eq_true rfl) (Nat.le_of_ble_eq_true rfl) (by omega) ?_
          refine c_writeTo (by omega) (CL_G hC1) hG1 (CL_T hC1 hq) (by omega) (fun h2 hT3 hF2 => ?_)
          have hC2 := CLay_eq hC1 hF2.2.2
          have g0 : gI h2 54 0 = nI (insW (S.1.2.2.1 s).2.1 (S.1.2.2.1 s).2.1.length).length := by rw [hF2.1 54 (by omega)]; exact hG1.1
          have hQ' := hQ h2 (RC_put hR1 hq (WT_ins hlt hwl) hT3 (hF2.wd (by omega) (by omega))) ((hF1.toC (by omega)).tr (hF2.toC (by omega)))
          dsimp only [gPush]
          refine V_aloadn0 dX9_insert_59 ?_
          refine V_getR dX9_insert_60 fX9_42 (by first | assumption | rfl | exact lay_s0 (by omega) | exact lay_s1 (by omega) | exact lay_s2 (by omega) | exact lay_h0 (by omega) | exact lay_h1 (by omega)) (by first | decide | omega) (by first | assumption | exact CL0_0 (by assumption) | exact CL0_1 (by assumption) | exact CL0_3 (by assumption) | exact CL0_4 (by assumption) | exact CL0_5 (by assumption) | exact CL0_6 (by assumption) | exact CL0_7 (by assumption) | exact CL0_8 (by assumption) | exact CL0_9 (by assumption) | exact CL0_10 (by assumption) | exact CL0_11 (by assumption) | exact CL0_12 (by assumption) | exact CL0_13 (by assumption) | exact CL1_2 (by assumption) | exact CL1_3 (by assumption) | exact CL80_2 (by assumption) | exact CL_slot (by assumption) (by omega) | exact (CL_sh (by assumption) (by omega)).1 | exact (CL_sh (by assumption) (by omega)).2.1 | rfl) ?_
          refine V_getI dX9_insert_63 fX9_221 (Or.inl rfl) (by first | assumption | rfl | exact lay_s0 (by omega) | exact lay_s1 (by omega) | exact lay_s2 (by omega) | exact lay_h0 (by omega) | exact lay_h1 (by omega)) (by first | decide | omega) (by first | assumption | exact CL0_0 (by assumption) | exact CL0_1 (by assumption) | exact CL0_3 (by assumption) | exact CL0_4 (by assumption) | exact CL0_5 (by assumption) | exact CL0_6 (by assumption) | exact CL0_7 (by assumption) | exact CL0_8 (by assumption) | exact CL0_9 (by assumption) | exact CL0_10 (by assumption) | exact CL0_11 (by assumption) | exact CL0_12 (by assumption) | exact CL0_13 (by assumption) | exact CL1_2 (by assumption) | exact CL1_3 (by assumption) | exact CL80_2 (by assumption) | exact CL_slot (by assumption) (by omega) | exact (CL_sh (by assumption) (by omega)).1 | exact (CL_sh (by assumption) (by omega)).2.1 | rfl) ?_
          refine V_iret dX9_insert_66 rfl rfl ?_
          exact hQ'
        · skip
          have hz : (S.1.2.2.1 s).1 = 0 := by simpa using c21
          rw [if_pos hz] at hQ
          have hQ' := hQ h hR FrC.rf
          refine V_bipush (v := -11) dX9_insert_24 (by decide) ?_
          refine V_iret dX9_insert_26 rfl rfl ?_
          exact hQ'
      · skip
        cases c11
  · have eq0 : f_insert S x y = (-1, S) := if_neg hg
    rw [eq0] at hQ
    have hQ9 := hQ h hR FrC.rf
    refine V_iloadn1 dX9_insert_0 ?_
    refine V_callS1 (μ' := mX9_isSlot) dX9_insert_1 okX9_isSlot lX9_91 (Nat.le_of_ble_eq_true rfl) (Nat.le_of_ble_eq_true rfl) (by omega) ?_
    refine c_isSlot ?_
    dsimp only [gPush]
    first | refine U_ifB_eq (tgt := 14) dX9_insert_4 (by decide) (by with_reducible rfl) (fun c4 => ?_) (fun c4 => ?_) | refine U_if_eq (tgt := 14) dX9_insert_4 (by decide) (by with_reducible rfl) (by omega) (fun c4 => ?_) (fun c4 => ?_) | refine V_if_eq (tgt := 14) dX9_insert_4 (by decide) (fun c4 => ?_) (fun c4 => ?_)
    · skip
      refine V_iconst (v := -1) dX9_insert_14 (by decide) ?_
      refine V_iret dX9_insert_15 rfl rfl ?_
      exact hQ9
    · skip
      refine V_iloadn2 dX9_insert_7 ?_
      refine V_callS1 (μ' := mX9_isSlot) dX9_insert_8 okX9_isSlot lX9_91 (Nat.le_of_ble_eq_true rfl) (Nat.le_of_ble_eq_true rfl) (by omega) ?_
      refine c_isSlot ?_
      dsimp only [gPush]
      first | refine U_ifB_ne (tgt := 16) dX9_insert_11 (by decide) (by with_reducible rfl) (fun c11 => ?_) (fun c11 => ?_) | refine U_if_ne (tgt := 16) dX9_insert_11 (by decide) (by with_reducible rfl) (by omega) (fun c11 => ?_) (fun c11 => ?_) | refine V_if_ne (tgt := 16) dX9_insert_11 (by decide) (fun c11 => ?_) (fun c11 => ?_)
      · skip
        exact absurd (by rw [c4, c11]; rfl) hg
      · skip
        refine V_iconst (v := -1) dX9_insert_14 (by decide) ?_
        refine V_iret dX9_insert_15 rfl rfl ?_
        exact hQ9

set_option maxRecDepth 100000 in
set_option maxHeartbeats 4000000 in
theorem c_alike {x y : Int32} (hd : 4 ≤ d) (hR : RC h S) (hQ : ∀ h', RC h' S → FrC h h' → Q (some (.int (g_alike S x y))) h') : V Γ mX9_alike d 124 124 h 0 [some (.ref 0), some (.int x), some (.int y)] [] Q := by
  obtain ⟨hC, hW, hA, hK, hK2, hB, hSh, hFm⟩ := id hR
  have n0 := hA.1
  have hn2 := hW.1.1
  have hn5 := hW.1.2.1
  by_cases hg : (inB x 6 && inB y 6) = true
  · have hg2 := hg
    rw [Bool.and_eq_true] at hg2
    obtain ⟨s, hs, rfl⟩ := inB_t (by decide) hg2.1
    obtain ⟨q, hq, rfl⟩ := inB_t (by decide) hg2.2
    obtain ⟨hT, hWT⟩ := RC_slot hR hs
    obtain ⟨hT2, hWT2⟩ := RC_slot hR hq
    have hwl := hWT.2.1
    have hlt := hWT.2.2.1
    have eS : tS S (nI s) = S.1.2.2.1 s := by unfold tS; rw [cN_nI (by omega)]
    have eT : tS S (nI q) = S.1.2.2.1 q := by unfold tS; rw [cN_nI (by omega)]
    have eq0 : g_alike S (nI s) (nI q) = _ := if_t hg
    unfold inP at eq0
    rw [eq0, eS, eT] at hQ
    have hwl2 := hWT2.2.1
    refine V_iloadn1 dX9_alike_0 ?_
    refine V_callS1 (μ' := mX9_isSlot) dX9_alike_1 okX9_isSlot lX9_91 (Nat.le_of_ble_eq_true rfl) (Nat.le_of_ble_eq_true rfl) (by omega) ?_
    refine c_isSlot ?_
    rw [hg2.1]
    dsimp only [gPush]
    first | refine U_ifB_eq (tgt := 14) dX9_alike_4 (by decide) (by with_reducible rfl) (fun c4 => ?_) (fun c4 => ?_) | refine U_if_eq (tgt := 14) dX9_alike_4 (by decide) (by with_reducible rfl) (by omega) (fun c4 => ?_) (fun c4 => ?_) | refine V_if_eq (tgt := 14) dX9_alike_4 (by decide) (fun c4 => ?_) (fun c4 => ?_)
    · skip
      cases c4
    · skip
      refine V_iloadn2 dX9_alike_7 ?_
      refine V_callS1 (μ' := mX9_isSlot) dX9_alike_8 okX9_isSlot lX9_91 (Nat.le_of_ble_eq_true rfl) (Nat.le_of_ble_eq_true rfl) (by omega) ?_
      refine c_isSlot ?_
      rw [hg2.2]
      dsimp only [gPush]
      first | refine U_ifB_ne (tgt := 16) dX9_alike_11 (by decide) (by with_reducible rfl) (fun c11 => ?_) (fun c11 => ?_) | refine U_if_ne (tgt := 16) dX9_alike_11 (by decide) (by with_reducible rfl) (by omega) (fun c11 => ?_) (fun c11 => ?_) | refine V_if_ne (tgt := 16) dX9_alike_11 (by decide) (fun c11 => ?_) (fun c11 => ?_)
      · skip
        refine V_aloadn0 dX9_alike_16 ?_
        refine V_iloadn1 dX9_alike_17 ?_
        refine V_callV1 (μ' := mX9_isHeld) dX9_alike_18 okX9_isHeld lX9_130 rfl (by first | assumption | rfl | exact lay_s0 (by omega) | exact lay_s1 (by omega) | exact lay_s2 (by omega) | exact lay_h0 (by omega) | exact lay_h1 (by omega)) (by first | decide | omega) (Nat.le_of_ble_eq_true rfl) (Nat.le_of_ble_eq_true rfl) (by omega) ?_
        refine c_isHeld hs (CL0_0 hC) (CL1_2 hC) (CL_slot hC hs) (lay_s0 hs) hT.1 hWT.1 ?_
        dsimp only [gPush]
        first | refine U_ifB_eq (tgt := 32) dX9_alike_21 (by decide) (by with_reducible rfl) (fun c21 => ?_) (fun c21 => ?_) | refine U_if_eq (tgt := 32) dX9_alike_21 (by decide) (by with_reducible rfl) (by omega) (fun c21 => ?_) (fun c21 => ?_) | refine V_if_eq (tgt := 32) dX9_alike_21 (by decide) (fun c21 => ?_) (fun c21 => ?_)
        · skip
          have hz : (S.1.2.2.1 s).1 = 0 := by simpa using c21
          rw [if_pos (Or.inl hz)] at hQ
          have hQ' := hQ h hR FrC.rf
          refine V_bipush (v := -11) dX9_alike_32 (by decide) ?_
          refine V_iret dX9_alike_34 rfl rfl ?_
          exact hQ'
        · skip
          refine V_aloadn0 dX9_alike_24 ?_
          refine V_iloadn2 dX9_alike_25 ?_
          refine V_callV1 (μ' := mX9_isHeld) dX9_alike_26 okX9_isHeld lX9_130 rfl (by first | assumption | rfl | exact lay_s0 (by omega) | exact lay_s1 (by omega) | exact lay_s2 (by omega) | exact lay_h0 (by omega) | exact lay_h1 (by omega)) (by first | decide | omega) (Nat.le_of_ble_eq_true rfl) (Nat.le_of_ble_eq_true rfl) (by omega) ?_
          refine c_isHeld hq (CL0_0 hC) (CL1_2 hC) (CL_slot hC hq) (lay_s0 hq) hT2.1 hWT2.1 ?_
          dsimp only [gPush]
          first | refine U_ifB_ne (tgt := 35) dX9_alike_29 (by decide) (by with_reducible rfl) (fun c29 => ?_) (fun c29 => ?_) | refine U_if_ne (tgt := 35) dX9_alike_29 (by decide) (by with_reducible rfl) (by omega) (fun c29 => ?_) (fun c29 => ?_) | refine V_if_ne (tgt := 35) dX9_alike_29 (by decide) (fun c29 => ?_) (fun c29 => ?_)
          · skip
            have hz1 : ¬ (S.1.2.2.1 s).1 = 0 := of_decide_eq_true c21
            have hz2 : ¬ (S.1.2.2.1 q).1 = 0 := of_decide_eq_true c29
            rw [if_neg (fun z => z.elim hz1 hz2)] at hQ
            refine V_aloadn0 dX9_alike_35 ?_
            refine V_getR dX9_alike_36 fX9_42 (by first | assumption | rfl | exact lay_s0 (by omega) | exact lay_s1 (by omega) | exact lay_s2 (by omega) | exact lay_h0 (by omega) | exact lay_h1 (by omega)) (by first | decide | omega) (by first | assumption | exact CL0_0 (by assumption) | exact CL0_1 (by assumption) | exact CL0_3 (by assumption) | exact CL0_4 (by assumption) | exact CL0_5 (by assumption) | exact CL0_6 (by assumption) | exact CL0_7 (by assumption) | exact CL0_8 (by assumption) | exact CL0_9 (by assumption) | exact CL0_10 (by assumption) | exact CL0_11 (by assumption) | exact CL0_12 (by assumption) | exact CL0_13 (by assumption) | exact CL1_2 (by assumption) | exact CL1_3 (by assumption) | exact CL80_2 (by assumption) | exact CL_slot (by assumption) (by omega) | exact (CL_sh (by assumption) (by omega)).1 | exact (CL_sh (by assumption) (by omega)).2.1 | rfl) ?_
            refine V_aloadn0 dX9_alike_39 ?_
            refine V_getR dX9_alike_40 fX9_10 (by first | assumption | rfl | exact lay_s0 (by omega) | exact lay_s1 (by omega) | exact lay_s2 (by omega) | exact lay_h0 (by omega) | exact lay_h1 (by omega)) (by first | decide | omega) (by first | assumption | exact CL0_0 (by assumption) | exact CL0_1 (by assumption) | exact CL0_3 (by assumption) | exact CL0_4 (by assumption) | exact CL0_5 (by assumption) | exact CL0_6 (by assumption) | exact CL0_7 (by assumption) | exact CL0_8 (by assumption) | exact CL0_9 (by assumption) | exact CL0_10 (by assumption) | exact CL0_11 (by assumption) | exact CL0_12 (by assumption) | exact CL0_13 (by assumption) | exact CL1_2 (by assumption) | exact CL1_3 (by assumption) | exact CL80_2 (by assumption) | exact CL_slot (by assumption) (by omega) | exact (CL_sh (by assumption) (by omega)).1 | exact (CL_sh (by assumption) (by omega)).2.1 | rfl) ?_
            refine V_getR dX9_alike_43 fX9_99 (by first | assumption | rfl | exact lay_s0 (by omega) | exact lay_s1 (by omega) | exact lay_s2 (by omega) | exact lay_h0 (by omega) | exact lay_h1 (by omega)) (by first | decide | omega) (by first | assumption | exact CL0_0 (by assumption) | exact CL0_1 (by assumption) | exact CL0_3 (by assumption) | exact CL0_4 (by assumption) | exact CL0_5 (by assumption) | exact CL0_6 (by assumption) | exact CL0_7 (by assumption) | exact CL0_8 (by assumption) | exact CL0_9 (by assumption) | exact CL0_10 (by assumption) | exact CL0_11 (by assumption) | exact CL0_12 (by assumption) | exact CL0_13 (by assumption) | exact CL1_2 (by assumption) | exact CL1_3 (by assumption) | exact CL80_2 (by assumption) | exact CL_slot (by assumption) (by omega) | exact (CL_sh (by assumption) (by omega)).1 | exact (CL_sh (by assumption) (by omega)).2.1 | rfl) ?_
            refine V_iloadn1 dX9_alike_46 ?_
            refine U_aald dX9_alike_47 (by with_reducible rfl) (by first | assumption | rfl | exact lay_s0 (by omega) | exact lay_s1 (by omega) | exact lay_s2 (by omega) | exact lay_h0 (by omega) | exact lay_h1 (by omega)) (by decide) (by first | decide | omega) (by omega) (by first | assumption | exact CL0_0 (by assumption) | exact CL0_1 (by assumption) | exact CL0_3 (by assumption) | exact CL0_4 (by assumption) | exact CL0_5 (by assumption) | exact CL0_6 (by assumption) | exact CL0_7 (by assumption) | exact CL0_8 (by assumption) | exact CL0_9 (by assumption) | exact CL0_10 (by assumption) | exact CL0_11 (by assumption) | exact CL0_12 (by assumption) | exact CL0_13 (by assumption) | exact CL1_2 (by assumption) | exact CL1_3 (by assumption) | exact CL80_2 (by assumption) | exact CL_slot (by assumption) (by omega) | exact (CL_sh (by assumption) (by omega)).1 | exact (CL_sh (by assumption) (by omega)).2.1 | rfl) ?_
            refine V_callV1 (μ' := mX2_insertAll) dX9_alike_48 okX2_insertAll lX9_218 rfl (by first | assumption | rfl | exact lay_s0 (by omega) | exact lay_s1 (by omega) | exact lay_s2 (by omega) | exact lay_h0 (by omega) | exact lay_h1 (by omega)) (by first | decide | omega) (Nat.le_of_ble_eq_true rfl) (Nat.le_of_ble_eq_true rfl) (by omega) ?_
            refine c_insertAll (by omega) (CL_G hC) (CL_T hC hs) hT (by omega) (fun h1 hG1 hF1 => ?_)
            have hC1 := CLay_eq hC hF1.2.2
            dsimp only [gPush]
            refine V_aloadn0 dX9_alike_51 ?_
            refine V_getR dX9_alike_52 fX9_42 (by first | assumption | rfl | exact lay_s0 (by omega) | exact lay_s1 (by omega) | exact lay_s2 (by omega) | exact lay_h0 (by omega) | exact lay_h1 (by omega)) (by first | decide | omega) (by first | assumption | exact CL0_0 (by assumption) | exact CL0_1 (by assumption) | exact CL0_3 (by assumption) | exact CL0_4 (by assumption) | exact CL0_5 (by assumption) | exact CL0_6 (by assumption) | exact CL0_7 (by assumption) | exact CL0_8 (by assumption) | exact CL0_9 (by assumption) | exact CL0_10 (by assumption) | exact CL0_11 (by assumption) | exact CL0_12 (by assumption) | exact CL0_13 (by assumption) | exact CL1_2 (by assumption) | exact CL1_3 (by assumption) | exact CL80_2 (by assumption) | exact CL_slot (by assumption) (by omega) | exact (CL_sh (by assumption) (by omega)).1 | exact (CL_sh (by assumption) (by omega)).2.1 | rfl) ?_
            refine V_aloadn0 dX9_alike_55 ?_
            refine V_getR dX9_alike_56 fX9_76 (by first | assumption | rfl | exact lay_s0 (by omega) | exact lay_s1 (by omega) | exact lay_s2 (by omega) | exact lay_h0 (by omega) | exact lay_h1 (by omega)) (by first | decide | omega) (by first | assumption | exact CL0_0 (by assumption) | exact CL0_1 (by assumption) | exact CL0_3 (by assumption) | exact CL0_4 (by assumption) | exact CL0_5 (by assumption) | exact CL0_6 (by assumption) | exact CL0_7 (by assumption) | exact CL0_8 (by assumption) | exact CL0_9 (by assumption) | exact CL0_10 (by assumption) | exact CL0_11 (by assumption) | exact CL0_12 (by assumption) | exact CL0_13 (by assumption) | exact CL1_2 (by assumption) | exact CL1_3 (by assumption) | exact CL80_2 (by assumption) | exact CL_slot (by assumption) (by omega) | exact (CL_sh (by assumption) (by omega)).1 | exact (CL_sh (by assumption) (by omega)).2.1 | rfl) ?_
            refine V_callV1 (μ' := mX2_writeTo) dX9_alike_59 okX2_writeTo lX9_127 rfl (by first | assumption | rfl | exact lay_s0 (by omega) | exact lay_s1 (by omega) | exact lay_s2 (by omega) | exact lay_h0 (by omega) | exact lay_h1 (by omega)) (by first | decide | omega) (Nat.le_of_ble_eq_true rfl) (Nat.le_of_ble_eq_true rfl) (by omega) ?_
            refine c_writeTo (by omega) (CL_G hC1) hG1 (CL_80 hC1) (by omega) (fun h2 hD2 hF2 => ?_)
            have hC2 := CLay_eq hC1 hF2.2.2
            have f2 : ∀ a, a < 54 ∨ 58 ≤ a → a < 80 ∨ 83 ≤ a → gI h2 a = gI h a := fun a a1 a2 => by rw [hF2.1 a (by omega), hF1.1 a (by omega)]
            dsimp only [gPush]
            refine V_aloadn0 dX9_alike_62 ?_
            refine V_getR dX9_alike_63 fX9_42 (by first | assumption | rfl | exact lay_s0 (by omega) | exact lay_s1 (by omega) | exact lay_s2 (by omega) | exact lay_h0 (by omega) | exact lay_h1 (by omega)) (by first | decide | omega) (by first | assumption | exact CL0_0 (by assumption) | exact CL0_1 (by assumption) | exact CL0_3 (by assumption) | exact CL0_4 (by assumption) | exact CL0_5 (by assumption) | exact CL0_6 (by assumption) | exact CL0_7 (by assumption) | exact CL0_8 (by assumption) | exact CL0_9 (by assumption) | exact CL0_10 (by assumption) | exact CL0_11 (by assumption) | exact CL0_12 (by assumption) | exact CL0_13 (by assumption) | exact CL1_2 (by assumption) | exact CL1_3 (by assumption) | exact CL80_2 (by assumption) | exact CL_slot (by assumption) (by omega) | exact (CL_sh (by assumption) (by omega)).1 | exact (CL_sh (by assumption) (by omega)).2.1 | rfl) ?_
            refine V_aloadn0 dX9_alike_66 ?_
            refine V_getR dX9_alike_67 fX9_10 (by first | assumption | rfl | exact lay_s0 (by omega) | exact lay_s1 (by omega) | exact lay_s2 (by omega) | exact lay_h0 (by omega) | exact lay_h1 (by omega)) (by first | decide | omega) (by first | assumption | exact CL0_0 (by assumption) | exact CL0_1 (by assumption) | exact CL0_3 (by assumption) | exact CL0_4 (by assumption) | exact CL0_5 (by assumption) | exact CL0_6 (by assumption) | exact CL0_7 (by assumption) | exact CL0_8 (by assumption) | exact CL0_9 (by assumption) | exact CL0_10 (by assumption) | exact CL0_11 (by assumption) | exact CL0_12 (by assumption) | exact CL0_13 (by assumption) | exact CL1_2 (by assumption) | exact CL1_3 (by assumption) | exact CL80_2 (by assumption) | exact CL_slot (by assumption) (by omega) | exact (CL_sh (by assumption) (by omega)).1 | exact (CL_sh (by assumption) (by omega)).2.1 | rfl) ?_
            refine V_getR dX9_alike_70 fX9_99 (by first | assumption | rfl | exact lay_s0 (by omega) | exact lay_s1 (by omega) | exact lay_s2 (by omega) | exact lay_h0 (by omega) | exact lay_h1 (by omega)) (by first | decide | omega) (by first | assumption | exact CL0_0 (by assumption) | exact CL0_1 (by assumption) | exact CL0_3 (by assumption) | exact CL0_4 (by assumption) | exact CL0_5 (by assumption) | exact CL0_6 (by assumption) | exact CL0_7 (by assumption) | exact CL0_8 (by assumption) | exact CL0_9 (by assumption) | exact CL0_10 (by assumption) | exact CL0_11 (by assumption) | exact CL0_12 (by assumption) | exact CL0_13 (by assumption) | exact CL1_2 (by assumption) | exact CL1_3 (by assumption) | exact CL80_2 (by assumption) | exact CL_slot (by assumption) (by omega) | exact (CL_sh (by assumption) (by omega)).1 | exact (CL_sh (by assumption) (by omega)).2.1 | rfl) ?_
            refine V_iloadn2 dX9_alike_73 ?_
            refine U_aald dX9_alike_74 (by with_reducible rfl) (by first | assumption | rfl | exact lay_s0 (by omega) | exact lay_s1 (by omega) | exact lay_s2 (by omega) | exact lay_h0 (by omega) | exact lay_h1 (by omega)) (by decide) (by first | decide | omega) (by omega) (by first | assumption | exact CL0_0 (by assumption) | exact CL0_1 (by assumption) | exact CL0_3 (by assumption) | exact CL0_4 (by assumption) | exact CL0_5 (by assumption) | exact CL0_6 (by assumption) | exact CL0_7 (by assumption) | exact CL0_8 (by assumption) | exact CL0_9 (by assumption) | exact CL0_10 (by assumption) | exact CL0_11 (by assumption) | exact CL0_12 (by assumption) | exact CL0_13 (by assumption) | exact CL1_2 (by assumption) | exact CL1_3 (by assumption) | exact CL80_2 (by assumption) | exact CL_slot (by assumption) (by omega) | exact (CL_sh (by assumption) (by omega)).1 | exact (CL_sh (by assumption) (by omega)).2.1 | rfl) ?_
            refine V_callV1 (μ' := mX2_insertAll) dX9_alike_75 okX2_insertAll lX9_218 rfl (by first | assumption | rfl | exact lay_s0 (by omega) | exact lay_s1 (by omega) | exact lay_s2 (by omega) | exact lay_h0 (by omega) | exact lay_h1 (by omega)) (by first | decide | omega) (Nat.le_of_ble_eq_true rfl) (Nat.le_of_ble_eq_true rfl) (by omega) ?_
            refine c_insertAll (by omega) (CL_G hC2) (CL_T hC2 hq) (TI_cg hT2 (fun a a1 a2 => f2 a (by omega) (by omega))) (by omega) (fun h3 hG3 hF3 => ?_)
            have hC3 := CLay_eq hC2 hF3.2.2
            dsimp only [gPush]
            refine V_aloadn0 dX9_alike_78 ?_
            refine V_getR dX9_alike_79 fX9_42 (by first | assumption | rfl | exact lay_s0 (by omega) | exact lay_s1 (by omega) | exact lay_s2 (by omega) | exact lay_h0 (by omega) | exact lay_h1 (by omega)) (by first | decide | omega) (by first | assumption | exact CL0_0 (by assumption) | exact CL0_1 (by assumption) | exact CL0_3 (by assumption) | exact CL0_4 (by assumption) | exact CL0_5 (by assumption) | exact CL0_6 (by assumption) | exact CL0_7 (by assumption) | exact CL0_8 (by assumption) | exact CL0_9 (by assumption) | exact CL0_10 (by assumption) | exact CL0_11 (by assumption) | exact CL0_12 (by assumption) | exact CL0_13 (by assumption) | exact CL1_2 (by assumption) | exact CL1_3 (by assumption) | exact CL80_2 (by assumption) | exact CL_slot (by assumption) (by omega) | exact (CL_sh (by assumption) (by omega)).1 | exact (CL_sh (by assumption) (by omega)).2.1 | rfl) ?_
            refine V_aloadn0 dX9_alike_82 ?_
            refine V_getR dX9_alike_83 fX9_80 (by first | assumption | rfl | exact lay_s0 (by omega) | exact lay_s1 (by omega) | exact lay_s2 (by omega) | exact lay_h0 (by omega) | exact lay_h1 (by omega)) (by first | decide | omega) (by first | assumption | exact CL0_0 (by assumption) | exact CL0_1 (by assumption) | exact CL0_3 (by assumption) | exact CL0_4 (by assumption) | exact CL0_5 (by assumption) | exact CL0_6 (by assumption) | exact CL0_7 (by assumption) | exact CL0_8 (by assumption) | exact CL0_9 (by assumption) | exact CL0_10 (by assumption) | exact CL0_11 (by assumption) | exact CL0_12 (by assumption) | exact CL0_13 (by assumption) | exact CL1_2 (by assumption) | exact CL1_3 (by assumption) | exact CL80_2 (by assumption) | exact CL_slot (by assumption) (by omega) | exact (CL_sh (by assumption) (by omega)).1 | exact (CL_sh (by assumption) (by omega)).2.1 | rfl) ?_
            refine V_callV1 (μ' := mX2_writeTo) dX9_alike_86 okX2_writeTo lX9_127 rfl (by first | assumption | rfl | exact lay_s0 (by omega) | exact lay_s1 (by omega) | exact lay_s2 (by omega) | exact lay_h0 (by omega) | exact lay_h1 (by omega)) (by first | decide | omega) (Nat.le_of_ble_eq_true rfl) (Nat.le_of_ble_eq_true rfl) (by omega) ?_
            refine c_writeTo (by omega) (CL_G hC3) hG3 (CL_83 hC3) (by omega) (fun h4 hD4 hF4 => ?_)
            have hC4 := CLay_eq hC3 hF4.2.2
            have f4 : ∀ a, a < 54 ∨ 58 ≤ a → a < 80 ∨ 86 ≤ a → gI h4 a = gI h a := fun a a1 a2 => by rw [hF4.1 a (by omega), hF3.1 a (by omega), f2 a a1 (by omega)]
            have l4 : gL h4 = gL h := by rw [hF4.2.1, hF3.2.1, hF2.2.1, hF1.2.1]
            have k4 : gR h4 = gR h := by rw [hF4.2.2, hF3.2.2, hF2.2.2, hF1.2.2]
            have d4 := TI_cg hD2 (h' := h4) (fun a a1 a2 => by rw [hF4.1 a (by omega), hF3.1 a (by omega)])
            have hQ' := hQ h4 (RC_S hR ⟨fun a ha => f4 a (by omega) (by omega), by rw [f4 43 (by omega) (by omega)], fun a ha => by rw [l4], hC4⟩) ⟨fun a ha => f4 a (by omega) (by omega), fun a ha => by rw [l4], fun a ha => by rw [k4]⟩
            dsimp only [gPush]
            refine V_aloadn0 dX9_alike_89 ?_
            refine V_getR dX9_alike_90 fX9_76 (by first | assumption | rfl | exact lay_s0 (by omega) | exact lay_s1 (by omega) | exact lay_s2 (by omega) | exact lay_h0 (by omega) | exact lay_h1 (by omega)) (by first | decide | omega) (by first | assumption | exact CL0_0 (by assumption) | exact CL0_1 (by assumption) | exact CL0_3 (by assumption) | exact CL0_4 (by assumption) | exact CL0_5 (by assumption) | exact CL0_6 (by assumption) | exact CL0_7 (by assumption) | exact CL0_8 (by assumption) | exact CL0_9 (by assumption) | exact CL0_10 (by assumption) | exact CL0_11 (by assumption) | exact CL0_12 (by assumption) | exact CL0_13 (by assumption) | exact CL1_2 (by assumption) | exact CL1_3 (by assumption) | exact CL80_2 (by assumption) | exact CL_slot (by assumption) (by omega) | exact (CL_sh (by assumption) (by omega)).1 | exact (CL_sh (by assumption) (by omega)).2.1 | rfl) ?_
            refine V_aloadn0 dX9_alike_93 ?_
            refine V_getR dX9_alike_94 fX9_80 (by first | assumption | rfl | exact lay_s0 (by omega) | exact lay_s1 (by omega) | exact lay_s2 (by omega) | exact lay_h0 (by omega) | exact lay_h1 (by omega)) (by first | decide | omega) (by first | assumption | exact CL0_0 (by assumption) | exact CL0_1 (by assumption) | exact CL0_3 (by assumption) | exact CL0_4 (by assumption) | exact CL0_5 (by assumption) | exact CL0_6 (by assumption) | exact CL0_7 (by assumption) | exact CL0_8 (by assumption) | exact CL0_9 (by assumption) | exact CL0_10 (by assumption) | exact CL0_11 (by assumption) | exact CL0_12 (by assumption) | exact CL0_13 (by assumption) | exact CL1_2 (by assumption) | exact CL1_3 (by assumption) | exact CL80_2 (by assumption) | exact CL_slot (by assumption) (by omega) | exact (CL_sh (by assumption) (by omega)).1 | exact (CL_sh (by assumption) (by omega)).2.1 | rfl) ?_
            refine V_callV1 (μ' := mX8_isSameAs) dX9_alike_97 okX8_isSameAs lX9_225 rfl (by first | assumption | rfl | exact lay_s0 (by omega) | exact lay_s1 (by omega) | exact lay_s2 (by omega) | exact lay_h0 (by omega) | exact lay_h1 (by omega)) (by first | decide | omega) (Nat.le_of_ble_eq_true rfl) (Nat.le_of_ble_eq_true rfl) (by omega) ?_
            refine c_isSameAs (CL_80 hC4) (CL_83 hC4) d4 hD4 ?_
            dsimp only [gPush]
            first | refine U_ifB_eq (tgt := 107) dX9_alike_100 (by decide) (by with_reducible rfl) (fun c100 => ?_) (fun c100 => ?_) | refine U_if_eq (tgt := 107) dX9_alike_100 (by decide) (by with_reducible rfl) (by omega) (fun c100 => ?_) (fun c100 => ?_) | refine V_if_eq (tgt := 107) dX9_alike_100 (by decide) (fun c100 => ?_) (fun c100 => ?_)
            · skip
              have ne := of_decide_eq_false c100
              rw [decide_eq_false (fun z => ne ⟨rfl, z.1, z.2⟩)] at hQ'
              refine V_iconst (v := nI 0) dX9_alike_107 (by decide) ?_
              refine V_iret dX9_alike_108 rfl rfl ?_
              exact hQ'
            · skip
              have eq := of_decide_eq_true c100
              rw [decide_eq_true ⟨eq.2.1, eq.2.2⟩] at hQ'
              refine V_iconst (v := nI 1) dX9_alike_103 (by decide) ?_
              refine V_goto (tgt := 108) dX9_alike_104 (by decide) ?_
              refine V_iret dX9_alike_108 rfl rfl ?_
              exact hQ'
          · skip
            have hz : (S.1.2.2.1 q).1 = 0 := by simpa using c29
            rw [if_pos (Or.inr hz)] at hQ
            have hQ' := hQ h hR FrC.rf
            refine V_bipush (v := -11) dX9_alike_32 (by decide) ?_
            refine V_iret dX9_alike_34 rfl rfl ?_
            exact hQ'
      · skip
        cases c11
  · have eq0 : g_alike S x y = -1 := if_neg hg
    rw [eq0] at hQ
    have hQ9 := hQ h hR FrC.rf
    refine V_iloadn1 dX9_alike_0 ?_
    refine V_callS1 (μ' := mX9_isSlot) dX9_alike_1 okX9_isSlot lX9_91 (Nat.le_of_ble_eq_true rfl) (Nat.le_of_ble_eq_true rfl) (by omega) ?_
    refine c_isSlot ?_
    dsimp only [gPush]
    first | refine U_ifB_eq (tgt := 14) dX9_alike_4 (by decide) (by with_reducible rfl) (fun c4 => ?_) (fun c4 => ?_) | refine U_if_eq (tgt := 14) dX9_alike_4 (by decide) (by with_reducible rfl) (by omega) (fun c4 => ?_) (fun c4 => ?_) | refine V_if_eq (tgt := 14) dX9_alike_4 (by decide) (fun c4 => ?_) (fun c4 => ?_)
    · skip
      refine V_iconst (v := -1) dX9_alike_14 (by decide) ?_
      refine V_iret dX9_alike_15 rfl rfl ?_
      exact hQ9
    · skip
      refine V_iloadn2 dX9_alike_7 ?_
      refine V_callS1 (μ' := mX9_isSlot) dX9_alike_8 okX9_isSlot lX9_91 (Nat.le_of_ble_eq_true rfl) (Nat.le_of_ble_eq_true rfl) (by omega) ?_
      refine c_isSlot ?_
      dsimp only [gPush]
      first | refine U_ifB_ne (tgt := 16) dX9_alike_11 (by decide) (by with_reducible rfl) (fun c11 => ?_) (fun c11 => ?_) | refine U_if_ne (tgt := 16) dX9_alike_11 (by decide) (by with_reducible rfl) (by omega) (fun c11 => ?_) (fun c11 => ?_) | refine V_if_ne (tgt := 16) dX9_alike_11 (by decide) (fun c11 => ?_) (fun c11 => ?_)
      · skip
        exact absurd (by rw [c4, c11]; rfl) hg
      · skip
        refine V_iconst (v := -1) dX9_alike_14 (by decide) ?_
        refine V_iret dX9_alike_15 rfl rfl ?_
        exact hQ9

set_option maxRecDepth 100000 in
set_option maxHeartbeats 4000000 in
theorem c_record {x r : Int32} (hd : 4 ≤ d) (hR : RC h S) (hQ : ∀ h', RC h' S → FrC h h' → Q (some (.int (g_record S x r))) h') : V Γ mX9_record d 124 124 h 0 [some (.ref 0), some (.int x), some (.int r)] [] Q := by
  obtain ⟨hC, hW, hA, hK, hK2, hB, hSh, hFm⟩ := id hR
  have n0 := hA.1
  have hn2 := hW.1.1
  have hn5 := hW.1.2.1
  cases hg : inB x 6 with
  | false =>
    have hQ9 := hQ h hR FrC.rf
    have eq0 : g_record S x r = -1 := if_f hg
    rw [eq0] at hQ9
    refine V_iloadn1 dX9_record_0 ?_
    refine V_callS1 (μ' := mX9_isSlot) dX9_record_1 okX9_isSlot lX9_91 (Nat.le_of_ble_eq_true rfl) (Nat.le_of_ble_eq_true rfl) (by omega) ?_
    refine c_isSlot ?_
    rw [hg]
    dsimp only [gPush]
    first | refine U_ifB_ne (tgt := 9) dX9_record_4 (by decide) (by with_reducible rfl) (fun c4 => ?_) (fun c4 => ?_) | refine U_if_ne (tgt := 9) dX9_record_4 (by decide) (by with_reducible rfl) (by omega) (fun c4 => ?_) (fun c4 => ?_) | refine V_if_ne (tgt := 9) dX9_record_4 (by decide) (fun c4 => ?_) (fun c4 => ?_)
    · skip
      cases c4
    · skip
      refine V_iconst (v := -1) dX9_record_7 (by decide) ?_
      refine V_iret dX9_record_8 rfl rfl ?_
      exact hQ9
  | true =>
    obtain ⟨s, hs, rfl⟩ := inB_t (by decide) hg
    obtain ⟨hT, hWT⟩ := RC_slot hR hs
    have hwl := hWT.2.1
    have eS : tS S (nI s) = S.1.2.2.1 s := by unfold tS; rw [cN_nI (by omega)]
    have eq0 : g_record S (nI s) r = _ := if_t hg
    unfold inP at eq0
    rw [eq0, eS] at hQ
    have hne := insW_ne (S.1.2.2.1 s).2.1 (S.1.2.2.1 s).2.1.length
    have hP6 := neL_len _ hne
    rw [insW_sz] at hP6
    by_cases hz : (S.1.2.2.1 s).1 = 0
    · rw [if_pos hz] at hQ
      have hQ' := hQ h hR FrC.rf
      refine V_iloadn1 dX9_record_0 ?_
      refine V_callS1 (μ' := mX9_isSlot) dX9_record_1 okX9_isSlot lX9_91 (Nat.le_of_ble_eq_true rfl) (Nat.le_of_ble_eq_true rfl) (by omega) ?_
      refine c_isSlot ?_
      rw [hg]
      dsimp only [gPush]
      first | refine U_ifB_ne (tgt := 9) dX9_record_4 (by decide) (by with_reducible rfl) (fun c4 => ?_) (fun c4 => ?_) | refine U_if_ne (tgt := 9) dX9_record_4 (by decide) (by with_reducible rfl) (by omega) (fun c4 => ?_) (fun c4 => ?_) | refine V_if_ne (tgt := 9) dX9_record_4 (by decide) (fun c4 => ?_) (fun c4 => ?_)
      · skip
        refine V_aloadn0 dX9_record_9 ?_
        refine V_iloadn1 dX9_record_10 ?_
        refine V_callV1 (μ' := mX9_isHeld) dX9_record_11 okX9_isHeld lX9_130 rfl (by first | assumption | rfl | exact lay_s0 (by omega) | exact lay_s1 (by omega) | exact lay_s2 (by omega) | exact lay_h0 (by omega) | exact lay_h1 (by omega)) (by first | decide | omega) (Nat.le_of_ble_eq_true rfl) (Nat.le_of_ble_eq_true rfl) (by omega) ?_
        refine c_isHeld hs (CL0_0 hC) (CL1_2 hC) (CL_slot hC hs) (lay_s0 hs) hT.1 hWT.1 ?_
        dsimp only [gPush]
        first | refine U_ifB_ne (tgt := 20) dX9_record_14 (by decide) (by with_reducible rfl) (fun c14 => ?_) (fun c14 => ?_) | refine U_if_ne (tgt := 20) dX9_record_14 (by decide) (by with_reducible rfl) (by omega) (fun c14 => ?_) (fun c14 => ?_) | refine V_if_ne (tgt := 20) dX9_record_14 (by decide) (fun c14 => ?_) (fun c14 => ?_)
        · skip
          exact absurd (of_decide_eq_true c14) (fun q => q hz)
        · skip
          refine V_bipush (v := -11) dX9_record_17 (by decide) ?_
          refine V_iret dX9_record_19 rfl rfl ?_
          exact hQ'
      · skip
        cases c4
    rw [if_neg hz] at hQ
    cases hr : inB r (insW (S.1.2.2.1 s).2.1 (S.1.2.2.1 s).2.1.length).length with
    | true =>
      obtain ⟨q, hq, rfl⟩ := inB_t (by omega) hr
      rw [if_t hr, cN_nI (by omega)] at hQ
      refine V_iloadn1 dX9_record_0 ?_
      refine V_callS1 (μ' := mX9_isSlot) dX9_record_1 okX9_isSlot lX9_91 (Nat.le_of_ble_eq_true rfl) (Nat.le_of_ble_eq_true rfl) (by omega) ?_
      refine c_isSlot ?_
      rw [hg]
      dsimp only [gPush]
      first | refine U_ifB_ne (tgt := 9) dX9_record_4 (by decide) (by with_reducible rfl) (fun c4 => ?_) (fun c4 => ?_) | refine U_if_ne (tgt := 9) dX9_record_4 (by decide) (by with_reducible rfl) (by omega) (fun c4 => ?_) (fun c4 => ?_) | refine V_if_ne (tgt := 9) dX9_record_4 (by decide) (fun c4 => ?_) (fun c4 => ?_)
      · skip
        refine V_aloadn0 dX9_record_9 ?_
        refine V_iloadn1 dX9_record_10 ?_
        refine V_callV1 (μ' := mX9_isHeld) dX9_record_11 okX9_isHeld lX9_130 rfl (by first | assumption | rfl | exact lay_s0 (by omega) | exact lay_s1 (by omega) | exact lay_s2 (by omega) | exact lay_h0 (by omega) | exact lay_h1 (by omega)) (by first | decide | omega) (Nat.le_of_ble_eq_true rfl) (Nat.le_of_ble_eq_true rfl) (by omega) ?_
        refine c_isHeld hs (CL0_0 hC) (CL1_2 hC) (CL_slot hC hs) (lay_s0 hs) hT.1 hWT.1 ?_
        dsimp only [gPush]
        first | refine U_ifB_ne (tgt := 20) dX9_record_14 (by decide) (by with_reducible rfl) (fun c14 => ?_) (fun c14 => ?_) | refine U_if_ne (tgt := 20) dX9_record_14 (by decide) (by with_reducible rfl) (by omega) (fun c14 => ?_) (fun c14 => ?_) | refine V_if_ne (tgt := 20) dX9_record_14 (by decide) (fun c14 => ?_) (fun c14 => ?_)
        · skip
          refine V_aloadn0 dX9_record_20 ?_
          refine V_getR dX9_record_21 fX9_42 (by first | assumption | rfl | exact lay_s0 (by omega) | exact lay_s1 (by omega) | exact lay_s2 (by omega) | exact lay_h0 (by omega) | exact lay_h1 (by omega)) (by first | decide | omega) (by first | assumption | exact CL0_0 (by assumption) | exact CL0_1 (by assumption) | exact CL0_3 (by assumption) | exact CL0_4 (by assumption) | exact CL0_5 (by assumption) | exact CL0_6 (by assumption) | exact CL0_7 (by assumption) | exact CL0_8 (by assumption) | exact CL0_9 (by assumption) | exact CL0_10 (by assumption) | exact CL0_11 (by assumption) | exact CL0_12 (by assumption) | exact CL0_13 (by assumption) | exact CL1_2 (by assumption) | exact CL1_3 (by assumption) | exact CL80_2 (by assumption) | exact CL_slot (by assumption) (by omega) | exact (CL_sh (by assumption) (by omega)).1 | exact (CL_sh (by assumption) (by omega)).2.1 | rfl) ?_
          refine V_aloadn0 dX9_record_24 ?_
          refine V_getR dX9_record_25 fX9_10 (by first | assumption | rfl | exact lay_s0 (by omega) | exact lay_s1 (by omega) | exact lay_s2 (by omega) | exact lay_h0 (by omega) | exact lay_h1 (by omega)) (by first | decide | omega) (by first | assumption | exact CL0_0 (by assumption) | exact CL0_1 (by assumption) | exact CL0_3 (by assumption) | exact CL0_4 (by assumption) | exact CL0_5 (by assumption) | exact CL0_6 (by assumption) | exact CL0_7 (by assumption) | exact CL0_8 (by assumption) | exact CL0_9 (by assumption) | exact CL0_10 (by assumption) | exact CL0_11 (by assumption) | exact CL0_12 (by assumption) | exact CL0_13 (by assumption) | exact CL1_2 (by assumption) | exact CL1_3 (by assumption) | exact CL80_2 (by assumption) | exact CL_slot (by assumption) (by omega) | exact (CL_sh (by assumption) (by omega)).1 | exact (CL_sh (by assumption) (by omega)).2.1 | rfl) ?_
          refine V_getR dX9_record_28 fX9_99 (by first | assumption | rfl | exact lay_s0 (by omega) | exact lay_s1 (by omega) | exact lay_s2 (by omega) | exact lay_h0 (by omega) | exact lay_h1 (by omega)) (by first | decide | omega) (by first | assumption | exact CL0_0 (by assumption) | exact CL0_1 (by assumption) | exact CL0_3 (by assumption) | exact CL0_4 (by assumption) | exact CL0_5 (by assumption) | exact CL0_6 (by assumption) | exact CL0_7 (by assumption) | exact CL0_8 (by assumption) | exact CL0_9 (by assumption) | exact CL0_10 (by assumption) | exact CL0_11 (by assumption) | exact CL0_12 (by assumption) | exact CL0_13 (by assumption) | exact CL1_2 (by assumption) | exact CL1_3 (by assumption) | exact CL80_2 (by assumption) | exact CL_slot (by assumption) (by omega) | exact (CL_sh (by assumption) (by omega)).1 | exact (CL_sh (by assumption) (by omega)).2.1 | rfl) ?_
          refine V_iloadn1 dX9_record_31 ?_
          refine U_aald dX9_record_32 (by with_reducible rfl) (by first | assumption | rfl | exact lay_s0 (by omega) | exact lay_s1 (by omega) | exact lay_s2 (by omega) | exact lay_h0 (by omega) | exact lay_h1 (by omega)) (by decide) (by first | decide | omega) (by omega) (by first | assumption | exact CL0_0 (by assumption) | exact CL0_1 (by assumption) | exact CL0_3 (by assumption) | exact CL0_4 (by assumption) | exact CL0_5 (by assumption) | exact CL0_6 (by assumption) | exact CL0_7 (by assumption) | exact CL0_8 (by assumption) | exact CL0_9 (by assumption) | exact CL0_10 (by assumption) | exact CL0_11 (by assumption) | exact CL0_12 (by assumption) | exact CL0_13 (by assumption) | exact CL1_2 (by assumption) | exact CL1_3 (by assumption) | exact CL80_2 (by assumption) | exact CL_slot (by assumption) (by omega) | exact (CL_sh (by assumption) (by omega)).1 | exact (CL_sh (by assumption) (by omega)).2.1 | rfl) ?_
          refine V_callV1 (μ' := mX2_insertAll) dX9_record_33 okX2_insertAll lX9_218 rfl (by first | assumption | rfl | exact lay_s0 (by omega) | exact lay_s1 (by omega) | exact lay_s2 (by omega) | exact lay_h0 (by omega) | exact lay_h1 (by omega)) (by first | decide | omega) (Nat.le_of_ble_eq_true rfl) (Nat.le_of_ble_eq_true rfl) (by omega) ?_
          refine c_insertAll (by omega) (CL_G hC) (CL_T hC hs) hT (by omega) (fun h1 hG1 hF1 => ?_)
          have hC1 := CLay_eq hC hF1.2.2
          have g0 := hG1.1
          have hR1 := RC_S hR (h' := h1) ⟨fun a ha => hF1.1 a (by omega), by rw [hF1.1 43 (by omega)], fun a ha => by rw [hF1.2.1], hC1⟩
          dsimp only [gPush]
          refine V_iloadn2 dX9_record_36 ?_
          refine V_if_lt (tgt := 51) dX9_record_37 (by decide) (fun c37 => ?_) (fun c37 => ?_)
          · skip
            exact absurd c37 (nI_pos (by omega))
          · skip
            refine V_iloadn2 dX9_record_40 ?_
            refine V_aloadn0 dX9_record_41 ?_
            refine V_getR dX9_record_42 fX9_42 (by first | assumption | rfl | exact lay_s0 (by omega) | exact lay_s1 (by omega) | exact lay_s2 (by omega) | exact lay_h0 (by omega) | exact lay_h1 (by omega)) (by first | decide | omega) (by first | assumption | exact CL0_0 (by assumption) | exact CL0_1 (by assumption) | exact CL0_3 (by assumption) | exact CL0_4 (by assumption) | exact CL0_5 (by assumption) | exact CL0_6 (by assumption) | exact CL0_7 (by assumption) | exact CL0_8 (by assumption) | exact CL0_9 (by assumption) | exact CL0_10 (by assumption) | exact CL0_11 (by assumption) | exact CL0_12 (by assumption) | exact CL0_13 (by assumption) | exact CL1_2 (by assumption) | exact CL1_3 (by assumption) | exact CL80_2 (by assumption) | exact CL_slot (by assumption) (by omega) | exact (CL_sh (by assumption) (by omega)).1 | exact (CL_sh (by assumption) (by omega)).2.1 | rfl) ?_
            refine V_getI dX9_record_45 fX9_221 (Or.inl rfl) (by first | assumption | rfl | exact lay_s0 (by omega) | exact lay_s1 (by omega) | exact lay_s2 (by omega) | exact lay_h0 (by omega) | exact lay_h1 (by omega)) (by first | decide | omega) (by first | assumption | exact CL0_0 (by assumption) | exact CL0_1 (by assumption) | exact CL0_3 (by assumption) | exact CL0_4 (by assumption) | exact CL0_5 (by assumption) | exact CL0_6 (by assumption) | exact CL0_7 (by assumption) | exact CL0_8 (by assumption) | exact CL0_9 (by assumption) | exact CL0_10 (by assumption) | exact CL0_11 (by assumption) | exact CL0_12 (by assumption) | exact CL0_13 (by assumption) | exact CL1_2 (by assumption) | exact CL1_3 (by assumption) | exact CL80_2 (by assumption) | exact CL_slot (by assumption) (by omega) | exact (CL_sh (by assumption) (by omega)).1 | exact (CL_sh (by assumption) (by omega)).2.1 | rfl) ?_
            first | refine U_icmp_lt (tgt := 54) dX9_record_48 (by decide) (by with_reducible rfl) (by with_reducible rfl) (by omega) (by omega) (fun c48 => ?_) (fun c48 => ?_) | refine V_icmp_lt (tgt := 54) dX9_record_48 (by decide) (fun c48 => ?_) (fun c48 => ?_)
            · skip
              refine V_aloadn0 dX9_record_54 ?_
              refine V_getR dX9_record_55 fX9_42 (by first | assumption | rfl | exact lay_s0 (by omega) | exact lay_s1 (by omega) | exact lay_s2 (by omega) | exact lay_h0 (by omega) | exact lay_h1 (by omega)) (by first | decide | omega) (by first | assumption | exact CL0_0 (by assumption) | exact CL0_1 (by assumption) | exact CL0_3 (by assumption) | exact CL0_4 (by assumption) | exact CL0_5 (by assumption) | exact CL0_6 (by assumption) | exact CL0_7 (by assumption) | exact CL0_8 (by assumption) | exact CL0_9 (by assumption) | exact CL0_10 (by assumption) | exact CL0_11 (by assumption) | exact CL0_12 (by assumption) | exact CL0_13 (by assumption) | exact CL1_2 (by assumption) | exact CL1_3 (by assumption) | exact CL80_2 (by assumption) | exact CL_slot (by assumption) (by omega) | exact (CL_sh (by assumption) (by omega)).1 | exact (CL_sh (by assumption) (by omega)).2.1 | rfl) ?_
              refine V_iloadn2 dX9_record_58 ?_
              refine V_callV1 (μ' := mX2_turnsOfRow) dX9_record_59 okX2_turnsOfRow lX9_222 rfl (by first | assumption | rfl | exact lay_s0 (by omega) | exact lay_s1 (by omega) | exact lay_s2 (by omega) | exact lay_h0 (by omega) | exact lay_h1 (by omega)) (by first | decide | omega) (Nat.le_of_ble_eq_true rfl) (Nat.le_of_ble_eq_true rfl) (by omega) ?_
              refine c_turnsOfRow (CL_G hC1) hG1 (by omega) ?_
              dsimp only [gPush]
              refine V_iret dX9_record_62 rfl rfl ?_
              exact hQ h1 hR1 (hF1.toC (by omega))
            · skip
              omega
        · skip
          exact absurd (of_decide_eq_false c14) (fun q => q hz)
      · skip
        cases c4
    | false =>
      rw [if_f hr] at hQ
      refine V_iloadn1 dX9_record_0 ?_
      refine V_callS1 (μ' := mX9_isSlot) dX9_record_1 okX9_isSlot lX9_91 (Nat.le_of_ble_eq_true rfl) (Nat.le_of_ble_eq_true rfl) (by omega) ?_
      refine c_isSlot ?_
      rw [hg]
      dsimp only [gPush]
      first | refine U_ifB_ne (tgt := 9) dX9_record_4 (by decide) (by with_reducible rfl) (fun c4 => ?_) (fun c4 => ?_) | refine U_if_ne (tgt := 9) dX9_record_4 (by decide) (by with_reducible rfl) (by omega) (fun c4 => ?_) (fun c4 => ?_) | refine V_if_ne (tgt := 9) dX9_record_4 (by decide) (fun c4 => ?_) (fun c4 => ?_)
      · skip
        refine V_aloadn0 dX9_record_9 ?_
        refine V_iloadn1 dX9_record_10 ?_
        refine V_callV1 (μ' := mX9_isHeld) dX9_record_11 okX9_isHeld lX9_130 rfl (by first | assumption | rfl | exact lay_s0 (by omega) | exact lay_s1 (by omega) | exact lay_s2 (by omega) | exact lay_h0 (by omega) | exact lay_h1 (by omega)) (by first | decide | omega) (Nat.le_of_ble_eq_true rfl) (Nat.le_of_ble_eq_true rfl) (by omega) ?_
        refine c_isHeld hs (CL0_0 hC) (CL1_2 hC) (CL_slot hC hs) (lay_s0 hs) hT.1 hWT.1 ?_
        dsimp only [gPush]
        first | refine U_ifB_ne (tgt := 20) dX9_record_14 (by decide) (by with_reducible rfl) (fun c14 => ?_) (fun c14 => ?_) | refine U_if_ne (tgt := 20) dX9_record_14 (by decide) (by with_reducible rfl) (by omega) (fun c14 => ?_) (fun c14 => ?_) | refine V_if_ne (tgt := 20) dX9_record_14 (by decide) (fun c14 => ?_) (fun c14 => ?_)
        · skip
          refine V_aloadn0 dX9_record_20 ?_
          refine V_getR dX9_record_21 fX9_42 (by first | assumption | rfl | exact lay_s0 (by omega) | exact lay_s1 (by omega) | exact lay_s2 (by omega) | exact lay_h0 (by omega) | exact lay_h1 (by omega)) (by first | decide | omega) (by first | assumption | exact CL0_0 (by assumption) | exact CL0_1 (by assumption) | exact CL0_3 (by assumption) | exact CL0_4 (by assumption) | exact CL0_5 (by assumption) | exact CL0_6 (by assumption) | exact CL0_7 (by assumption) | exact CL0_8 (by assumption) | exact CL0_9 (by assumption) | exact CL0_10 (by assumption) | exact CL0_11 (by assumption) | exact CL0_12 (by assumption) | exact CL0_13 (by assumption) | exact CL1_2 (by assumption) | exact CL1_3 (by assumption) | exact CL80_2 (by assumption) | exact CL_slot (by assumption) (by omega) | exact (CL_sh (by assumption) (by omega)).1 | exact (CL_sh (by assumption) (by omega)).2.1 | rfl) ?_
          refine V_aloadn0 dX9_record_24 ?_
          refine V_getR dX9_record_25 fX9_10 (by first | assumption | rfl | exact lay_s0 (by omega) | exact lay_s1 (by omega) | exact lay_s2 (by omega) | exact lay_h0 (by omega) | exact lay_h1 (by omega)) (by first | decide | omega) (by first | assumption | exact CL0_0 (by assumption) | exact CL0_1 (by assumption) | exact CL0_3 (by assumption) | exact CL0_4 (by assumption) | exact CL0_5 (by assumption) | exact CL0_6 (by assumption) | exact CL0_7 (by assumption) | exact CL0_8 (by assumption) | exact CL0_9 (by assumption) | exact CL0_10 (by assumption) | exact CL0_11 (by assumption) | exact CL0_12 (by assumption) | exact CL0_13 (by assumption) | exact CL1_2 (by assumption) | exact CL1_3 (by assumption) | exact CL80_2 (by assumption) | exact CL_slot (by assumption) (by omega) | exact (CL_sh (by assumption) (by omega)).1 | exact (CL_sh (by assumption) (by omega)).2.1 | rfl) ?_
          refine V_getR dX9_record_28 fX9_99 (by first | assumption | rfl | exact lay_s0 (by omega) | exact lay_s1 (by omega) | exact lay_s2 (by omega) | exact lay_h0 (by omega) | exact lay_h1 (by omega)) (by first | decide | omega) (by first | assumption | exact CL0_0 (by assumption) | exact CL0_1 (by assumption) | exact CL0_3 (by assumption) | exact CL0_4 (by assumption) | exact CL0_5 (by assumption) | exact CL0_6 (by assumption) | exact CL0_7 (by assumption) | exact CL0_8 (by assumption) | exact CL0_9 (by assumption) | exact CL0_10 (by assumption) | exact CL0_11 (by assumption) | exact CL0_12 (by assumption) | exact CL0_13 (by assumption) | exact CL1_2 (by assumption) | exact CL1_3 (by assumption) | exact CL80_2 (by assumption) | exact CL_slot (by assumption) (by omega) | exact (CL_sh (by assumption) (by omega)).1 | exact (CL_sh (by assumption) (by omega)).2.1 | rfl) ?_
          refine V_iloadn1 dX9_record_31 ?_
          refine U_aald dX9_record_32 (by with_reducible rfl) (by first | assumption | rfl | exact lay_s0 (by omega) | exact lay_s1 (by omega) | exact lay_s2 (by omega) | exact lay_h0 (by omega) | exact lay_h1 (by omega)) (by decide) (by first | decide | omega) (by omega) (by first | assumption | exact CL0_0 (by assumption) | exact CL0_1 (by assumption) | exact CL0_3 (by assumption) | exact CL0_4 (by assumption) | exact CL0_5 (by assumption) | exact CL0_6 (by assumption) | exact CL0_7 (by assumption) | exact CL0_8 (by assumption) | exact CL0_9 (by assumption) | exact CL0_10 (by assumption) | exact CL0_11 (by assumption) | exact CL0_12 (by assumption) | exact CL0_13 (by assumption) | exact CL1_2 (by assumption) | exact CL1_3 (by assumption) | exact CL80_2 (by assumption) | exact CL_slot (by assumption) (by omega) | exact (CL_sh (by assumption) (by omega)).1 | exact (CL_sh (by assumption) (by omega)).2.1 | rfl) ?_
          refine V_callV1 (μ' := mX2_insertAll) dX9_record_33 okX2_insertAll lX9_218 rfl (by first | assumption | rfl | exact lay_s0 (by omega) | exact lay_s1 (by omega) | exact lay_s2 (by omega) | exact lay_h0 (by omega) | exact lay_h1 (by omega)) (by first | decide | omega) (Nat.le_of_ble_eq_true rfl) (Nat.le_of_ble_eq_true rfl) (by omega) ?_
          refine c_insertAll (by omega) (CL_G hC) (CL_T hC hs) hT (by omega) (fun h1 hG1 hF1 => ?_)
          have hC1 := CLay_eq hC hF1.2.2
          have g0 := hG1.1
          have hR1 := RC_S hR (h' := h1) ⟨fun a ha => hF1.1 a (by omega), by rw [hF1.1 43 (by omega)], fun a ha => by rw [hF1.2.1], hC1⟩
          dsimp only [gPush]
          refine V_iloadn2 dX9_record_36 ?_
          refine V_if_lt (tgt := 51) dX9_record_37 (by decide) (fun c37 => ?_) (fun c37 => ?_)
          · skip
            refine V_bipush (v := -12) dX9_record_51 (by decide) ?_
            refine V_iret dX9_record_53 rfl rfl ?_
            exact hQ h1 hR1 (hF1.toC (by omega))
          · skip
            refine V_iloadn2 dX9_record_40 ?_
            refine V_aloadn0 dX9_record_41 ?_
            refine V_getR dX9_record_42 fX9_42 (by first | assumption | rfl | exact lay_s0 (by omega) | exact lay_s1 (by omega) | exact lay_s2 (by omega) | exact lay_h0 (by omega) | exact lay_h1 (by omega)) (by first | decide | omega) (by first | assumption | exact CL0_0 (by assumption) | exact CL0_1 (by assumption) | exact CL0_3 (by assumption) | exact CL0_4 (by assumption) | exact CL0_5 (by assumption) | exact CL0_6 (by assumption) | exact CL0_7 (by assumption) | exact CL0_8 (by assumption) | exact CL0_9 (by assumption) | exact CL0_10 (by assumption) | exact CL0_11 (by assumption) | exact CL0_12 (by assumption) | exact CL0_13 (by assumption) | exact CL1_2 (by assumption) | exact CL1_3 (by assumption) | exact CL80_2 (by assumption) | exact CL_slot (by assumption) (by omega) | exact (CL_sh (by assumption) (by omega)).1 | exact (CL_sh (by assumption) (by omega)).2.1 | rfl) ?_
            refine V_getI dX9_record_45 fX9_221 (Or.inl rfl) (by first | assumption | rfl | exact lay_s0 (by omega) | exact lay_s1 (by omega) | exact lay_s2 (by omega) | exact lay_h0 (by omega) | exact lay_h1 (by omega)) (by first | decide | omega) (by first | assumption | exact CL0_0 (by assumption) | exact CL0_1 (by assumption) | exact CL0_3 (by assumption) | exact CL0_4 (by assumption) | exact CL0_5 (by assumption) | exact CL0_6 (by assumption) | exact CL0_7 (by assumption) | exact CL0_8 (by assumption) | exact CL0_9 (by assumption) | exact CL0_10 (by assumption) | exact CL0_11 (by assumption) | exact CL0_12 (by assumption) | exact CL0_13 (by assumption) | exact CL1_2 (by assumption) | exact CL1_3 (by assumption) | exact CL80_2 (by assumption) | exact CL_slot (by assumption) (by omega) | exact (CL_sh (by assumption) (by omega)).1 | exact (CL_sh (by assumption) (by omega)).2.1 | rfl) ?_
            first | refine U_icmp_lt (tgt := 54) dX9_record_48 (by decide) (by with_reducible rfl) (by with_reducible rfl) (by omega) (by omega) (fun c48 => ?_) (fun c48 => ?_) | refine V_icmp_lt (tgt := 54) dX9_record_48 (by decide) (fun c48 => ?_) (fun c48 => ?_)
            · skip
              exact absurd hr (by unfold inB; rw [decide_eq_true (Int32.not_lt.mp c37), decide_eq_true c48]; exact Bool.noConfusion)
            · skip
              refine V_bipush (v := -12) dX9_record_51 (by decide) ?_
              refine V_iret dX9_record_53 rfl rfl ?_
              exact hQ h1 hR1 (hF1.toC (by omega))
        · skip
          exact absurd (of_decide_eq_false c14) (fun q => q hz)
      · skip
        cases c4

set_option maxRecDepth 100000 in
set_option maxHeartbeats 4000000 in
theorem c_act {x a i y : Int32} (hd : 6 ≤ d) (hR : RC h S) (hQ : ∀ h', RC h' (f_act S x a i y).2 → FrC h h' → Q (some (.int (f_act S x a i y).1)) h') : V Γ mX9_act d 124 124 h 0 [some (.ref 0), some (.int x), some (.int a), some (.int i), some (.int y), none] [] Q := by
  obtain ⟨hC, hW, hA, hK, hK2, hB, hSh, hFm⟩ := id hR
  have n0 := hA.1
  have hn2 := hW.1.1
  have hn5 := hW.1.2.1
  by_cases hg : (inB x 6 && (inB y 6 && (inR a 0 5 && (decide (a = nI 5) || inS i S.1.1)))) = true
  · have hg2 := hg
    rw [Bool.and_eq_true, Bool.and_eq_true, Bool.and_eq_true] at hg2
    obtain ⟨s, hs, rfl⟩ := inB_t (by decide) hg2.1
    obtain ⟨q, hq, rfl⟩ := inB_t (by decide) hg2.2.1
    obtain ⟨k, k0, k5, rfl⟩ := inR_t (by decide) (by decide) hg2.2.2.1
    have hst := hg2.2.2.2
    obtain ⟨hT, hWT⟩ := RC_slot hR hs
    have hwl := hWT.2.1
    have hlt := hWT.2.2.1
    have eS : tS S (nI s) = S.1.2.2.1 s := by unfold tS; rw [cN_nI (by omega)]
    have eq0 : f_act S (nI s) (nI k) i (nI q) = _ := if_t hg
    rw [eq0, eS, cN_nI (by omega), cN_nI (by omega)] at hQ
    have hi : k ≠ 5 → i = nI (iA (nI k) i) ∧ 1 ≤ iA (nI k) i ∧ iA (nI k) i < S.1.1 := fun k5 => by
      have hk : ¬ nI k = nI 5 := fun z => k5 ((nI_eq (by omega) (by omega)).mp z)
      rw [decide_eq_false hk, Bool.false_or] at hst
      obtain ⟨i', i1, i2, rfl⟩ := inS_t (by omega) hst
      unfold iA
      rw [if_neg hk, cN_nI (by omega)]
      exact ⟨rfl, i1, i2⟩
    have hi8 : iA (nI k) i ≤ 8 := by
      by_cases k5 : k = 5
      · subst k5; unfold iA; rw [if_pos rfl]; omega
      · have := hi k5; omega
    generalize iA (nI k) i = j at hi hi8 hQ
    have from41 : V Γ mX9_act d 124 124 h 41 [some (.ref 0), some (.int (nI s)), some (.int (nI k)), some (.int i), some (.int (nI q)), none] [] Q := by
      refine V_aloadn0 dX9_act_41 ?_
      refine V_iloadn1 dX9_act_42 ?_
      refine V_callV1 (μ' := mX9_isHeld) dX9_act_43 okX9_isHeld lX9_130 rfl (by first | assumption | rfl | exact lay_s0 (by omega) | exact lay_s1 (by omega) | exact lay_s2 (by omega) | exact lay_h0 (by omega) | exact lay_h1 (by omega)) (by first | decide | omega) (Nat.le_of_ble_eq_true rfl) (Nat.le_of_ble_eq_true rfl) (by omega) ?_
      refine c_isHeld hs (CL0_0 hC) (CL1_2 hC) (CL_slot hC hs) (lay_s0 hs) hT.1 hWT.1 ?_
      dsimp only [gPush]
      first | refine U_ifB_ne (tgt := 52) dX9_act_46 (by decide) (by with_reducible rfl) (fun c46 => ?_) (fun c46 => ?_) | refine U_if_ne (tgt := 52) dX9_act_46 (by decide) (by with_reducible rfl) (by omega) (fun c46 => ?_) (fun c46 => ?_) | refine V_if_ne (tgt := 52) dX9_act_46 (by decide) (fun c46 => ?_) (fun c46 => ?_)
      · skip
        have hz : ¬ (S.1.2.2.1 s).1 = 0 := of_decide_eq_true c46
        rw [if_neg hz] at hQ
        refine V_aloadn0 dX9_act_52 ?_
        refine V_getR dX9_act_53 fX9_76 (by first | assumption | rfl | exact lay_s0 (by omega) | exact lay_s1 (by omega) | exact lay_s2 (by omega) | exact lay_h0 (by omega) | exact lay_h1 (by omega)) (by first | decide | omega) (by first | assumption | exact CL0_0 (by assumption) | exact CL0_1 (by assumption) | exact CL0_3 (by assumption) | exact CL0_4 (by assumption) | exact CL0_5 (by assumption) | exact CL0_6 (by assumption) | exact CL0_7 (by assumption) | exact CL0_8 (by assumption) | exact CL0_9 (by assumption) | exact CL0_10 (by assumption) | exact CL0_11 (by assumption) | exact CL0_12 (by assumption) | exact CL0_13 (by assumption) | exact CL1_2 (by assumption) | exact CL1_3 (by assumption) | exact CL80_2 (by assumption) | exact CL_slot (by assumption) (by omega) | exact (CL_sh (by assumption) (by omega)).1 | exact (CL_sh (by assumption) (by omega)).2.1 | rfl) ?_
        refine V_aloadn0 dX9_act_56 ?_
        refine V_getR dX9_act_57 fX9_10 (by first | assumption | rfl | exact lay_s0 (by omega) | exact lay_s1 (by omega) | exact lay_s2 (by omega) | exact lay_h0 (by omega) | exact lay_h1 (by omega)) (by first | decide | omega) (by first | assumption | exact CL0_0 (by assumption) | exact CL0_1 (by assumption) | exact CL0_3 (by assumption) | exact CL0_4 (by assumption) | exact CL0_5 (by assumption) | exact CL0_6 (by assumption) | exact CL0_7 (by assumption) | exact CL0_8 (by assumption) | exact CL0_9 (by assumption) | exact CL0_10 (by assumption) | exact CL0_11 (by assumption) | exact CL0_12 (by assumption) | exact CL0_13 (by assumption) | exact CL1_2 (by assumption) | exact CL1_3 (by assumption) | exact CL80_2 (by assumption) | exact CL_slot (by assumption) (by omega) | exact (CL_sh (by assumption) (by omega)).1 | exact (CL_sh (by assumption) (by omega)).2.1 | rfl) ?_
        refine V_getR dX9_act_60 fX9_99 (by first | assumption | rfl | exact lay_s0 (by omega) | exact lay_s1 (by omega) | exact lay_s2 (by omega) | exact lay_h0 (by omega) | exact lay_h1 (by omega)) (by first | decide | omega) (by first | assumption | exact CL0_0 (by assumption) | exact CL0_1 (by assumption) | exact CL0_3 (by assumption) | exact CL0_4 (by assumption) | exact CL0_5 (by assumption) | exact CL0_6 (by assumption) | exact CL0_7 (by assumption) | exact CL0_8 (by assumption) | exact CL0_9 (by assumption) | exact CL0_10 (by assumption) | exact CL0_11 (by assumption) | exact CL0_12 (by assumption) | exact CL0_13 (by assumption) | exact CL1_2 (by assumption) | exact CL1_3 (by assumption) | exact CL80_2 (by assumption) | exact CL_slot (by assumption) (by omega) | exact (CL_sh (by assumption) (by omega)).1 | exact (CL_sh (by assumption) (by omega)).2.1 | rfl) ?_
        refine V_iloadn1 dX9_act_63 ?_
        refine U_aald dX9_act_64 (by with_reducible rfl) (by first | assumption | rfl | exact lay_s0 (by omega) | exact lay_s1 (by omega) | exact lay_s2 (by omega) | exact lay_h0 (by omega) | exact lay_h1 (by omega)) (by decide) (by first | decide | omega) (by omega) (by first | assumption | exact CL0_0 (by assumption) | exact CL0_1 (by assumption) | exact CL0_3 (by assumption) | exact CL0_4 (by assumption) | exact CL0_5 (by assumption) | exact CL0_6 (by assumption) | exact CL0_7 (by assumption) | exact CL0_8 (by assumption) | exact CL0_9 (by assumption) | exact CL0_10 (by assumption) | exact CL0_11 (by assumption) | exact CL0_12 (by assumption) | exact CL0_13 (by assumption) | exact CL1_2 (by assumption) | exact CL1_3 (by assumption) | exact CL80_2 (by assumption) | exact CL_slot (by assumption) (by omega) | exact (CL_sh (by assumption) (by omega)).1 | exact (CL_sh (by assumption) (by omega)).2.1 | rfl) ?_
        refine V_callV1 (μ' := mX8_becomeLike) dX9_act_65 okX8_becomeLike lX9_103 rfl (by first | assumption | rfl | exact lay_s0 (by omega) | exact lay_s1 (by omega) | exact lay_s2 (by omega) | exact lay_h0 (by omega) | exact lay_h1 (by omega)) (by first | decide | omega) (Nat.le_of_ble_eq_true rfl) (Nat.le_of_ble_eq_true rfl) (by omega) ?_
        refine c_becomeLike (by omega) (CL_80 hC) (CL_T hC hs) hT (by omega) (fun h1 hT1 hF1 => ?_)
        have hC1 := CLay_eq hC hF1.2.2
        have n1 : gI h1 1 0 = nI S.1.1 := by rw [hF1.1 1 (by omega)]; exact n0
        dsimp only [gPush]
        refine V_aloadn0 dX9_act_68 ?_
        refine V_getR dX9_act_69 fX9_35 (by first | assumption | rfl | exact lay_s0 (by omega) | exact lay_s1 (by omega) | exact lay_s2 (by omega) | exact lay_h0 (by omega) | exact lay_h1 (by omega)) (by first | decide | omega) (by first | assumption | exact CL0_0 (by assumption) | exact CL0_1 (by assumption) | exact CL0_3 (by assumption) | exact CL0_4 (by assumption) | exact CL0_5 (by assumption) | exact CL0_6 (by assumption) | exact CL0_7 (by assumption) | exact CL0_8 (by assumption) | exact CL0_9 (by assumption) | exact CL0_10 (by assumption) | exact CL0_11 (by assumption) | exact CL0_12 (by assumption) | exact CL0_13 (by assumption) | exact CL1_2 (by assumption) | exact CL1_3 (by assumption) | exact CL80_2 (by assumption) | exact CL_slot (by assumption) (by omega) | exact (CL_sh (by assumption) (by omega)).1 | exact (CL_sh (by assumption) (by omega)).2.1 | rfl) ?_
        refine V_iloadn2 dX9_act_72 ?_
        refine V_aloadn0 dX9_act_73 ?_
        refine V_getR dX9_act_74 fX9_76 (by first | assumption | rfl | exact lay_s0 (by omega) | exact lay_s1 (by omega) | exact lay_s2 (by omega) | exact lay_h0 (by omega) | exact lay_h1 (by omega)) (by first | decide | omega) (by first | assumption | exact CL0_0 (by assumption) | exact CL0_1 (by assumption) | exact CL0_3 (by assumption) | exact CL0_4 (by assumption) | exact CL0_5 (by assumption) | exact CL0_6 (by assumption) | exact CL0_7 (by assumption) | exact CL0_8 (by assumption) | exact CL0_9 (by assumption) | exact CL0_10 (by assumption) | exact CL0_11 (by assumption) | exact CL0_12 (by assumption) | exact CL0_13 (by assumption) | exact CL1_2 (by assumption) | exact CL1_3 (by assumption) | exact CL80_2 (by assumption) | exact CL_slot (by assumption) (by omega) | exact (CL_sh (by assumption) (by omega)).1 | exact (CL_sh (by assumption) (by omega)).2.1 | rfl) ?_
        refine V_iloadn3 dX9_act_77 ?_
        refine V_aloadn0 dX9_act_78 ?_
        refine V_getR dX9_act_79 fX9_10 (by first | assumption | rfl | exact lay_s0 (by omega) | exact lay_s1 (by omega) | exact lay_s2 (by omega) | exact lay_h0 (by omega) | exact lay_h1 (by omega)) (by first | decide | omega) (by first | assumption | exact CL0_0 (by assumption) | exact CL0_1 (by assumption) | exact CL0_3 (by assumption) | exact CL0_4 (by assumption) | exact CL0_5 (by assumption) | exact CL0_6 (by assumption) | exact CL0_7 (by assumption) | exact CL0_8 (by assumption) | exact CL0_9 (by assumption) | exact CL0_10 (by assumption) | exact CL0_11 (by assumption) | exact CL0_12 (by assumption) | exact CL0_13 (by assumption) | exact CL1_2 (by assumption) | exact CL1_3 (by assumption) | exact CL80_2 (by assumption) | exact CL_slot (by assumption) (by omega) | exact (CL_sh (by assumption) (by omega)).1 | exact (CL_sh (by assumption) (by omega)).2.1 | rfl) ?_
        refine V_getI dX9_act_82 fX9_84 (Or.inl rfl) (by first | assumption | rfl | exact lay_s0 (by omega) | exact lay_s1 (by omega) | exact lay_s2 (by omega) | exact lay_h0 (by omega) | exact lay_h1 (by omega)) (by first | decide | omega) (by first | assumption | exact CL0_0 (by assumption) | exact CL0_1 (by assumption) | exact CL0_3 (by assumption) | exact CL0_4 (by assumption) | exact CL0_5 (by assumption) | exact CL0_6 (by assumption) | exact CL0_7 (by assumption) | exact CL0_8 (by assumption) | exact CL0_9 (by assumption) | exact CL0_10 (by assumption) | exact CL0_11 (by assumption) | exact CL0_12 (by assumption) | exact CL0_13 (by assumption) | exact CL1_2 (by assumption) | exact CL1_3 (by assumption) | exact CL80_2 (by assumption) | exact CL_slot (by assumption) (by omega) | exact (CL_sh (by assumption) (by omega)).1 | exact (CL_sh (by assumption) (by omega)).2.1 | rfl) ?_
        refine V_callV4 (μ' := mX3_perform) dX9_act_85 okX3_perform lX9_166 rfl (by first | assumption | rfl | exact lay_s0 (by omega) | exact lay_s1 (by omega) | exact lay_s2 (by omega) | exact lay_h0 (by omega) | exact lay_h1 (by omega)) (by first | decide | omega) (Nat.le_of_ble_eq_true rfl) (Nat.le_of_ble_eq_true rfl) (by omega) ?_
        refine c_perform (i := j) (by omega) (CL_ML hC1) (CL_80 hC1) hT1 (by omega) (by omega) (fun z => (hi z).1) hi8 hn5 (fun p hp => (hlt p hp).2) (fun h2 hT2 hF2 => ?_)
        have hC2 := CLay_eq hC1 hF2.2.2
        have hR2 := RC_S hR (h' := h2) ⟨fun a ha => by rw [hF2.1 a (by omega) (by omega), hF1.1 a (by omega)], by rw [hF2.1 43 (by omega) (by omega), hF1.1 43 (by omega)], fun a ha => by rw [hF2.2.1, hF1.2.1], hC2⟩
        have f2 := (hF1.toC (by omega)).tr (hF2.toC (by omega))
        have hWp := WT_pf (act := k) (i := j) hWT hz (fun z => (hi z).2)
        generalize hpb : pfB k (S.1.2.2.1 s).1 (S.1.2.2.1 s).2.1 (S.1.2.2.1 s).2.2 j S.1.1 = pb at hQ
        dsimp only [gPush]
        refine V_istorew5 dX9_act_88 (by decide) rfl ?_
        refine V_iloadw5 dX9_act_90 ?_
        first | refine U_ifB_ne (tgt := 107) dX9_act_92 (by decide) (by with_reducible rfl) (fun c92 => ?_) (fun c92 => ?_) | refine U_if_ne (tgt := 107) dX9_act_92 (by decide) (by with_reducible rfl) (by omega) (fun c92 => ?_) (fun c92 => ?_) | refine V_if_ne (tgt := 107) dX9_act_92 (by decide) (fun c92 => ?_) (fun c92 => ?_)
        · skip
          rw [if_neg (fun z => by rw [z.1] at c92; cases c92)] at hQ
          refine V_aloadn0 dX9_act_107 ?_
          refine V_getR dX9_act_108 fX9_10 (by first | assumption | rfl | exact lay_s0 (by omega) | exact lay_s1 (by omega) | exact lay_s2 (by omega) | exact lay_h0 (by omega) | exact lay_h1 (by omega)) (by first | decide | omega) (by first | assumption | exact CL0_0 (by assumption) | exact CL0_1 (by assumption) | exact CL0_3 (by assumption) | exact CL0_4 (by assumption) | exact CL0_5 (by assumption) | exact CL0_6 (by assumption) | exact CL0_7 (by assumption) | exact CL0_8 (by assumption) | exact CL0_9 (by assumption) | exact CL0_10 (by assumption) | exact CL0_11 (by assumption) | exact CL0_12 (by assumption) | exact CL0_13 (by assumption) | exact CL1_2 (by assumption) | exact CL1_3 (by assumption) | exact CL80_2 (by assumption) | exact CL_slot (by assumption) (by omega) | exact (CL_sh (by assumption) (by omega)).1 | exact (CL_sh (by assumption) (by omega)).2.1 | rfl) ?_
          refine V_getR dX9_act_111 fX9_99 (by first | assumption | rfl | exact lay_s0 (by omega) | exact lay_s1 (by omega) | exact lay_s2 (by omega) | exact lay_h0 (by omega) | exact lay_h1 (by omega)) (by first | decide | omega) (by first | assumption | exact CL0_0 (by assumption) | exact CL0_1 (by assumption) | exact CL0_3 (by assumption) | exact CL0_4 (by assumption) | exact CL0_5 (by assumption) | exact CL0_6 (by assumption) | exact CL0_7 (by assumption) | exact CL0_8 (by assumption) | exact CL0_9 (by assumption) | exact CL0_10 (by assumption) | exact CL0_11 (by assumption) | exact CL0_12 (by assumption) | exact CL0_13 (by assumption) | exact CL1_2 (by assumption) | exact CL1_3 (by assumption) | exact CL80_2 (by assumption) | exact CL_slot (by assumption) (by omega) | exact (CL_sh (by assumption) (by omega)).1 | exact (CL_sh (by assumption) (by omega)).2.1 | rfl) ?_
          refine V_iloadw4 dX9_act_114 ?_
          refine U_aald dX9_act_116 (by with_reducible rfl) (by first | assumption | rfl | exact lay_s0 (by omega) | exact lay_s1 (by omega) | exact lay_s2 (by omega) | exact lay_h0 (by omega) | exact lay_h1 (by omega)) (by decide) (by first | decide | omega) (by omega) (by first | assumption | exact CL0_0 (by assumption) | exact CL0_1 (by assumption) | exact CL0_3 (by assumption) | exact CL0_4 (by assumption) | exact CL0_5 (by assumption) | exact CL0_6 (by assumption) | exact CL0_7 (by assumption) | exact CL0_8 (by assumption) | exact CL0_9 (by assumption) | exact CL0_10 (by assumption) | exact CL0_11 (by assumption) | exact CL0_12 (by assumption) | exact CL0_13 (by assumption) | exact CL1_2 (by assumption) | exact CL1_3 (by assumption) | exact CL80_2 (by assumption) | exact CL_slot (by assumption) (by omega) | exact (CL_sh (by assumption) (by omega)).1 | exact (CL_sh (by assumption) (by omega)).2.1 | rfl) ?_
          refine V_aloadn0 dX9_act_117 ?_
          refine V_getR dX9_act_118 fX9_76 (by first | assumption | rfl | exact lay_s0 (by omega) | exact lay_s1 (by omega) | exact lay_s2 (by omega) | exact lay_h0 (by omega) | exact lay_h1 (by omega)) (by first | decide | omega) (by first | assumption | exact CL0_0 (by assumption) | exact CL0_1 (by assumption) | exact CL0_3 (by assumption) | exact CL0_4 (by assumption) | exact CL0_5 (by assumption) | exact CL0_6 (by assumption) | exact CL0_7 (by assumption) | exact CL0_8 (by assumption) | exact CL0_9 (by assumption) | exact CL0_10 (by assumption) | exact CL0_11 (by assumption) | exact CL0_12 (by assumption) | exact CL0_13 (by assumption) | exact CL1_2 (by assumption) | exact CL1_3 (by assumption) | exact CL80_2 (by assumption) | exact CL_slot (by assumption) (by omega) | exact (CL_sh (by assumption) (by omega)).1 | exact (CL_sh (by assumption) (by omega)).2.1 | rfl) ?_
          refine V_callV1 (μ' := mX8_becomeLike) dX9_act_121 okX8_becomeLike lX9_103 rfl (by first | assumption | rfl | exact lay_s0 (by omega) | exact lay_s1 (by omega) | exact lay_s2 (by omega) | exact lay_h0 (by omega) | exact lay_h1 (by omega)) (by first | decide | omega) (Nat.le_of_ble_eq_true rfl) (Nat.le_of_ble_eq_true rfl) (by omega) ?_
          refine c_becomeLike (by omega) (CL_T hC2 hq) (CL_80 hC2) hT2 (by omega) (fun h3 hT3 hF3 => ?_)
          have hQ' := hQ h3 (RC_put hR2 hq hWp hT3 (hF3.wd (by omega) (by omega))) (f2.tr (hF3.toC (by omega)))
          dsimp only [gPush]
          refine V_iloadw5 dX9_act_124 ?_
          first | refine U_ifB_eq (tgt := 133) dX9_act_126 (by decide) (by with_reducible rfl) (fun c126 => ?_) (fun c126 => ?_) | refine U_if_eq (tgt := 133) dX9_act_126 (by decide) (by with_reducible rfl) (by omega) (fun c126 => ?_) (fun c126 => ?_) | refine V_if_eq (tgt := 133) dX9_act_126 (by decide) (fun c126 => ?_) (fun c126 => ?_)
          · skip
            rw [c126] at hQ'
            refine V_iconst (v := nI 0) dX9_act_133 (by decide) ?_
            refine V_iret dX9_act_134 rfl rfl ?_
            exact hQ'
          · skip
            rw [c126] at hQ'
            refine V_iconst (v := nI 1) dX9_act_129 (by decide) ?_
            refine V_goto (tgt := 134) dX9_act_130 (by decide) ?_
            refine V_iret dX9_act_134 rfl rfl ?_
            exact hQ'
        · skip
          refine V_iloadn2 dX9_act_95 ?_
          first | refine U_ifB_eq (tgt := 104) dX9_act_96 (by decide) (by with_reducible rfl) (fun c96 => ?_) (fun c96 => ?_) | refine U_if_eq (tgt := 104) dX9_act_96 (by decide) (by with_reducible rfl) (by omega) (fun c96 => ?_) (fun c96 => ?_) | refine V_if_eq (tgt := 104) dX9_act_96 (by decide) (fun c96 => ?_) (fun c96 => ?_)
          · skip
            rw [if_pos ⟨c92, Or.inl (by rw [c96])⟩] at hQ
            have hQ' := hQ h2 hR2 f2
            refine V_bipush (v := -3) dX9_act_104 (by decide) ?_
            refine V_iret dX9_act_106 rfl rfl ?_
            exact hQ'
          · skip
            refine V_iloadn2 dX9_act_99 ?_
            refine V_iconst (v := nI 1) dX9_act_100 (by decide) ?_
            first | refine U_icmp_ne (tgt := 107) dX9_act_101 (by decide) (by with_reducible rfl) (by with_reducible rfl) (by omega) (by omega) (fun c101 => ?_) (fun c101 => ?_) | refine V_icmp_ne (tgt := 107) dX9_act_101 (by decide) (fun c101 => ?_) (fun c101 => ?_)
            · skip
              rw [if_neg (fun z => z.2.elim (fun e => c96 ((nI_eq (by omega) (by omega)).mp e)) (fun e => c101 ((nI_eq (by omega) (by omega)).mp e)))] at hQ
              refine V_aloadn0 dX9_act_107 ?_
              refine V_getR dX9_act_108 fX9_10 (by first | assumption | rfl | exact lay_s0 (by omega) | exact lay_s1 (by omega) | exact lay_s2 (by omega) | exact lay_h0 (by omega) | exact lay_h1 (by omega)) (by first | decide | omega) (by first | assumption | exact CL0_0 (by assumption) | exact CL0_1 (by assumption) | exact CL0_3 (by assumption) | exact CL0_4 (by assumption) | exact CL0_5 (by assumption) | exact CL0_6 (by assumption) | exact CL0_7 (by assumption) | exact CL0_8 (by assumption) | exact CL0_9 (by assumption) | exact CL0_10 (by assumption) | exact CL0_11 (by assumption) | exact CL0_12 (by assumption) | exact CL0_13 (by assumption) | exact CL1_2 (by assumption) | exact CL1_3 (by assumption) | exact CL80_2 (by assumption) | exact CL_slot (by assumption) (by omega) | exact (CL_sh (by assumption) (by omega)).1 | exact (CL_sh (by assumption) (by omega)).2.1 | rfl) ?_
              refine V_getR dX9_act_111 fX9_99 (by first | assumption | rfl | exact lay_s0 (by omega) | exact lay_s1 (by omega) | exact lay_s2 (by omega) | exact lay_h0 (by omega) | exact lay_h1 (by omega)) (by first | decide | omega) (by first | assumption | exact CL0_0 (by assumption) | exact CL0_1 (by assumption) | exact CL0_3 (by assumption) | exact CL0_4 (by assumption) | exact CL0_5 (by assumption) | exact CL0_6 (by assumption) | exact CL0_7 (by assumption) | exact CL0_8 (by assumption) | exact CL0_9 (by assumption) | exact CL0_10 (by assumption) | exact CL0_11 (by assumption) | exact CL0_12 (by assumption) | exact CL0_13 (by assumption) | exact CL1_2 (by assumption) | exact CL1_3 (by assumption) | exact CL80_2 (by assumption) | exact CL_slot (by assumption) (by omega) | exact (CL_sh (by assumption) (by omega)).1 | exact (CL_sh (by assumption) (by omega)).2.1 | rfl) ?_
              refine V_iloadw4 dX9_act_114 ?_
              refine U_aald dX9_act_116 (by with_reducible rfl) (by first | assumption | rfl | exact lay_s0 (by omega) | exact lay_s1 (by omega) | exact lay_s2 (by omega) | exact lay_h0 (by omega) | exact lay_h1 (by omega)) (by decide) (by first | decide | omega) (by omega) (by first | assumption | exact CL0_0 (by assumption) | exact CL0_1 (by assumption) | exact CL0_3 (by assumption) | exact CL0_4 (by assumption) | exact CL0_5 (by assumption) | exact CL0_6 (by assumption) | exact CL0_7 (by assumption) | exact CL0_8 (by assumption) | exact CL0_9 (by assumption) | exact CL0_10 (by assumption) | exact CL0_11 (by assumption) | exact CL0_12 (by assumption) | exact CL0_13 (by assumption) | exact CL1_2 (by assumption) | exact CL1_3 (by assumption) | exact CL80_2 (by assumption) | exact CL_slot (by assumption) (by omega) | exact (CL_sh (by assumption) (by omega)).1 | exact (CL_sh (by assumption) (by omega)).2.1 | rfl) ?_
              refine V_aloadn0 dX9_act_117 ?_
              refine V_getR dX9_act_118 fX9_76 (by first | assumption | rfl | exact lay_s0 (by omega) | exact lay_s1 (by omega) | exact lay_s2 (by omega) | exact lay_h0 (by omega) | exact lay_h1 (by omega)) (by first | decide | omega) (by first | assumption | exact CL0_0 (by assumption) | exact CL0_1 (by assumption) | exact CL0_3 (by assumption) | exact CL0_4 (by assumption) | exact CL0_5 (by assumption) | exact CL0_6 (by assumption) | exact CL0_7 (by assumption) | exact CL0_8 (by assumption) | exact CL0_9 (by assumption) | exact CL0_10 (by assumption) | exact CL0_11 (by assumption) | exact CL0_12 (by assumption) | exact CL0_13 (by assumption) | exact CL1_2 (by assumption) | exact CL1_3 (by assumption) | exact CL80_2 (by assumption) | exact CL_slot (by assumption) (by omega) | exact (CL_sh (by assumption) (by omega)).1 | exact (CL_sh (by assumption) (by omega)).2.1 | rfl) ?_
              refine V_callV1 (μ' := mX8_becomeLike) dX9_act_121 okX8_becomeLike lX9_103 rfl (by first | assumption | rfl | exact lay_s0 (by omega) | exact lay_s1 (by omega) | exact lay_s2 (by omega) | exact lay_h0 (by omega) | exact lay_h1 (by omega)) (by first | decide | omega) (Nat.le_of_ble_eq_true rfl) (Nat.le_of_ble_eq_true rfl) (by omega) ?_
              refine c_becomeLike (by omega) (CL_T hC2 hq) (CL_80 hC2) hT2 (by omega) (fun h3 hT3 hF3 => ?_)
              have hQ' := hQ h3 (RC_put hR2 hq hWp hT3 (hF3.wd (by omega) (by omega))) (f2.tr (hF3.toC (by omega)))
              dsimp only [gPush]
              refine V_iloadw5 dX9_act_124 ?_
              first | refine U_ifB_eq (tgt := 133) dX9_act_126 (by decide) (by with_reducible rfl) (fun c126 => ?_) (fun c126 => ?_) | refine U_if_eq (tgt := 133) dX9_act_126 (by decide) (by with_reducible rfl) (by omega) (fun c126 => ?_) (fun c126 => ?_) | refine V_if_eq (tgt := 133) dX9_act_126 (by decide) (fun c126 => ?_) (fun c126 => ?_)
              · skip
                rw [c126] at hQ'
                refine V_iconst (v := nI 0) dX9_act_133 (by decide) ?_
                refine V_iret dX9_act_134 rfl rfl ?_
                exact hQ'
              · skip
                rw [c126] at hQ'
                refine V_iconst (v := nI 1) dX9_act_129 (by decide) ?_
                refine V_goto (tgt := 134) dX9_act_130 (by decide) ?_
                refine V_iret dX9_act_134 rfl rfl ?_
                exact hQ'
            · skip
              rw [if_pos ⟨c92, Or.inr (by rw [c101])⟩] at hQ
              have hQ' := hQ h2 hR2 f2
              refine V_bipush (v := -3) dX9_act_104 (by decide) ?_
              refine V_iret dX9_act_106 rfl rfl ?_
              exact hQ'
      · skip
        have hz : (S.1.2.2.1 s).1 = 0 := by simpa using c46
        rw [if_pos hz] at hQ
        have hQ' := hQ h hR FrC.rf
        refine V_bipush (v := -11) dX9_act_49 (by decide) ?_
        refine V_iret dX9_act_51 rfl rfl ?_
        exact hQ'
    refine V_iloadn1 dX9_act_0 ?_
    refine V_callS1 (μ' := mX9_isSlot) dX9_act_1 okX9_isSlot lX9_91 (Nat.le_of_ble_eq_true rfl) (Nat.le_of_ble_eq_true rfl) (by omega) ?_
    refine c_isSlot ?_
    rw [hg2.1]
    dsimp only [gPush]
    first | refine U_ifB_eq (tgt := 24) dX9_act_4 (by decide) (by with_reducible rfl) (fun c4 => ?_) (fun c4 => ?_) | refine U_if_eq (tgt := 24) dX9_act_4 (by decide) (by with_reducible rfl) (by omega) (fun c4 => ?_) (fun c4 => ?_) | refine V_if_eq (tgt := 24) dX9_act_4 (by decide) (fun c4 => ?_) (fun c4 => ?_)
    · skip
      cases c4
    · skip
      refine V_iloadw4 dX9_act_7 ?_
      refine V_callS1 (μ' := mX9_isSlot) dX9_act_9 okX9_isSlot lX9_91 (Nat.le_of_ble_eq_true rfl) (Nat.le_of_ble_eq_true rfl) (by omega) ?_
      refine c_isSlot ?_
      rw [hg2.2.1]
      dsimp only [gPush]
      first | refine U_ifB_eq (tgt := 24) dX9_act_12 (by decide) (by with_reducible rfl) (fun c12 => ?_) (fun c12 => ?_) | refine U_if_eq (tgt := 24) dX9_act_12 (by decide) (by with_reducible rfl) (by omega) (fun c12 => ?_) (fun c12 => ?_) | refine V_if_eq (tgt := 24) dX9_act_12 (by decide) (fun c12 => ?_) (fun c12 => ?_)
      · skip
        cases c12
      · skip
        refine V_iloadn2 dX9_act_15 ?_
        refine V_if_lt (tgt := 24) dX9_act_16 (by decide) (fun c16 => ?_) (fun c16 => ?_)
        · skip
          exact absurd c16 (nI_pos (by omega))
        · skip
          refine V_iloadn2 dX9_act_19 ?_
          refine V_iconst (v := nI 5) dX9_act_20 (by decide) ?_
          first | refine U_icmp_le (tgt := 26) dX9_act_21 (by decide) (by with_reducible rfl) (by with_reducible rfl) (by omega) (by omega) (fun c21 => ?_) (fun c21 => ?_) | refine V_icmp_le (tgt := 26) dX9_act_21 (by decide) (fun c21 => ?_) (fun c21 => ?_)
          · skip
            refine V_iloadn2 dX9_act_26 ?_
            refine V_iconst (v := nI 5) dX9_act_27 (by decide) ?_
            first | refine U_icmp_eq (tgt := 41) dX9_act_28 (by decide) (by with_reducible rfl) (by with_reducible rfl) (by omega) (by omega) (fun c28 => ?_) (fun c28 => ?_) | refine V_icmp_eq (tgt := 41) dX9_act_28 (by decide) (fun c28 => ?_) (fun c28 => ?_)
            · skip
              exact from41
            · skip
              skip
              refine V_aloadn0 dX9_act_31 ?_
              refine V_iloadn3 dX9_act_32 ?_
              refine V_callV1 (μ' := mX9_isStep) dX9_act_33 okX9_isStep lX9_153 rfl (by first | assumption | rfl | exact lay_s0 (by omega) | exact lay_s1 (by omega) | exact lay_s2 (by omega) | exact lay_h0 (by omega) | exact lay_h1 (by omega)) (by first | decide | omega) (Nat.le_of_ble_eq_true rfl) (Nat.le_of_ble_eq_true rfl) (by omega) ?_
              refine c_isStep hn5 (CL0_0 hC) n0 ?_
              dsimp only [gPush]
              first | refine U_ifB_ne (tgt := 41) dX9_act_36 (by decide) (by with_reducible rfl) (fun c36 => ?_) (fun c36 => ?_) | refine U_if_ne (tgt := 41) dX9_act_36 (by decide) (by with_reducible rfl) (by omega) (fun c36 => ?_) (fun c36 => ?_) | refine V_if_ne (tgt := 41) dX9_act_36 (by decide) (fun c36 => ?_) (fun c36 => ?_)
              · skip
                exact from41
              · skip
                exfalso
                rw [decide_eq_false (fun z => c28 ((nI_eq (by omega) (by omega)).mp z)), Bool.false_or, c36] at hst
                cases hst
          · skip
            omega
  · have eq0 : f_act S x a i y = (-1, S) := if_neg hg
    rw [eq0] at hQ
    have hQ9 := hQ h hR FrC.rf
    refine V_iloadn1 dX9_act_0 ?_
    refine V_callS1 (μ' := mX9_isSlot) dX9_act_1 okX9_isSlot lX9_91 (Nat.le_of_ble_eq_true rfl) (Nat.le_of_ble_eq_true rfl) (by omega) ?_
    refine c_isSlot ?_
    dsimp only [gPush]
    first | refine U_ifB_eq (tgt := 24) dX9_act_4 (by decide) (by with_reducible rfl) (fun c4 => ?_) (fun c4 => ?_) | refine U_if_eq (tgt := 24) dX9_act_4 (by decide) (by with_reducible rfl) (by omega) (fun c4 => ?_) (fun c4 => ?_) | refine V_if_eq (tgt := 24) dX9_act_4 (by decide) (fun c4 => ?_) (fun c4 => ?_)
    · skip
      refine V_iconst (v := -1) dX9_act_24 (by decide) ?_
      refine V_iret dX9_act_25 rfl rfl ?_
      exact hQ9
    · skip
      refine V_iloadw4 dX9_act_7 ?_
      refine V_callS1 (μ' := mX9_isSlot) dX9_act_9 okX9_isSlot lX9_91 (Nat.le_of_ble_eq_true rfl) (Nat.le_of_ble_eq_true rfl) (by omega) ?_
      refine c_isSlot ?_
      dsimp only [gPush]
      first | refine U_ifB_eq (tgt := 24) dX9_act_12 (by decide) (by with_reducible rfl) (fun c12 => ?_) (fun c12 => ?_) | refine U_if_eq (tgt := 24) dX9_act_12 (by decide) (by with_reducible rfl) (by omega) (fun c12 => ?_) (fun c12 => ?_) | refine V_if_eq (tgt := 24) dX9_act_12 (by decide) (fun c12 => ?_) (fun c12 => ?_)
      · skip
        refine V_iconst (v := -1) dX9_act_24 (by decide) ?_
        refine V_iret dX9_act_25 rfl rfl ?_
        exact hQ9
      · skip
        refine V_iloadn2 dX9_act_15 ?_
        refine V_if_lt (tgt := 24) dX9_act_16 (by decide) (fun c16 => ?_) (fun c16 => ?_)
        · skip
          refine V_iconst (v := -1) dX9_act_24 (by decide) ?_
          refine V_iret dX9_act_25 rfl rfl ?_
          exact hQ9
        · skip
          refine V_iloadn2 dX9_act_19 ?_
          refine V_iconst (v := nI 5) dX9_act_20 (by decide) ?_
          first | refine U_icmp_le (tgt := 26) dX9_act_21 (by decide) (by with_reducible rfl) (by with_reducible rfl) (by omega) (by omega) (fun c21 => ?_) (fun c21 => ?_) | refine V_icmp_le (tgt := 26) dX9_act_21 (by decide) (fun c21 => ?_) (fun c21 => ?_)
          · skip
            refine V_iloadn2 dX9_act_26 ?_
            refine V_iconst (v := nI 5) dX9_act_27 (by decide) ?_
            first | refine U_icmp_eq (tgt := 41) dX9_act_28 (by decide) (by with_reducible rfl) (by with_reducible rfl) (by omega) (by omega) (fun c28 => ?_) (fun c28 => ?_) | refine V_icmp_eq (tgt := 41) dX9_act_28 (by decide) (fun c28 => ?_) (fun c28 => ?_)
            · skip
              exact absurd (by rw [c4, c12, inR_in0 c16 c21, decide_eq_true c28]; rfl) hg
            · skip
              refine V_aloadn0 dX9_act_31 ?_
              refine V_iloadn3 dX9_act_32 ?_
              refine V_callV1 (μ' := mX9_isStep) dX9_act_33 okX9_isStep lX9_153 rfl (by first | assumption | rfl | exact lay_s0 (by omega) | exact lay_s1 (by omega) | exact lay_s2 (by omega) | exact lay_h0 (by omega) | exact lay_h1 (by omega)) (by first | decide | omega) (Nat.le_of_ble_eq_true rfl) (Nat.le_of_ble_eq_true rfl) (by omega) ?_
              refine c_isStep hn5 (CL0_0 hC) n0 ?_
              dsimp only [gPush]
              first | refine U_ifB_ne (tgt := 41) dX9_act_36 (by decide) (by with_reducible rfl) (fun c36 => ?_) (fun c36 => ?_) | refine U_if_ne (tgt := 41) dX9_act_36 (by decide) (by with_reducible rfl) (by omega) (fun c36 => ?_) (fun c36 => ?_) | refine V_if_ne (tgt := 41) dX9_act_36 (by decide) (fun c36 => ?_) (fun c36 => ?_)
              · skip
                exact absurd (by rw [c4, c12, inR_in0 c16 c21, c36, Bool.or_true]; rfl) hg
              · skip
                refine V_iconst (v := -1) dX9_act_39 (by decide) ?_
                refine V_iret dX9_act_40 rfl rfl ?_
                exact hQ9
          · skip
            refine V_iconst (v := -1) dX9_act_24 (by decide) ?_
            refine V_iret dX9_act_25 rfl rfl ?_
            exact hQ9

end C48
