/-! ===== the class: lay, take, shapes ===== -/
theorem tkW_len (S : GS) (x i k : Int32) : (tkW S x i k).length = cN k := by simp [tkW]
section C53
variable {Γ : gM} {d : Nat} {h : gH} {Q : Option Value → gH → Prop} {S : GS}

set_option maxRecDepth 100000 in
set_option maxHeartbeats 4000000 in
theorem c_lay {x y i : Int32} (hd : 1 ≤ d) (hR : RC h S) (hQ : ∀ h', RC h' (f_lay S x y i).2 → FrC h h' → Q (some (.int (f_lay S x y i).1)) h') : V Γ mX9_lay d 124 124 h 0 [some (.ref 0), some (.int x), some (.int y), some (.int i), none, none, none] [] Q := by
  obtain ⟨hC, hW, hA, hK, hK2, hB, hSh, hFm⟩ := id hR
  have n0 := hA.1
  have hn2 := hW.1.1
  have hn5 := hW.1.2.1
  by_cases hg : (inB x 6 && inB y 4) = true
  · have hg2 := hg
    rw [Bool.and_eq_true] at hg2
    obtain ⟨s, hs, rfl⟩ := inB_t (by decide) hg2.1
    obtain ⟨q, hq, rfl⟩ := inB_t (by decide) hg2.2
    obtain ⟨hT, hWT⟩ := RC_slot hR hs
    obtain ⟨t0, t1, t3, tw, -⟩ := id hT
    obtain ⟨l0, l1, l2, lt, lr2, lr4⟩ := CL_T hC hs
    have hwl := hWT.2.1
    obtain ⟨x0, x1, x2⟩ := hSh q hq
    obtain ⟨b1, b2, b3⟩ := hW.2.2.2 q hq
    obtain ⟨r45, r2, y0, y1⟩ := CL_sh hC hq
    have eS : tS S (nI s) = S.1.2.2.1 s := by unfold tS; rw [cN_nI (by omega)]
    have eq0 : f_lay S (nI s) (nI q) i = _ := if_t hg
    rw [eq0, eS, cN_nI (by omega)] at hQ
    by_cases hm : (S.1.2.2.1 s).1 = 0 ∨ (S.2.2.2 q).1 = 0
    · rw [if_pos hm] at hQ
      have hQ9 := hQ h hR FrC.rf
      refine V_iloadn1 dX9_lay_0 ?_
      refine V_callS1 (μ' := mX9_isSlot) dX9_lay_1 okX9_isSlot lX9_91 (Nat.le_of_ble_eq_true rfl) (Nat.le_of_ble_eq_true rfl) (by omega) ?_
      refine c_isSlot ?_
      rw [hg2.1]
      dsimp only [gPush]
      first | refine U_ifB_eq (tgt := 14) dX9_lay_4 (by decide) (by with_reducible rfl) (fun c4 => ?_) (fun c4 => ?_) | refine U_if_eq (tgt := 14) dX9_lay_4 (by decide) (by with_reducible rfl) (by omega) (fun c4 => ?_) (fun c4 => ?_) | refine V_if_eq (tgt := 14) dX9_lay_4 (by decide) (fun c4 => ?_) (fun c4 => ?_)
      · skip
        cases c4
      · skip
        refine V_iloadn2 dX9_lay_7 ?_
        refine V_callS1 (μ' := mX9_isSheet) dX9_lay_8 okX9_isSheet lX9_283 (Nat.le_of_ble_eq_true rfl) (Nat.le_of_ble_eq_true rfl) (by omega) ?_
        refine c_isSheet ?_
        rw [hg2.2]
        dsimp only [gPush]
        first | refine U_ifB_ne (tgt := 16) dX9_lay_11 (by decide) (by with_reducible rfl) (fun c11 => ?_) (fun c11 => ?_) | refine U_if_ne (tgt := 16) dX9_lay_11 (by decide) (by with_reducible rfl) (by omega) (fun c11 => ?_) (fun c11 => ?_) | refine V_if_ne (tgt := 16) dX9_lay_11 (by decide) (fun c11 => ?_) (fun c11 => ?_)
        · skip
          refine V_aloadn0 dX9_lay_16 ?_
          refine V_getR dX9_lay_17 fX9_28 (by first | assumption | rfl | exact lay_s0 (by omega) | exact lay_s1 (by omega) | exact lay_s2 (by omega) | exact lay_h0 (by omega) | exact lay_h1 (by omega)) (by first | decide | omega) (by first | assumption | exact CL0_0 (by assumption) | exact CL0_1 (by assumption) | exact CL0_3 (by assumption) | exact CL0_4 (by assumption) | exact CL0_5 (by assumption) | exact CL0_6 (by assumption) | exact CL0_7 (by assumption) | exact CL0_8 (by assumption) | exact CL0_9 (by assumption) | exact CL0_10 (by assumption) | exact CL0_11 (by assumption) | exact CL0_12 (by assumption) | exact CL0_13 (by assumption) | exact CL1_2 (by assumption) | exact CL1_3 (by assumption) | exact CL80_2 (by assumption) | exact CL_slot (by assumption) (by omega) | exact (CL_sh (by assumption) (by omega)).1 | exact (CL_sh (by assumption) (by omega)).2.1 | rfl) ?_
          refine V_iloadn2 dX9_lay_20 ?_
          refine U_aald dX9_lay_21 (by with_reducible rfl) (by first | assumption | rfl | exact lay_s0 (by omega) | exact lay_s1 (by omega) | exact lay_s2 (by omega) | exact lay_h0 (by omega) | exact lay_h1 (by omega)) (by decide) (by first | decide | omega) (by omega) (by first | assumption | exact CL0_0 (by assumption) | exact CL0_1 (by assumption) | exact CL0_3 (by assumption) | exact CL0_4 (by assumption) | exact CL0_5 (by assumption) | exact CL0_6 (by assumption) | exact CL0_7 (by assumption) | exact CL0_8 (by assumption) | exact CL0_9 (by assumption) | exact CL0_10 (by assumption) | exact CL0_11 (by assumption) | exact CL0_12 (by assumption) | exact CL0_13 (by assumption) | exact CL1_2 (by assumption) | exact CL1_3 (by assumption) | exact CL80_2 (by assumption) | exact CL_slot (by assumption) (by omega) | exact (CL_sh (by assumption) (by omega)).1 | exact (CL_sh (by assumption) (by omega)).2.1 | rfl) ?_
          refine V_astorew4 dX9_lay_22 (by decide) rfl ?_
          refine V_aloadn0 dX9_lay_24 ?_
          refine V_iloadn1 dX9_lay_25 ?_
          refine V_callV1 (μ' := mX9_isHeld) dX9_lay_26 okX9_isHeld lX9_130 rfl (by first | assumption | rfl | exact lay_s0 (by omega) | exact lay_s1 (by omega) | exact lay_s2 (by omega) | exact lay_h0 (by omega) | exact lay_h1 (by omega)) (by first | decide | omega) (Nat.le_of_ble_eq_true rfl) (Nat.le_of_ble_eq_true rfl) (by omega) ?_
          refine c_isHeld hs (CL0_0 hC) (CL1_2 hC) (CL_slot hC hs) (lay_s0 hs) hT.1 hWT.1 ?_
          dsimp only [gPush]
          first | refine U_ifB_eq (tgt := 40) dX9_lay_29 (by decide) (by with_reducible rfl) (fun c29 => ?_) (fun c29 => ?_) | refine U_if_eq (tgt := 40) dX9_lay_29 (by decide) (by with_reducible rfl) (by omega) (fun c29 => ?_) (fun c29 => ?_) | refine V_if_eq (tgt := 40) dX9_lay_29 (by decide) (fun c29 => ?_) (fun c29 => ?_)
          · skip
            refine V_bipush (v := -11) dX9_lay_40 (by decide) ?_
            refine V_iret dX9_lay_42 rfl rfl ?_
            exact hQ9
          · skip
            refine V_aloadw4 dX9_lay_32 ?_
            refine V_callV0 (μ' := mX5_isMissing) dX9_lay_34 okX5_isMissing lX9_293 rfl (by first | assumption | rfl | exact lay_s0 (by omega) | exact lay_s1 (by omega) | exact lay_s2 (by omega) | exact lay_h0 (by omega) | exact lay_h1 (by omega)) (by first | decide | omega) (Nat.le_of_ble_eq_true rfl) (Nat.le_of_ble_eq_true rfl) (by omega) ?_
            refine c_isMissing y0 x0 ?_
            rw [soI_z _ b1]
            dsimp only [gPush]
            first | refine U_ifB_eq (tgt := 43) dX9_lay_37 (by decide) (by with_reducible rfl) (fun c37 => ?_) (fun c37 => ?_) | refine U_if_eq (tgt := 43) dX9_lay_37 (by decide) (by with_reducible rfl) (by omega) (fun c37 => ?_) (fun c37 => ?_) | refine V_if_eq (tgt := 43) dX9_lay_37 (by decide) (fun c37 => ?_) (fun c37 => ?_)
            · skip
              have z1 : (S.1.2.2.1 s).1 ≠ 0 := of_decide_eq_true c29
              have z2 : ¬ (S.2.2.2 q).1 = 0 := of_decide_eq_false c37
              exact absurd hm (fun z => z.elim z1 z2)
            · skip
              refine V_bipush (v := -11) dX9_lay_40 (by decide) ?_
              refine V_iret dX9_lay_42 rfl rfl ?_
              exact hQ9
        · skip
          cases c11
    rw [if_neg hm] at hQ
    have m1 : (S.1.2.2.1 s).1 ≠ 0 := fun z => hm (Or.inl z)
    have m2 : ¬ (S.2.2.2 q).1 = 0 := fun z => hm (Or.inr z)
    have x0' : gI h (86 + 2 * q) 0 = nI ((S.2.2.2 q).1 - 1) := by rw [x0, soI_p m2]
    by_cases h3 : (S.2.2.2 q).1 = 3
    · rw [if_pos h3] at hQ
      have hQ9 := hQ h hR FrC.rf
      refine V_iloadn1 dX9_lay_0 ?_
      refine V_callS1 (μ' := mX9_isSlot) dX9_lay_1 okX9_isSlot lX9_91 (Nat.le_of_ble_eq_true rfl) (Nat.le_of_ble_eq_true rfl) (by omega) ?_
      refine c_isSlot ?_
      rw [hg2.1]
      dsimp only [gPush]
      first | refine U_ifB_eq (tgt := 14) dX9_lay_4 (by decide) (by with_reducible rfl) (fun c4 => ?_) (fun c4 => ?_) | refine U_if_eq (tgt := 14) dX9_lay_4 (by decide) (by with_reducible rfl) (by omega) (fun c4 => ?_) (fun c4 => ?_) | refine V_if_eq (tgt := 14) dX9_lay_4 (by decide) (fun c4 => ?_) (fun c4 => ?_)
      · skip
        cases c4
      · skip
        refine V_iloadn2 dX9_lay_7 ?_
        refine V_callS1 (μ' := mX9_isSheet) dX9_lay_8 okX9_isSheet lX9_283 (Nat.le_of_ble_eq_true rfl) (Nat.le_of_ble_eq_true rfl) (by omega) ?_
        refine c_isSheet ?_
        rw [hg2.2]
        dsimp only [gPush]
        first | refine U_ifB_ne (tgt := 16) dX9_lay_11 (by decide) (by with_reducible rfl) (fun c11 => ?_) (fun c11 => ?_) | refine U_if_ne (tgt := 16) dX9_lay_11 (by decide) (by with_reducible rfl) (by omega) (fun c11 => ?_) (fun c11 => ?_) | refine V_if_ne (tgt := 16) dX9_lay_11 (by decide) (fun c11 => ?_) (fun c11 => ?_)
        · skip
          refine V_aloadn0 dX9_lay_16 ?_
          refine V_getR dX9_lay_17 fX9_28 (by first | assumption | rfl | exact lay_s0 (by omega) | exact lay_s1 (by omega) | exact lay_s2 (by omega) | exact lay_h0 (by omega) | exact lay_h1 (by omega)) (by first | decide | omega) (by first | assumption | exact CL0_0 (by assumption) | exact CL0_1 (by assumption) | exact CL0_3 (by assumption) | exact CL0_4 (by assumption) | exact CL0_5 (by assumption) | exact CL0_6 (by assumption) | exact CL0_7 (by assumption) | exact CL0_8 (by assumption) | exact CL0_9 (by assumption) | exact CL0_10 (by assumption) | exact CL0_11 (by assumption) | exact CL0_12 (by assumption) | exact CL0_13 (by assumption) | exact CL1_2 (by assumption) | exact CL1_3 (by assumption) | exact CL80_2 (by assumption) | exact CL_slot (by assumption) (by omega) | exact (CL_sh (by assumption) (by omega)).1 | exact (CL_sh (by assumption) (by omega)).2.1 | rfl) ?_
          refine V_iloadn2 dX9_lay_20 ?_
          refine U_aald dX9_lay_21 (by with_reducible rfl) (by first | assumption | rfl | exact lay_s0 (by omega) | exact lay_s1 (by omega) | exact lay_s2 (by omega) | exact lay_h0 (by omega) | exact lay_h1 (by omega)) (by decide) (by first | decide | omega) (by omega) (by first | assumption | exact CL0_0 (by assumption) | exact CL0_1 (by assumption) | exact CL0_3 (by assumption) | exact CL0_4 (by assumption) | exact CL0_5 (by assumption) | exact CL0_6 (by assumption) | exact CL0_7 (by assumption) | exact CL0_8 (by assumption) | exact CL0_9 (by assumption) | exact CL0_10 (by assumption) | exact CL0_11 (by assumption) | exact CL0_12 (by assumption) | exact CL0_13 (by assumption) | exact CL1_2 (by assumption) | exact CL1_3 (by assumption) | exact CL80_2 (by assumption) | exact CL_slot (by assumption) (by omega) | exact (CL_sh (by assumption) (by omega)).1 | exact (CL_sh (by assumption) (by omega)).2.1 | rfl) ?_
          refine V_astorew4 dX9_lay_22 (by decide) rfl ?_
          refine V_aloadn0 dX9_lay_24 ?_
          refine V_iloadn1 dX9_lay_25 ?_
          refine V_callV1 (μ' := mX9_isHeld) dX9_lay_26 okX9_isHeld lX9_130 rfl (by first | assumption | rfl | exact lay_s0 (by omega) | exact lay_s1 (by omega) | exact lay_s2 (by omega) | exact lay_h0 (by omega) | exact lay_h1 (by omega)) (by first | decide | omega) (Nat.le_of_ble_eq_true rfl) (Nat.le_of_ble_eq_true rfl) (by omega) ?_
          refine c_isHeld hs (CL0_0 hC) (CL1_2 hC) (CL_slot hC hs) (lay_s0 hs) hT.1 hWT.1 ?_
          dsimp only [gPush]
          first | refine U_ifB_eq (tgt := 40) dX9_lay_29 (by decide) (by with_reducible rfl) (fun c29 => ?_) (fun c29 => ?_) | refine U_if_eq (tgt := 40) dX9_lay_29 (by decide) (by with_reducible rfl) (by omega) (fun c29 => ?_) (fun c29 => ?_) | refine V_if_eq (tgt := 40) dX9_lay_29 (by decide) (fun c29 => ?_) (fun c29 => ?_)
          · skip
            exact absurd (of_decide_eq_false c29) (fun z => z m1)
          · skip
            refine V_aloadw4 dX9_lay_32 ?_
            refine V_callV0 (μ' := mX5_isMissing) dX9_lay_34 okX5_isMissing lX9_293 rfl (by first | assumption | rfl | exact lay_s0 (by omega) | exact lay_s1 (by omega) | exact lay_s2 (by omega) | exact lay_h0 (by omega) | exact lay_h1 (by omega)) (by first | decide | omega) (Nat.le_of_ble_eq_true rfl) (Nat.le_of_ble_eq_true rfl) (by omega) ?_
            refine c_isMissing y0 x0 ?_
            rw [soI_z _ b1, decide_eq_false m2]
            dsimp only [gPush]
            first | refine U_ifB_eq (tgt := 43) dX9_lay_37 (by decide) (by with_reducible rfl) (fun c37 => ?_) (fun c37 => ?_) | refine U_if_eq (tgt := 43) dX9_lay_37 (by decide) (by with_reducible rfl) (by omega) (fun c37 => ?_) (fun c37 => ?_) | refine V_if_eq (tgt := 43) dX9_lay_37 (by decide) (fun c37 => ?_) (fun c37 => ?_)
            · skip
              refine V_aloadw4 dX9_lay_43 ?_
              refine V_getI dX9_lay_45 fX9_302 (Or.inl rfl) (by first | assumption | rfl | exact lay_s0 (by omega) | exact lay_s1 (by omega) | exact lay_s2 (by omega) | exact lay_h0 (by omega) | exact lay_h1 (by omega)) (by first | decide | omega) (by first | assumption | exact CL0_0 (by assumption) | exact CL0_1 (by assumption) | exact CL0_3 (by assumption) | exact CL0_4 (by assumption) | exact CL0_5 (by assumption) | exact CL0_6 (by assumption) | exact CL0_7 (by assumption) | exact CL0_8 (by assumption) | exact CL0_9 (by assumption) | exact CL0_10 (by assumption) | exact CL0_11 (by assumption) | exact CL0_12 (by assumption) | exact CL0_13 (by assumption) | exact CL1_2 (by assumption) | exact CL1_3 (by assumption) | exact CL80_2 (by assumption) | exact CL_slot (by assumption) (by omega) | exact (CL_sh (by assumption) (by omega)).1 | exact (CL_sh (by assumption) (by omega)).2.1 | rfl) ?_
              refine V_iconst (v := nI 2) dX9_lay_48 (by decide) ?_
              first | refine U_icmp_ne (tgt := 55) dX9_lay_49 (by decide) (by with_reducible rfl) (by with_reducible rfl) (by omega) (by omega) (fun c49 => ?_) (fun c49 => ?_) | refine V_icmp_ne (tgt := 55) dX9_lay_49 (by decide) (fun c49 => ?_) (fun c49 => ?_)
              · skip
                omega
              · skip
                refine V_bipush (v := -13) dX9_lay_52 (by decide) ?_
                refine V_iret dX9_lay_54 rfl rfl ?_
                exact hQ9
            · skip
              cases c37
        · skip
          cases c11
    rw [if_neg h3] at hQ
    cases hp : hpB i (nI (S.1.2.2.1 s).2.1.length) (S.2.2.2 q).2.1 with
    | false =>
      rw [if_f hp] at hQ
      have hQ9 := hQ h hR FrC.rf
      refine V_iloadn1 dX9_lay_0 ?_
      refine V_callS1 (μ' := mX9_isSlot) dX9_lay_1 okX9_isSlot lX9_91 (Nat.le_of_ble_eq_true rfl) (Nat.le_of_ble_eq_true rfl) (by omega) ?_
      refine c_isSlot ?_
      rw [hg2.1]
      dsimp only [gPush]
      first | refine U_ifB_eq (tgt := 14) dX9_lay_4 (by decide) (by with_reducible rfl) (fun c4 => ?_) (fun c4 => ?_) | refine U_if_eq (tgt := 14) dX9_lay_4 (by decide) (by with_reducible rfl) (by omega) (fun c4 => ?_) (fun c4 => ?_) | refine V_if_eq (tgt := 14) dX9_lay_4 (by decide) (fun c4 => ?_) (fun c4 => ?_)
      · skip
        cases c4
      · skip
        refine V_iloadn2 dX9_lay_7 ?_
        refine V_callS1 (μ' := mX9_isSheet) dX9_lay_8 okX9_isSheet lX9_283 (Nat.le_of_ble_eq_true rfl) (Nat.le_of_ble_eq_true rfl) (by omega) ?_
        refine c_isSheet ?_
        rw [hg2.2]
        dsimp only [gPush]
        first | refine U_ifB_ne (tgt := 16) dX9_lay_11 (by decide) (by with_reducible rfl) (fun c11 => ?_) (fun c11 => ?_) | refine U_if_ne (tgt := 16) dX9_lay_11 (by decide) (by with_reducible rfl) (by omega) (fun c11 => ?_) (fun c11 => ?_) | refine V_if_ne (tgt := 16) dX9_lay_11 (by decide) (fun c11 => ?_) (fun c11 => ?_)
        · skip
          refine V_aloadn0 dX9_lay_16 ?_
          refine V_getR dX9_lay_17 fX9_28 (by first | assumption | rfl | exact lay_s0 (by omega) | exact lay_s1 (by omega) | exact lay_s2 (by omega) | exact lay_h0 (by omega) | exact lay_h1 (by omega)) (by first | decide | omega) (by first | assumption | exact CL0_0 (by assumption) | exact CL0_1 (by assumption) | exact CL0_3 (by assumption) | exact CL0_4 (by assumption) | exact CL0_5 (by assumption) | exact CL0_6 (by assumption) | exact CL0_7 (by assumption) | exact CL0_8 (by assumption) | exact CL0_9 (by assumption) | exact CL0_10 (by assumption) | exact CL0_11 (by assumption) | exact CL0_12 (by assumption) | exact CL0_13 (by assumption) | exact CL1_2 (by assumption) | exact CL1_3 (by assumption) | exact CL80_2 (by assumption) | exact CL_slot (by assumption) (by omega) | exact (CL_sh (by assumption) (by omega)).1 | exact (CL_sh (by assumption) (by omega)).2.1 | rfl) ?_
          refine V_iloadn2 dX9_lay_20 ?_
          refine U_aald dX9_lay_21 (by with_reducible rfl) (by first | assumption | rfl | exact lay_s0 (by omega) | exact lay_s1 (by omega) | exact lay_s2 (by omega) | exact lay_h0 (by omega) | exact lay_h1 (by omega)) (by decide) (by first | decide | omega) (by omega) (by first | assumption | exact CL0_0 (by assumption) | exact CL0_1 (by assumption) | exact CL0_3 (by assumption) | exact CL0_4 (by assumption) | exact CL0_5 (by assumption) | exact CL0_6 (by assumption) | exact CL0_7 (by assumption) | exact CL0_8 (by assumption) | exact CL0_9 (by assumption) | exact CL0_10 (by assumption) | exact CL0_11 (by assumption) | exact CL0_12 (by assumption) | exact CL0_13 (by assumption) | exact CL1_2 (by assumption) | exact CL1_3 (by assumption) | exact CL80_2 (by assumption) | exact CL_slot (by assumption) (by omega) | exact (CL_sh (by assumption) (by omega)).1 | exact (CL_sh (by assumption) (by omega)).2.1 | rfl) ?_
          refine V_astorew4 dX9_lay_22 (by decide) rfl ?_
          refine V_aloadn0 dX9_lay_24 ?_
          refine V_iloadn1 dX9_lay_25 ?_
          refine V_callV1 (μ' := mX9_isHeld) dX9_lay_26 okX9_isHeld lX9_130 rfl (by first | assumption | rfl | exact lay_s0 (by omega) | exact lay_s1 (by omega) | exact lay_s2 (by omega) | exact lay_h0 (by omega) | exact lay_h1 (by omega)) (by first | decide | omega) (Nat.le_of_ble_eq_true rfl) (Nat.le_of_ble_eq_true rfl) (by omega) ?_
          refine c_isHeld hs (CL0_0 hC) (CL1_2 hC) (CL_slot hC hs) (lay_s0 hs) hT.1 hWT.1 ?_
          dsimp only [gPush]
          first | refine U_ifB_eq (tgt := 40) dX9_lay_29 (by decide) (by with_reducible rfl) (fun c29 => ?_) (fun c29 => ?_) | refine U_if_eq (tgt := 40) dX9_lay_29 (by decide) (by with_reducible rfl) (by omega) (fun c29 => ?_) (fun c29 => ?_) | refine V_if_eq (tgt := 40) dX9_lay_29 (by decide) (fun c29 => ?_) (fun c29 => ?_)
          · skip
            exact absurd (of_decide_eq_false c29) (fun z => z m1)
          · skip
            refine V_aloadw4 dX9_lay_32 ?_
            refine V_callV0 (μ' := mX5_isMissing) dX9_lay_34 okX5_isMissing lX9_293 rfl (by first | assumption | rfl | exact lay_s0 (by omega) | exact lay_s1 (by omega) | exact lay_s2 (by omega) | exact lay_h0 (by omega) | exact lay_h1 (by omega)) (by first | decide | omega) (Nat.le_of_ble_eq_true rfl) (Nat.le_of_ble_eq_true rfl) (by omega) ?_
            refine c_isMissing y0 x0 ?_
            rw [soI_z _ b1, decide_eq_false m2]
            dsimp only [gPush]
            first | refine U_ifB_eq (tgt := 43) dX9_lay_37 (by decide) (by with_reducible rfl) (fun c37 => ?_) (fun c37 => ?_) | refine U_if_eq (tgt := 43) dX9_lay_37 (by decide) (by with_reducible rfl) (by omega) (fun c37 => ?_) (fun c37 => ?_) | refine V_if_eq (tgt := 43) dX9_lay_37 (by decide) (fun c37 => ?_) (fun c37 => ?_)
            · skip
              refine V_aloadw4 dX9_lay_43 ?_
              refine V_getI dX9_lay_45 fX9_302 (Or.inl rfl) (by first | assumption | rfl | exact lay_s0 (by omega) | exact lay_s1 (by omega) | exact lay_s2 (by omega) | exact lay_h0 (by omega) | exact lay_h1 (by omega)) (by first | decide | omega) (by first | assumption | exact CL0_0 (by assumption) | exact CL0_1 (by assumption) | exact CL0_3 (by assumption) | exact CL0_4 (by assumption) | exact CL0_5 (by assumption) | exact CL0_6 (by assumption) | exact CL0_7 (by assumption) | exact CL0_8 (by assumption) | exact CL0_9 (by assumption) | exact CL0_10 (by assumption) | exact CL0_11 (by assumption) | exact CL0_12 (by assumption) | exact CL0_13 (by assumption) | exact CL1_2 (by assumption) | exact CL1_3 (by assumption) | exact CL80_2 (by assumption) | exact CL_slot (by assumption) (by omega) | exact (CL_sh (by assumption) (by omega)).1 | exact (CL_sh (by assumption) (by omega)).2.1 | rfl) ?_
              refine V_iconst (v := nI 2) dX9_lay_48 (by decide) ?_
              first | refine U_icmp_ne (tgt := 55) dX9_lay_49 (by decide) (by with_reducible rfl) (by with_reducible rfl) (by omega) (by omega) (fun c49 => ?_) (fun c49 => ?_) | refine V_icmp_ne (tgt := 55) dX9_lay_49 (by decide) (fun c49 => ?_) (fun c49 => ?_)
              · skip
                refine V_aloadn0 dX9_lay_55 ?_
                refine V_getR dX9_lay_56 fX9_10 (by first | assumption | rfl | exact lay_s0 (by omega) | exact lay_s1 (by omega) | exact lay_s2 (by omega) | exact lay_h0 (by omega) | exact lay_h1 (by omega)) (by first | decide | omega) (by first | assumption | exact CL0_0 (by assumption) | exact CL0_1 (by assumption) | exact CL0_3 (by assumption) | exact CL0_4 (by assumption) | exact CL0_5 (by assumption) | exact CL0_6 (by assumption) | exact CL0_7 (by assumption) | exact CL0_8 (by assumption) | exact CL0_9 (by assumption) | exact CL0_10 (by assumption) | exact CL0_11 (by assumption) | exact CL0_12 (by assumption) | exact CL0_13 (by assumption) | exact CL1_2 (by assumption) | exact CL1_3 (by assumption) | exact CL80_2 (by assumption) | exact CL_slot (by assumption) (by omega) | exact (CL_sh (by assumption) (by omega)).1 | exact (CL_sh (by assumption) (by omega)).2.1 | rfl) ?_
                refine V_getR dX9_lay_59 fX9_99 (by first | assumption | rfl | exact lay_s0 (by omega) | exact lay_s1 (by omega) | exact lay_s2 (by omega) | exact lay_h0 (by omega) | exact lay_h1 (by omega)) (by first | decide | omega) (by first | assumption | exact CL0_0 (by assumption) | exact CL0_1 (by assumption) | exact CL0_3 (by assumption) | exact CL0_4 (by assumption) | exact CL0_5 (by assumption) | exact CL0_6 (by assumption) | exact CL0_7 (by assumption) | exact CL0_8 (by assumption) | exact CL0_9 (by assumption) | exact CL0_10 (by assumption) | exact CL0_11 (by assumption) | exact CL0_12 (by assumption) | exact CL0_13 (by assumption) | exact CL1_2 (by assumption) | exact CL1_3 (by assumption) | exact CL80_2 (by assumption) | exact CL_slot (by assumption) (by omega) | exact (CL_sh (by assumption) (by omega)).1 | exact (CL_sh (by assumption) (by omega)).2.1 | rfl) ?_
                refine V_iloadn1 dX9_lay_62 ?_
                refine U_aald dX9_lay_63 (by with_reducible rfl) (by first | assumption | rfl | exact lay_s0 (by omega) | exact lay_s1 (by omega) | exact lay_s2 (by omega) | exact lay_h0 (by omega) | exact lay_h1 (by omega)) (by decide) (by first | decide | omega) (by omega) (by first | assumption | exact CL0_0 (by assumption) | exact CL0_1 (by assumption) | exact CL0_3 (by assumption) | exact CL0_4 (by assumption) | exact CL0_5 (by assumption) | exact CL0_6 (by assumption) | exact CL0_7 (by assumption) | exact CL0_8 (by assumption) | exact CL0_9 (by assumption) | exact CL0_10 (by assumption) | exact CL0_11 (by assumption) | exact CL0_12 (by assumption) | exact CL0_13 (by assumption) | exact CL1_2 (by assumption) | exact CL1_3 (by assumption) | exact CL80_2 (by assumption) | exact CL_slot (by assumption) (by omega) | exact (CL_sh (by assumption) (by omega)).1 | exact (CL_sh (by assumption) (by omega)).2.1 | rfl) ?_
                refine V_astorew5 dX9_lay_64 (by decide) rfl ?_
                refine V_aloadw4 dX9_lay_66 ?_
                refine V_iloadn3 dX9_lay_68 ?_
                refine V_aloadw5 dX9_lay_69 ?_
                refine V_getI dX9_lay_71 fX9_107 (Or.inl rfl) (by first | assumption | rfl | exact lay_s0 (by omega) | exact lay_s1 (by omega) | exact lay_s2 (by omega) | exact lay_h0 (by omega) | exact lay_h1 (by omega)) (by first | decide | omega) (by first | assumption | exact CL0_0 (by assumption) | exact CL0_1 (by assumption) | exact CL0_3 (by assumption) | exact CL0_4 (by assumption) | exact CL0_5 (by assumption) | exact CL0_6 (by assumption) | exact CL0_7 (by assumption) | exact CL0_8 (by assumption) | exact CL0_9 (by assumption) | exact CL0_10 (by assumption) | exact CL0_11 (by assumption) | exact CL0_12 (by assumption) | exact CL0_13 (by assumption) | exact CL1_2 (by assumption) | exact CL1_3 (by assumption) | exact CL80_2 (by assumption) | exact CL_slot (by assumption) (by omega) | exact (CL_sh (by assumption) (by omega)).1 | exact (CL_sh (by assumption) (by omega)).2.1 | rfl) ?_
                refine V_callV2 (μ' := mX5_hasPlaces) dX9_lay_74 okX5_hasPlaces lX9_296 rfl (by first | assumption | rfl | exact lay_s0 (by omega) | exact lay_s1 (by omega) | exact lay_s2 (by omega) | exact lay_h0 (by omega) | exact lay_h1 (by omega)) (by first | decide | omega) (Nat.le_of_ble_eq_true rfl) (Nat.le_of_ble_eq_true rfl) (by omega) ?_
                refine c_hasPlaces y0 x1 ?_
                rw [hp]
                dsimp only [gPush]
                first | refine U_ifB_ne (tgt := 83) dX9_lay_77 (by decide) (by with_reducible rfl) (fun c77 => ?_) (fun c77 => ?_) | refine U_if_ne (tgt := 83) dX9_lay_77 (by decide) (by with_reducible rfl) (by omega) (fun c77 => ?_) (fun c77 => ?_) | refine V_if_ne (tgt := 83) dX9_lay_77 (by decide) (fun c77 => ?_) (fun c77 => ?_)
                · skip
                  cases c77
                · skip
                  refine V_bipush (v := -12) dX9_lay_80 (by decide) ?_
                  refine V_iret dX9_lay_82 rfl rfl ?_
                  exact hQ9
              · skip
                omega
            · skip
              cases c37
        · skip
          cases c11
    | true =>
      rw [if_t hp] at hQ
      obtain ⟨i', m', i1, m1', rfl, em, im⟩ := hp_t (by omega) hp
      have em' := (nI_eq (by omega) m1').mp em
      rw [← em'] at im
      rw [cN_nI i1] at hQ
      have loop : ∀ f p h1, p + f = (S.1.2.2.1 s).2.1.length → (∀ k, k < 40 → gL h1 (86 + 2 * q + 1) k = (if i' ≤ k ∧ k < i' + p then nI ((S.1.2.2.1 s).2.1.getD (k - i') 0) else (S.2.2.2 q).2.2 k).toInt64) → gI h1 = gI h → (∀ a, a ≠ 86 + 2 * q + 1 → gL h1 a = gL h a) → gR h1 = gR h → V Γ mX9_lay d 124 124 h1 86 [some (.ref 0), some (.int (nI s)), some (.int (nI q)), some (.int (nI i')), some (.ref (86 + 2 * q)), some (.ref (4 + 3 * s)), some (.int (nI p))] [] Q := by
        intro f
        induction f with
        | zero =>
          intro p h1 hpf hX gi gl gr
          have ep : p = (S.1.2.2.1 s).2.1.length := by omega
          subst ep
          have hC1 := CLay_eq hC gr
          have t1' : gI h1 (4 + 3 * s) 1 = nI (S.1.2.2.1 s).2.1.length := by rw [gi]; exact t1
          have fin := hQ h1 (RC_sh hR hq ⟨by rw [gi]; exact x0, by rw [gi]; exact x1, fun _ k hk => hX k hk⟩ ⟨b1, b2, b3⟩ (fun a ha => by rw [gi]) gl gr) ⟨fun a ha => by rw [gi], fun a ha => gl a (by omega), fun a ha => by rw [gr]⟩
          refine V_iloadw6 dX9_lay_86 ?_
          refine V_aloadw5 dX9_lay_88 ?_
          refine V_getI dX9_lay_90 fX9_107 (Or.inl rfl) (by first | assumption | rfl | exact lay_s0 (by omega) | exact lay_s1 (by omega) | exact lay_s2 (by omega) | exact lay_h0 (by omega) | exact lay_h1 (by omega)) (by first | decide | omega) (by first | assumption | exact CL0_0 (by assumption) | exact CL0_1 (by assumption) | exact CL0_3 (by assumption) | exact CL0_4 (by assumption) | exact CL0_5 (by assumption) | exact CL0_6 (by assumption) | exact CL0_7 (by assumption) | exact CL0_8 (by assumption) | exact CL0_9 (by assumption) | exact CL0_10 (by assumption) | exact CL0_11 (by assumption) | exact CL0_12 (by assumption) | exact CL0_13 (by assumption) | exact CL1_2 (by assumption) | exact CL1_3 (by assumption) | exact CL80_2 (by assumption) | exact CL_slot (by assumption) (by omega) | exact (CL_sh (by assumption) (by omega)).1 | exact (CL_sh (by assumption) (by omega)).2.1 | rfl) ?_
          first | refine U_icmp_ge (tgt := 119) dX9_lay_93 (by decide) (by with_reducible rfl) (by with_reducible rfl) (by omega) (by omega) (fun c93 => ?_) (fun c93 => ?_) | refine V_icmp_ge (tgt := 119) dX9_lay_93 (by decide) (fun c93 => ?_) (fun c93 => ?_)
          · skip
            refine V_aloadw5 dX9_lay_119 ?_
            refine V_getI dX9_lay_121 fX9_107 (Or.inl rfl) (by first | assumption | rfl | exact lay_s0 (by omega) | exact lay_s1 (by omega) | exact lay_s2 (by omega) | exact lay_h0 (by omega) | exact lay_h1 (by omega)) (by first | decide | omega) (by first | assumption | exact CL0_0 (by assumption) | exact CL0_1 (by assumption) | exact CL0_3 (by assumption) | exact CL0_4 (by assumption) | exact CL0_5 (by assumption) | exact CL0_6 (by assumption) | exact CL0_7 (by assumption) | exact CL0_8 (by assumption) | exact CL0_9 (by assumption) | exact CL0_10 (by assumption) | exact CL0_11 (by assumption) | exact CL0_12 (by assumption) | exact CL0_13 (by assumption) | exact CL1_2 (by assumption) | exact CL1_3 (by assumption) | exact CL80_2 (by assumption) | exact CL_slot (by assumption) (by omega) | exact (CL_sh (by assumption) (by omega)).1 | exact (CL_sh (by assumption) (by omega)).2.1 | rfl) ?_
            refine V_iret dX9_lay_124 rfl rfl ?_
            exact fin
          · skip
            omega
        | succ f ih =>
          intro p h1 hpf hX gi gl gr
          have hC1 := CLay_eq hC gr
          have t1' : gI h1 (4 + 3 * s) 1 = nI (S.1.2.2.1 s).2.1.length := by rw [gi]; exact t1
          have lr2' : gR h1 (4 + 3 * s) 2 = some (4 + 3 * s + 1) := by rw [gr]; exact lr2
          have tw' : gI h1 (4 + 3 * s + 1) p = nI ((S.1.2.2.1 s).2.1.getD p 0) := by rw [gi]; exact tw p (by omega)
          have hlet := hWT.2.2.1 p (by omega)
          have hcut : cutS ((S.2.2.2 q).1 - 1) (nI ((S.1.2.2.1 s).2.1.getD p 0)) = nI ((S.1.2.2.1 s).2.1.getD p 0) := cut_small _ (by omega) _ (by omega)
          refine V_iloadw6 dX9_lay_86 ?_
          refine V_aloadw5 dX9_lay_88 ?_
          refine V_getI dX9_lay_90 fX9_107 (Or.inl rfl) (by first | assumption | rfl | exact lay_s0 (by omega) | exact lay_s1 (by omega) | exact lay_s2 (by omega) | exact lay_h0 (by omega) | exact lay_h1 (by omega)) (by first | decide | omega) (by first | assumption | exact CL0_0 (by assumption) | exact CL0_1 (by assumption) | exact CL0_3 (by assumption) | exact CL0_4 (by assumption) | exact CL0_5 (by assumption) | exact CL0_6 (by assumption) | exact CL0_7 (by assumption) | exact CL0_8 (by assumption) | exact CL0_9 (by assumption) | exact CL0_10 (by assumption) | exact CL0_11 (by assumption) | exact CL0_12 (by assumption) | exact CL0_13 (by assumption) | exact CL1_2 (by assumption) | exact CL1_3 (by assumption) | exact CL80_2 (by assumption) | exact CL_slot (by assumption) (by omega) | exact (CL_sh (by assumption) (by omega)).1 | exact (CL_sh (by assumption) (by omega)).2.1 | rfl) ?_
          first | refine U_icmp_ge (tgt := 119) dX9_lay_93 (by decide) (by with_reducible rfl) (by with_reducible rfl) (by omega) (by omega) (fun c93 => ?_) (fun c93 => ?_) | refine V_icmp_ge (tgt := 119) dX9_lay_93 (by decide) (fun c93 => ?_) (fun c93 => ?_)
          · skip
            omega
          · skip
            refine V_aloadw4 dX9_lay_96 ?_
            refine V_iloadn3 dX9_lay_98 ?_
            refine V_iloadw6 dX9_lay_99 ?_
            first | refine U_iadd dX9_lay_101 (by with_reducible rfl) (by with_reducible rfl) ?_ | refine V_iadd dX9_lay_101 ?_
            refine V_aloadw5 dX9_lay_102 ?_
            refine V_getR dX9_lay_104 fX9_277 (by first | assumption | rfl | exact lay_s0 (by omega) | exact lay_s1 (by omega) | exact lay_s2 (by omega) | exact lay_h0 (by omega) | exact lay_h1 (by omega)) (by first | decide | omega) (by first | assumption | exact CL0_0 (by assumption) | exact CL0_1 (by assumption) | exact CL0_3 (by assumption) | exact CL0_4 (by assumption) | exact CL0_5 (by assumption) | exact CL0_6 (by assumption) | exact CL0_7 (by assumption) | exact CL0_8 (by assumption) | exact CL0_9 (by assumption) | exact CL0_10 (by assumption) | exact CL0_11 (by assumption) | exact CL0_12 (by assumption) | exact CL0_13 (by assumption) | exact CL1_2 (by assumption) | exact CL1_3 (by assumption) | exact CL80_2 (by assumption) | exact CL_slot (by assumption) (by omega) | exact (CL_sh (by assumption) (by omega)).1 | exact (CL_sh (by assumption) (by omega)).2.1 | rfl) ?_
            refine V_iloadw6 dX9_lay_107 ?_
            refine U_iald dX9_lay_109 (by with_reducible rfl) (by first | assumption | rfl | exact lay_s0 (by omega) | exact lay_s1 (by omega) | exact lay_s2 (by omega) | exact lay_h0 (by omega) | exact lay_h1 (by omega)) (by first | decide | omega) (by omega) (by first | assumption | exact CL0_0 (by assumption) | exact CL0_1 (by assumption) | exact CL0_3 (by assumption) | exact CL0_4 (by assumption) | exact CL0_5 (by assumption) | exact CL0_6 (by assumption) | exact CL0_7 (by assumption) | exact CL0_8 (by assumption) | exact CL0_9 (by assumption) | exact CL0_10 (by assumption) | exact CL0_11 (by assumption) | exact CL0_12 (by assumption) | exact CL0_13 (by assumption) | exact CL1_2 (by assumption) | exact CL1_3 (by assumption) | exact CL80_2 (by assumption) | exact CL_slot (by assumption) (by omega) | exact (CL_sh (by assumption) (by omega)).1 | exact (CL_sh (by assumption) (by omega)).2.1 | rfl) ?_
            refine V_callV2 (μ' := mX5_write) dX9_lay_110 okX5_write lX9_299 rfl (by first | assumption | rfl | exact lay_s0 (by omega) | exact lay_s1 (by omega) | exact lay_s2 (by omega) | exact lay_h0 (by omega) | exact lay_h1 (by omega)) (by first | decide | omega) (Nat.le_of_ble_eq_true rfl) (Nat.le_of_ble_eq_true rfl) (by omega) ?_
            refine c_sheetWrite y0 y1 (by rw [gr]; exact r2) (by omega) (by rw [gi]; exact x0') (by omega) (by omega) ?_
            rw [hcut]
            dsimp only [gPush]
            refine V_iinc6 dX9_lay_113 (by first | exact ginc1 _ | rfl) (by decide) rfl ?_
            refine V_goto (tgt := 86) dX9_lay_116 (by decide) ?_
            refine ih (p + 1) _ (by omega) (fun k hk => ?_) gi (fun a ha => ?_) gr
            · rw [gL_sL]
              by_cases e : k = i' + p
              · rw [if_pos ⟨rfl, e⟩, if_pos (by omega), show k - i' = p by omega]
              · rw [if_neg (fun z => e z.2), hX k hk]
                by_cases e2 : i' ≤ k ∧ k < i' + p
                · rw [if_pos e2, if_pos (by omega)]
                · rw [if_neg e2, if_neg (by omega)]
            · funext b
              rw [gL_sL, if_neg (fun z => ha z.1), gl a ha]
      refine V_iloadn1 dX9_lay_0 ?_
      refine V_callS1 (μ' := mX9_isSlot) dX9_lay_1 okX9_isSlot lX9_91 (Nat.le_of_ble_eq_true rfl) (Nat.le_of_ble_eq_true rfl) (by omega) ?_
      refine c_isSlot ?_
      rw [hg2.1]
      dsimp only [gPush]
      first | refine U_ifB_eq (tgt := 14) dX9_lay_4 (by decide) (by with_reducible rfl) (fun c4 => ?_) (fun c4 => ?_) | refine U_if_eq (tgt := 14) dX9_lay_4 (by decide) (by with_reducible rfl) (by omega) (fun c4 => ?_) (fun c4 => ?_) | refine V_if_eq (tgt := 14) dX9_lay_4 (by decide) (fun c4 => ?_) (fun c4 => ?_)
      · skip
        cases c4
      · skip
        refine V_iloadn2 dX9_lay_7 ?_
        refine V_callS1 (μ' := mX9_isSheet) dX9_lay_8 okX9_isSheet lX9_283 (Nat.le_of_ble_eq_true rfl) (Nat.le_of_ble_eq_true rfl) (by omega) ?_
        refine c_isSheet ?_
        rw [hg2.2]
        dsimp only [gPush]
        first | refine U_ifB_ne (tgt := 16) dX9_lay_11 (by decide) (by with_reducible rfl) (fun c11 => ?_) (fun c11 => ?_) | refine U_if_ne (tgt := 16) dX9_lay_11 (by decide) (by with_reducible rfl) (by omega) (fun c11 => ?_) (fun c11 => ?_) | refine V_if_ne (tgt := 16) dX9_lay_11 (by decide) (fun c11 => ?_) (fun c11 => ?_)
        · skip
          refine V_aloadn0 dX9_lay_16 ?_
          refine V_getR dX9_lay_17 fX9_28 (by first | assumption | rfl | exact lay_s0 (by omega) | exact lay_s1 (by omega) | exact lay_s2 (by omega) | exact lay_h0 (by omega) | exact lay_h1 (by omega)) (by first | decide | omega) (by first | assumption | exact CL0_0 (by assumption) | exact CL0_1 (by assumption) | exact CL0_3 (by assumption) | exact CL0_4 (by assumption) | exact CL0_5 (by assumption) | exact CL0_6 (by assumption) | exact CL0_7 (by assumption) | exact CL0_8 (by assumption) | exact CL0_9 (by assumption) | exact CL0_10 (by assumption) | exact CL0_11 (by assumption) | exact CL0_12 (by assumption) | exact CL0_13 (by assumption) | exact CL1_2 (by assumption) | exact CL1_3 (by assumption) | exact CL80_2 (by assumption) | exact CL_slot (by assumption) (by omega) | exact (CL_sh (by assumption) (by omega)).1 | exact (CL_sh (by assumption) (by omega)).2.1 | rfl) ?_
          refine V_iloadn2 dX9_lay_20 ?_
          refine U_aald dX9_lay_21 (by with_reducible rfl) (by first | assumption | rfl | exact lay_s0 (by omega) | exact lay_s1 (by omega) | exact lay_s2 (by omega) | exact lay_h0 (by omega) | exact lay_h1 (by omega)) (by decide) (by first | decide | omega) (by omega) (by first | assumption | exact CL0_0 (by assumption) | exact CL0_1 (by assumption) | exact CL0_3 (by assumption) | exact CL0_4 (by assumption) | exact CL0_5 (by assumption) | exact CL0_6 (by assumption) | exact CL0_7 (by assumption) | exact CL0_8 (by assumption) | exact CL0_9 (by assumption) | exact CL0_10 (by assumption) | exact CL0_11 (by assumption) | exact CL0_12 (by assumption) | exact CL0_13 (by assumption) | exact CL1_2 (by assumption) | exact CL1_3 (by assumption) | exact CL80_2 (by assumption) | exact CL_slot (by assumption) (by omega) | exact (CL_sh (by assumption) (by omega)).1 | exact (CL_sh (by assumption) (by omega)).2.1 | rfl) ?_
          refine V_astorew4 dX9_lay_22 (by decide) rfl ?_
          refine V_aloadn0 dX9_lay_24 ?_
          refine V_iloadn1 dX9_lay_25 ?_
          refine V_callV1 (μ' := mX9_isHeld) dX9_lay_26 okX9_isHeld lX9_130 rfl (by first | assumption | rfl | exact lay_s0 (by omega) | exact lay_s1 (by omega) | exact lay_s2 (by omega) | exact lay_h0 (by omega) | exact lay_h1 (by omega)) (by first | decide | omega) (Nat.le_of_ble_eq_true rfl) (Nat.le_of_ble_eq_true rfl) (by omega) ?_
          refine c_isHeld hs (CL0_0 hC) (CL1_2 hC) (CL_slot hC hs) (lay_s0 hs) hT.1 hWT.1 ?_
          dsimp only [gPush]
          first | refine U_ifB_eq (tgt := 40) dX9_lay_29 (by decide) (by with_reducible rfl) (fun c29 => ?_) (fun c29 => ?_) | refine U_if_eq (tgt := 40) dX9_lay_29 (by decide) (by with_reducible rfl) (by omega) (fun c29 => ?_) (fun c29 => ?_) | refine V_if_eq (tgt := 40) dX9_lay_29 (by decide) (fun c29 => ?_) (fun c29 => ?_)
          · skip
            exact absurd (of_decide_eq_false c29) (fun z => z m1)
          · skip
            refine V_aloadw4 dX9_lay_32 ?_
            refine V_callV0 (μ' := mX5_isMissing) dX9_lay_34 okX5_isMissing lX9_293 rfl (by first | assumption | rfl | exact lay_s0 (by omega) | exact lay_s1 (by omega) | exact lay_s2 (by omega) | exact lay_h0 (by omega) | exact lay_h1 (by omega)) (by first | decide | omega) (Nat.le_of_ble_eq_true rfl) (Nat.le_of_ble_eq_true rfl) (by omega) ?_
            refine c_isMissing y0 x0 ?_
            rw [soI_z _ b1, decide_eq_false m2]
            dsimp only [gPush]
            first | refine U_ifB_eq (tgt := 43) dX9_lay_37 (by decide) (by with_reducible rfl) (fun c37 => ?_) (fun c37 => ?_) | refine U_if_eq (tgt := 43) dX9_lay_37 (by decide) (by with_reducible rfl) (by omega) (fun c37 => ?_) (fun c37 => ?_) | refine V_if_eq (tgt := 43) dX9_lay_37 (by decide) (fun c37 => ?_) (fun c37 => ?_)
            · skip
              refine V_aloadw4 dX9_lay_43 ?_
              refine V_getI dX9_lay_45 fX9_302 (Or.inl rfl) (by first | assumption | rfl | exact lay_s0 (by omega) | exact lay_s1 (by omega) | exact lay_s2 (by omega) | exact lay_h0 (by omega) | exact lay_h1 (by omega)) (by first | decide | omega) (by first | assumption | exact CL0_0 (by assumption) | exact CL0_1 (by assumption) | exact CL0_3 (by assumption) | exact CL0_4 (by assumption) | exact CL0_5 (by assumption) | exact CL0_6 (by assumption) | exact CL0_7 (by assumption) | exact CL0_8 (by assumption) | exact CL0_9 (by assumption) | exact CL0_10 (by assumption) | exact CL0_11 (by assumption) | exact CL0_12 (by assumption) | exact CL0_13 (by assumption) | exact CL1_2 (by assumption) | exact CL1_3 (by assumption) | exact CL80_2 (by assumption) | exact CL_slot (by assumption) (by omega) | exact (CL_sh (by assumption) (by omega)).1 | exact (CL_sh (by assumption) (by omega)).2.1 | rfl) ?_
              refine V_iconst (v := nI 2) dX9_lay_48 (by decide) ?_
              first | refine U_icmp_ne (tgt := 55) dX9_lay_49 (by decide) (by with_reducible rfl) (by with_reducible rfl) (by omega) (by omega) (fun c49 => ?_) (fun c49 => ?_) | refine V_icmp_ne (tgt := 55) dX9_lay_49 (by decide) (fun c49 => ?_) (fun c49 => ?_)
              · skip
                refine V_aloadn0 dX9_lay_55 ?_
                refine V_getR dX9_lay_56 fX9_10 (by first | assumption | rfl | exact lay_s0 (by omega) | exact lay_s1 (by omega) | exact lay_s2 (by omega) | exact lay_h0 (by omega) | exact lay_h1 (by omega)) (by first | decide | omega) (by first | assumption | exact CL0_0 (by assumption) | exact CL0_1 (by assumption) | exact CL0_3 (by assumption) | exact CL0_4 (by assumption) | exact CL0_5 (by assumption) | exact CL0_6 (by assumption) | exact CL0_7 (by assumption) | exact CL0_8 (by assumption) | exact CL0_9 (by assumption) | exact CL0_10 (by assumption) | exact CL0_11 (by assumption) | exact CL0_12 (by assumption) | exact CL0_13 (by assumption) | exact CL1_2 (by assumption) | exact CL1_3 (by assumption) | exact CL80_2 (by assumption) | exact CL_slot (by assumption) (by omega) | exact (CL_sh (by assumption) (by omega)).1 | exact (CL_sh (by assumption) (by omega)).2.1 | rfl) ?_
                refine V_getR dX9_lay_59 fX9_99 (by first | assumption | rfl | exact lay_s0 (by omega) | exact lay_s1 (by omega) | exact lay_s2 (by omega) | exact lay_h0 (by omega) | exact lay_h1 (by omega)) (by first | decide | omega) (by first | assumption | exact CL0_0 (by assumption) | exact CL0_1 (by assumption) | exact CL0_3 (by assumption) | exact CL0_4 (by assumption) | exact CL0_5 (by assumption) | exact CL0_6 (by assumption) | exact CL0_7 (by assumption) | exact CL0_8 (by assumption) | exact CL0_9 (by assumption) | exact CL0_10 (by assumption) | exact CL0_11 (by assumption) | exact CL0_12 (by assumption) | exact CL0_13 (by assumption) | exact CL1_2 (by assumption) | exact CL1_3 (by assumption) | exact CL80_2 (by assumption) | exact CL_slot (by assumption) (by omega) | exact (CL_sh (by assumption) (by omega)).1 | exact (CL_sh (by assumption) (by omega)).2.1 | rfl) ?_
                refine V_iloadn1 dX9_lay_62 ?_
                refine U_aald dX9_lay_63 (by with_reducible rfl) (by first | assumption | rfl | exact lay_s0 (by omega) | exact lay_s1 (by omega) | exact lay_s2 (by omega) | exact lay_h0 (by omega) | exact lay_h1 (by omega)) (by decide) (by first | decide | omega) (by omega) (by first | assumption | exact CL0_0 (by assumption) | exact CL0_1 (by assumption) | exact CL0_3 (by assumption) | exact CL0_4 (by assumption) | exact CL0_5 (by assumption) | exact CL0_6 (by assumption) | exact CL0_7 (by assumption) | exact CL0_8 (by assumption) | exact CL0_9 (by assumption) | exact CL0_10 (by assumption) | exact CL0_11 (by assumption) | exact CL0_12 (by assumption) | exact CL0_13 (by assumption) | exact CL1_2 (by assumption) | exact CL1_3 (by assumption) | exact CL80_2 (by assumption) | exact CL_slot (by assumption) (by omega) | exact (CL_sh (by assumption) (by omega)).1 | exact (CL_sh (by assumption) (by omega)).2.1 | rfl) ?_
                refine V_astorew5 dX9_lay_64 (by decide) rfl ?_
                refine V_aloadw4 dX9_lay_66 ?_
                refine V_iloadn3 dX9_lay_68 ?_
                refine V_aloadw5 dX9_lay_69 ?_
                refine V_getI dX9_lay_71 fX9_107 (Or.inl rfl) (by first | assumption | rfl | exact lay_s0 (by omega) | exact lay_s1 (by omega) | exact lay_s2 (by omega) | exact lay_h0 (by omega) | exact lay_h1 (by omega)) (by first | decide | omega) (by first | assumption | exact CL0_0 (by assumption) | exact CL0_1 (by assumption) | exact CL0_3 (by assumption) | exact CL0_4 (by assumption) | exact CL0_5 (by assumption) | exact CL0_6 (by assumption) | exact CL0_7 (by assumption) | exact CL0_8 (by assumption) | exact CL0_9 (by assumption) | exact CL0_10 (by assumption) | exact CL0_11 (by assumption) | exact CL0_12 (by assumption) | exact CL0_13 (by assumption) | exact CL1_2 (by assumption) | exact CL1_3 (by assumption) | exact CL80_2 (by assumption) | exact CL_slot (by assumption) (by omega) | exact (CL_sh (by assumption) (by omega)).1 | exact (CL_sh (by assumption) (by omega)).2.1 | rfl) ?_
                refine V_callV2 (μ' := mX5_hasPlaces) dX9_lay_74 okX5_hasPlaces lX9_296 rfl (by first | assumption | rfl | exact lay_s0 (by omega) | exact lay_s1 (by omega) | exact lay_s2 (by omega) | exact lay_h0 (by omega) | exact lay_h1 (by omega)) (by first | decide | omega) (Nat.le_of_ble_eq_true rfl) (Nat.le_of_ble_eq_true rfl) (by omega) ?_
                refine c_hasPlaces y0 x1 ?_
                rw [hp]
                dsimp only [gPush]
                first | refine U_ifB_ne (tgt := 83) dX9_lay_77 (by decide) (by with_reducible rfl) (fun c77 => ?_) (fun c77 => ?_) | refine U_if_ne (tgt := 83) dX9_lay_77 (by decide) (by with_reducible rfl) (by omega) (fun c77 => ?_) (fun c77 => ?_) | refine V_if_ne (tgt := 83) dX9_lay_77 (by decide) (fun c77 => ?_) (fun c77 => ?_)
                · skip
                  refine V_iconst (v := nI 0) dX9_lay_83 (by decide) ?_
                  refine V_istorew6 dX9_lay_84 (by decide) rfl ?_
                  exact loop _ 0 h (Nat.zero_add _) (fun k hk => by rw [if_neg (by omega)]; exact x2 m2 k hk) rfl (fun _ _ => rfl) rfl
                · skip
                  cases c77
              · skip
                omega
            · skip
              cases c37
        · skip
          cases c11
  · have eq0 : f_lay S x y i = (-1, S) := if_neg hg
    rw [eq0] at hQ
    have hQ9 := hQ h hR FrC.rf
    refine V_iloadn1 dX9_lay_0 ?_
    refine V_callS1 (μ' := mX9_isSlot) dX9_lay_1 okX9_isSlot lX9_91 (Nat.le_of_ble_eq_true rfl) (Nat.le_of_ble_eq_true rfl) (by omega) ?_
    refine c_isSlot ?_
    dsimp only [gPush]
    first | refine U_ifB_eq (tgt := 14) dX9_lay_4 (by decide) (by with_reducible rfl) (fun c4 => ?_) (fun c4 => ?_) | refine U_if_eq (tgt := 14) dX9_lay_4 (by decide) (by with_reducible rfl) (by omega) (fun c4 => ?_) (fun c4 => ?_) | refine V_if_eq (tgt := 14) dX9_lay_4 (by decide) (fun c4 => ?_) (fun c4 => ?_)
    · skip
      refine V_iconst (v := -1) dX9_lay_14 (by decide) ?_
      refine V_iret dX9_lay_15 rfl rfl ?_
      exact hQ9
    · skip
      refine V_iloadn2 dX9_lay_7 ?_
      refine V_callS1 (μ' := mX9_isSheet) dX9_lay_8 okX9_isSheet lX9_283 (Nat.le_of_ble_eq_true rfl) (Nat.le_of_ble_eq_true rfl) (by omega) ?_
      refine c_isSheet ?_
      dsimp only [gPush]
      first | refine U_ifB_ne (tgt := 16) dX9_lay_11 (by decide) (by with_reducible rfl) (fun c11 => ?_) (fun c11 => ?_) | refine U_if_ne (tgt := 16) dX9_lay_11 (by decide) (by with_reducible rfl) (by omega) (fun c11 => ?_) (fun c11 => ?_) | refine V_if_ne (tgt := 16) dX9_lay_11 (by decide) (fun c11 => ?_) (fun c11 => ?_)
      · skip
        exact absurd (by rw [c4, c11]; rfl) hg
      · skip
        refine V_iconst (v := -1) dX9_lay_14 (by decide) ?_
        refine V_iret dX9_lay_15 rfl rfl ?_
        exact hQ9

set_option maxRecDepth 100000 in
set_option maxHeartbeats 4000000 in
theorem c_take {x i k y : Int32} (hd : 2 ≤ d) (hR : RC h S) (hQ : ∀ h', RC h' (f_take S x i k y).2 → FrC h h' → Q (some (.int (f_take S x i k y).1)) h') : V Γ mX9_take d 124 124 h 0 [some (.ref 0), some (.int x), some (.int i), some (.int k), some (.int y), none, none, none] [] Q := by
  obtain ⟨hC, hW, hA, hK, hK2, hB, hSh, hFm⟩ := id hR
  have n0 := hA.1
  have hn2 := hW.1.1
  have hn5 := hW.1.2.1
  by_cases hg : (inB x 4 && (inR k 0 6 && inB y 6)) = true
  · have hg2 := hg
    rw [Bool.and_eq_true, Bool.and_eq_true] at hg2
    obtain ⟨q, hq, rfl⟩ := inB_t (by decide) hg2.1
    obtain ⟨m, m0, m6, rfl⟩ := inR_t (by decide) (by decide) hg2.2.1
    obtain ⟨s, hs, rfl⟩ := inB_t (by decide) hg2.2.2
    obtain ⟨x0, x1, x2⟩ := hSh q hq
    obtain ⟨b1, b2, b3⟩ := hW.2.2.2 q hq
    obtain ⟨r45, r2, y0, y1⟩ := CL_sh hC hq
    have eq0 : f_take S (nI q) i (nI m) (nI s) = _ := if_t hg
    rw [eq0, cN_nI (by omega), cN_nI (by omega)] at hQ
    have eA : tkA S (nI q) i (nI m) = (List.range m).all (fun p => inR ((S.2.2.2 q).2.2 (cN i + p)) 1 S.1.1) := by unfold tkA; rw [cN_nI (by omega), cN_nI (by omega)]
    have eW : tkW S (nI q) i (nI m) = (List.range m).map (fun p => cN ((S.2.2.2 q).2.2 (cN i + p))) := by unfold tkW; rw [cN_nI (by omega), cN_nI (by omega)]
    by_cases hm : (S.2.2.2 q).1 = 0
    · rw [if_pos hm] at hQ
      have hQ9 := hQ h hR FrC.rf
      refine V_iloadn1 dX9_take_0 ?_
      refine V_callS1 (μ' := mX9_isSheet) dX9_take_1 okX9_isSheet lX9_283 (Nat.le_of_ble_eq_true rfl) (Nat.le_of_ble_eq_true rfl) (by omega) ?_
      refine c_isSheet ?_
      rw [hg2.1]
      dsimp only [gPush]
      first | refine U_ifB_eq (tgt := 25) dX9_take_4 (by decide) (by with_reducible rfl) (fun c4 => ?_) (fun c4 => ?_) | refine U_if_eq (tgt := 25) dX9_take_4 (by decide) (by with_reducible rfl) (by omega) (fun c4 => ?_) (fun c4 => ?_) | refine V_if_eq (tgt := 25) dX9_take_4 (by decide) (fun c4 => ?_) (fun c4 => ?_)
      · skip
        cases c4
      · skip
        refine V_iloadn3 dX9_take_7 ?_
        refine V_if_lt (tgt := 25) dX9_take_8 (by decide) (fun c8 => ?_) (fun c8 => ?_)
        · skip
          exact absurd c8 (nI_pos (by omega))
        · skip
          refine V_iloadn3 dX9_take_11 ?_
          refine V_bipush (v := nI 6) dX9_take_12 (by decide) ?_
          first | refine U_icmp_gt (tgt := 25) dX9_take_14 (by decide) (by with_reducible rfl) (by with_reducible rfl) (by omega) (by omega) (fun c14 => ?_) (fun c14 => ?_) | refine V_icmp_gt (tgt := 25) dX9_take_14 (by decide) (fun c14 => ?_) (fun c14 => ?_)
          · skip
            omega
          · skip
            refine V_iloadw4 dX9_take_17 ?_
            refine V_callS1 (μ' := mX9_isSlot) dX9_take_19 okX9_isSlot lX9_91 (Nat.le_of_ble_eq_true rfl) (Nat.le_of_ble_eq_true rfl) (by omega) ?_
            refine c_isSlot ?_
            rw [hg2.2.2]
            dsimp only [gPush]
            first | refine U_ifB_ne (tgt := 27) dX9_take_22 (by decide) (by with_reducible rfl) (fun c22 => ?_) (fun c22 => ?_) | refine U_if_ne (tgt := 27) dX9_take_22 (by decide) (by with_reducible rfl) (by omega) (fun c22 => ?_) (fun c22 => ?_) | refine V_if_ne (tgt := 27) dX9_take_22 (by decide) (fun c22 => ?_) (fun c22 => ?_)
            · skip
              refine V_aloadn0 dX9_take_27 ?_
              refine V_getR dX9_take_28 fX9_28 (by first | assumption | rfl | exact lay_s0 (by omega) | exact lay_s1 (by omega) | exact lay_s2 (by omega) | exact lay_h0 (by omega) | exact lay_h1 (by omega)) (by first | decide | omega) (by first | assumption | exact CL0_0 (by assumption) | exact CL0_1 (by assumption) | exact CL0_3 (by assumption) | exact CL0_4 (by assumption) | exact CL0_5 (by assumption) | exact CL0_6 (by assumption) | exact CL0_7 (by assumption) | exact CL0_8 (by assumption) | exact CL0_9 (by assumption) | exact CL0_10 (by assumption) | exact CL0_11 (by assumption) | exact CL0_12 (by assumption) | exact CL0_13 (by assumption) | exact CL1_2 (by assumption) | exact CL1_3 (by assumption) | exact CL80_2 (by assumption) | exact CL_slot (by assumption) (by omega) | exact (CL_sh (by assumption) (by omega)).1 | exact (CL_sh (by assumption) (by omega)).2.1 | rfl) ?_
              refine V_iloadn1 dX9_take_31 ?_
              refine U_aald dX9_take_32 (by with_reducible rfl) (by first | assumption | rfl | exact lay_s0 (by omega) | exact lay_s1 (by omega) | exact lay_s2 (by omega) | exact lay_h0 (by omega) | exact lay_h1 (by omega)) (by decide) (by first | decide | omega) (by omega) (by first | assumption | exact CL0_0 (by assumption) | exact CL0_1 (by assumption) | exact CL0_3 (by assumption) | exact CL0_4 (by assumption) | exact CL0_5 (by assumption) | exact CL0_6 (by assumption) | exact CL0_7 (by assumption) | exact CL0_8 (by assumption) | exact CL0_9 (by assumption) | exact CL0_10 (by assumption) | exact CL0_11 (by assumption) | exact CL0_12 (by assumption) | exact CL0_13 (by assumption) | exact CL1_2 (by assumption) | exact CL1_3 (by assumption) | exact CL80_2 (by assumption) | exact CL_slot (by assumption) (by omega) | exact (CL_sh (by assumption) (by omega)).1 | exact (CL_sh (by assumption) (by omega)).2.1 | rfl) ?_
              refine V_astorew5 dX9_take_33 (by decide) rfl ?_
              refine V_aloadw5 dX9_take_35 ?_
              refine V_callV0 (μ' := mX5_isMissing) dX9_take_37 okX5_isMissing lX9_293 rfl (by first | assumption | rfl | exact lay_s0 (by omega) | exact lay_s1 (by omega) | exact lay_s2 (by omega) | exact lay_h0 (by omega) | exact lay_h1 (by omega)) (by first | decide | omega) (Nat.le_of_ble_eq_true rfl) (Nat.le_of_ble_eq_true rfl) (by omega) ?_
              refine c_isMissing y0 x0 ?_
              rw [soI_z _ b1, decide_eq_true hm]
              dsimp only [gPush]
              first | refine U_ifB_eq (tgt := 46) dX9_take_40 (by decide) (by with_reducible rfl) (fun c40 => ?_) (fun c40 => ?_) | refine U_if_eq (tgt := 46) dX9_take_40 (by decide) (by with_reducible rfl) (by omega) (fun c40 => ?_) (fun c40 => ?_) | refine V_if_eq (tgt := 46) dX9_take_40 (by decide) (fun c40 => ?_) (fun c40 => ?_)
              · skip
                cases c40
              · skip
                refine V_bipush (v := -11) dX9_take_43 (by decide) ?_
                refine V_iret dX9_take_45 rfl rfl ?_
                exact hQ9
            · skip
              cases c22
    rw [if_neg hm] at hQ
    have x0' : gI h (86 + 2 * q) 0 = nI ((S.2.2.2 q).1 - 1) := by rw [x0, soI_p hm]
    by_cases h3 : (S.2.2.2 q).1 = 3
    · rw [if_pos h3] at hQ
      have hQ9 := hQ h hR FrC.rf
      refine V_iloadn1 dX9_take_0 ?_
      refine V_callS1 (μ' := mX9_isSheet) dX9_take_1 okX9_isSheet lX9_283 (Nat.le_of_ble_eq_true rfl) (Nat.le_of_ble_eq_true rfl) (by omega) ?_
      refine c_isSheet ?_
      rw [hg2.1]
      dsimp only [gPush]
      first | refine U_ifB_eq (tgt := 25) dX9_take_4 (by decide) (by with_reducible rfl) (fun c4 => ?_) (fun c4 => ?_) | refine U_if_eq (tgt := 25) dX9_take_4 (by decide) (by with_reducible rfl) (by omega) (fun c4 => ?_) (fun c4 => ?_) | refine V_if_eq (tgt := 25) dX9_take_4 (by decide) (fun c4 => ?_) (fun c4 => ?_)
      · skip
        cases c4
      · skip
        refine V_iloadn3 dX9_take_7 ?_
        refine V_if_lt (tgt := 25) dX9_take_8 (by decide) (fun c8 => ?_) (fun c8 => ?_)
        · skip
          exact absurd c8 (nI_pos (by omega))
        · skip
          refine V_iloadn3 dX9_take_11 ?_
          refine V_bipush (v := nI 6) dX9_take_12 (by decide) ?_
          first | refine U_icmp_gt (tgt := 25) dX9_take_14 (by decide) (by with_reducible rfl) (by with_reducible rfl) (by omega) (by omega) (fun c14 => ?_) (fun c14 => ?_) | refine V_icmp_gt (tgt := 25) dX9_take_14 (by decide) (fun c14 => ?_) (fun c14 => ?_)
          · skip
            omega
          · skip
            refine V_iloadw4 dX9_take_17 ?_
            refine V_callS1 (μ' := mX9_isSlot) dX9_take_19 okX9_isSlot lX9_91 (Nat.le_of_ble_eq_true rfl) (Nat.le_of_ble_eq_true rfl) (by omega) ?_
            refine c_isSlot ?_
            rw [hg2.2.2]
            dsimp only [gPush]
            first | refine U_ifB_ne (tgt := 27) dX9_take_22 (by decide) (by with_reducible rfl) (fun c22 => ?_) (fun c22 => ?_) | refine U_if_ne (tgt := 27) dX9_take_22 (by decide) (by with_reducible rfl) (by omega) (fun c22 => ?_) (fun c22 => ?_) | refine V_if_ne (tgt := 27) dX9_take_22 (by decide) (fun c22 => ?_) (fun c22 => ?_)
            · skip
              refine V_aloadn0 dX9_take_27 ?_
              refine V_getR dX9_take_28 fX9_28 (by first | assumption | rfl | exact lay_s0 (by omega) | exact lay_s1 (by omega) | exact lay_s2 (by omega) | exact lay_h0 (by omega) | exact lay_h1 (by omega)) (by first | decide | omega) (by first | assumption | exact CL0_0 (by assumption) | exact CL0_1 (by assumption) | exact CL0_3 (by assumption) | exact CL0_4 (by assumption) | exact CL0_5 (by assumption) | exact CL0_6 (by assumption) | exact CL0_7 (by assumption) | exact CL0_8 (by assumption) | exact CL0_9 (by assumption) | exact CL0_10 (by assumption) | exact CL0_11 (by assumption) | exact CL0_12 (by assumption) | exact CL0_13 (by assumption) | exact CL1_2 (by assumption) | exact CL1_3 (by assumption) | exact CL80_2 (by assumption) | exact CL_slot (by assumption) (by omega) | exact (CL_sh (by assumption) (by omega)).1 | exact (CL_sh (by assumption) (by omega)).2.1 | rfl) ?_
              refine V_iloadn1 dX9_take_31 ?_
              refine U_aald dX9_take_32 (by with_reducible rfl) (by first | assumption | rfl | exact lay_s0 (by omega) | exact lay_s1 (by omega) | exact lay_s2 (by omega) | exact lay_h0 (by omega) | exact lay_h1 (by omega)) (by decide) (by first | decide | omega) (by omega) (by first | assumption | exact CL0_0 (by assumption) | exact CL0_1 (by assumption) | exact CL0_3 (by assumption) | exact CL0_4 (by assumption) | exact CL0_5 (by assumption) | exact CL0_6 (by assumption) | exact CL0_7 (by assumption) | exact CL0_8 (by assumption) | exact CL0_9 (by assumption) | exact CL0_10 (by assumption) | exact CL0_11 (by assumption) | exact CL0_12 (by assumption) | exact CL0_13 (by assumption) | exact CL1_2 (by assumption) | exact CL1_3 (by assumption) | exact CL80_2 (by assumption) | exact CL_slot (by assumption) (by omega) | exact (CL_sh (by assumption) (by omega)).1 | exact (CL_sh (by assumption) (by omega)).2.1 | rfl) ?_
              refine V_astorew5 dX9_take_33 (by decide) rfl ?_
              refine V_aloadw5 dX9_take_35 ?_
              refine V_callV0 (μ' := mX5_isMissing) dX9_take_37 okX5_isMissing lX9_293 rfl (by first | assumption | rfl | exact lay_s0 (by omega) | exact lay_s1 (by omega) | exact lay_s2 (by omega) | exact lay_h0 (by omega) | exact lay_h1 (by omega)) (by first | decide | omega) (Nat.le_of_ble_eq_true rfl) (Nat.le_of_ble_eq_true rfl) (by omega) ?_
              refine c_isMissing y0 x0 ?_
              rw [soI_z _ b1, decide_eq_false hm]
              dsimp only [gPush]
              first | refine U_ifB_eq (tgt := 46) dX9_take_40 (by decide) (by with_reducible rfl) (fun c40 => ?_) (fun c40 => ?_) | refine U_if_eq (tgt := 46) dX9_take_40 (by decide) (by with_reducible rfl) (by omega) (fun c40 => ?_) (fun c40 => ?_) | refine V_if_eq (tgt := 46) dX9_take_40 (by decide) (fun c40 => ?_) (fun c40 => ?_)
              · skip
                refine V_aloadw5 dX9_take_46 ?_
                refine V_getI dX9_take_48 fX9_302 (Or.inl rfl) (by first | assumption | rfl | exact lay_s0 (by omega) | exact lay_s1 (by omega) | exact lay_s2 (by omega) | exact lay_h0 (by omega) | exact lay_h1 (by omega)) (by first | decide | omega) (by first | assumption | exact CL0_0 (by assumption) | exact CL0_1 (by assumption) | exact CL0_3 (by assumption) | exact CL0_4 (by assumption) | exact CL0_5 (by assumption) | exact CL0_6 (by assumption) | exact CL0_7 (by assumption) | exact CL0_8 (by assumption) | exact CL0_9 (by assumption) | exact CL0_10 (by assumption) | exact CL0_11 (by assumption) | exact CL0_12 (by assumption) | exact CL0_13 (by assumption) | exact CL1_2 (by assumption) | exact CL1_3 (by assumption) | exact CL80_2 (by assumption) | exact CL_slot (by assumption) (by omega) | exact (CL_sh (by assumption) (by omega)).1 | exact (CL_sh (by assumption) (by omega)).2.1 | rfl) ?_
                refine V_iconst (v := nI 2) dX9_take_51 (by decide) ?_
                first | refine U_icmp_ne (tgt := 58) dX9_take_52 (by decide) (by with_reducible rfl) (by with_reducible rfl) (by omega) (by omega) (fun c52 => ?_) (fun c52 => ?_) | refine V_icmp_ne (tgt := 58) dX9_take_52 (by decide) (fun c52 => ?_) (fun c52 => ?_)
                · skip
                  omega
                · skip
                  refine V_bipush (v := -13) dX9_take_55 (by decide) ?_
                  refine V_iret dX9_take_57 rfl rfl ?_
                  exact hQ9
              · skip
                cases c40
            · skip
              cases c22
    rw [if_neg h3] at hQ
    cases hp : hpB i (nI m) (S.2.2.2 q).2.1 with
    | false =>
      rw [if_f hp] at hQ
      have hQ9 := hQ h hR FrC.rf
      refine V_iloadn1 dX9_take_0 ?_
      refine V_callS1 (μ' := mX9_isSheet) dX9_take_1 okX9_isSheet lX9_283 (Nat.le_of_ble_eq_true rfl) (Nat.le_of_ble_eq_true rfl) (by omega) ?_
      refine c_isSheet ?_
      rw [hg2.1]
      dsimp only [gPush]
      first | refine U_ifB_eq (tgt := 25) dX9_take_4 (by decide) (by with_reducible rfl) (fun c4 => ?_) (fun c4 => ?_) | refine U_if_eq (tgt := 25) dX9_take_4 (by decide) (by with_reducible rfl) (by omega) (fun c4 => ?_) (fun c4 => ?_) | refine V_if_eq (tgt := 25) dX9_take_4 (by decide) (fun c4 => ?_) (fun c4 => ?_)
      · skip
        cases c4
      · skip
        refine V_iloadn3 dX9_take_7 ?_
        refine V_if_lt (tgt := 25) dX9_take_8 (by decide) (fun c8 => ?_) (fun c8 => ?_)
        · skip
          exact absurd c8 (nI_pos (by omega))
        · skip
          refine V_iloadn3 dX9_take_11 ?_
          refine V_bipush (v := nI 6) dX9_take_12 (by decide) ?_
          first | refine U_icmp_gt (tgt := 25) dX9_take_14 (by decide) (by with_reducible rfl) (by with_reducible rfl) (by omega) (by omega) (fun c14 => ?_) (fun c14 => ?_) | refine V_icmp_gt (tgt := 25) dX9_take_14 (by decide) (fun c14 => ?_) (fun c14 => ?_)
          · skip
            omega
          · skip
            refine V_iloadw4 dX9_take_17 ?_
            refine V_callS1 (μ' := mX9_isSlot) dX9_take_19 okX9_isSlot lX9_91 (Nat.le_of_ble_eq_true rfl) (Nat.le_of_ble_eq_true rfl) (by omega) ?_
            refine c_isSlot ?_
            rw [hg2.2.2]
            dsimp only [gPush]
            first | refine U_ifB_ne (tgt := 27) dX9_take_22 (by decide) (by with_reducible rfl) (fun c22 => ?_) (fun c22 => ?_) | refine U_if_ne (tgt := 27) dX9_take_22 (by decide) (by with_reducible rfl) (by omega) (fun c22 => ?_) (fun c22 => ?_) | refine V_if_ne (tgt := 27) dX9_take_22 (by decide) (fun c22 => ?_) (fun c22 => ?_)
            · skip
              refine V_aloadn0 dX9_take_27 ?_
              refine V_getR dX9_take_28 fX9_28 (by first | assumption | rfl | exact lay_s0 (by omega) | exact lay_s1 (by omega) | exact lay_s2 (by omega) | exact lay_h0 (by omega) | exact lay_h1 (by omega)) (by first | decide | omega) (by first | assumption | exact CL0_0 (by assumption) | exact CL0_1 (by assumption) | exact CL0_3 (by assumption) | exact CL0_4 (by assumption) | exact CL0_5 (by assumption) | exact CL0_6 (by assumption) | exact CL0_7 (by assumption) | exact CL0_8 (by assumption) | exact CL0_9 (by assumption) | exact CL0_10 (by assumption) | exact CL0_11 (by assumption) | exact CL0_12 (by assumption) | exact CL0_13 (by assumption) | exact CL1_2 (by assumption) | exact CL1_3 (by assumption) | exact CL80_2 (by assumption) | exact CL_slot (by assumption) (by omega) | exact (CL_sh (by assumption) (by omega)).1 | exact (CL_sh (by assumption) (by omega)).2.1 | rfl) ?_
              refine V_iloadn1 dX9_take_31 ?_
              refine U_aald dX9_take_32 (by with_reducible rfl) (by first | assumption | rfl | exact lay_s0 (by omega) | exact lay_s1 (by omega) | exact lay_s2 (by omega) | exact lay_h0 (by omega) | exact lay_h1 (by omega)) (by decide) (by first | decide | omega) (by omega) (by first | assumption | exact CL0_0 (by assumption) | exact CL0_1 (by assumption) | exact CL0_3 (by assumption) | exact CL0_4 (by assumption) | exact CL0_5 (by assumption) | exact CL0_6 (by assumption) | exact CL0_7 (by assumption) | exact CL0_8 (by assumption) | exact CL0_9 (by assumption) | exact CL0_10 (by assumption) | exact CL0_11 (by assumption) | exact CL0_12 (by assumption) | exact CL0_13 (by assumption) | exact CL1_2 (by assumption) | exact CL1_3 (by assumption) | exact CL80_2 (by assumption) | exact CL_slot (by assumption) (by omega) | exact (CL_sh (by assumption) (by omega)).1 | exact (CL_sh (by assumption) (by omega)).2.1 | rfl) ?_
              refine V_astorew5 dX9_take_33 (by decide) rfl ?_
              refine V_aloadw5 dX9_take_35 ?_
              refine V_callV0 (μ' := mX5_isMissing) dX9_take_37 okX5_isMissing lX9_293 rfl (by first | assumption | rfl | exact lay_s0 (by omega) | exact lay_s1 (by omega) | exact lay_s2 (by omega) | exact lay_h0 (by omega) | exact lay_h1 (by omega)) (by first | decide | omega) (Nat.le_of_ble_eq_true rfl) (Nat.le_of_ble_eq_true rfl) (by omega) ?_
              refine c_isMissing y0 x0 ?_
              rw [soI_z _ b1, decide_eq_false hm]
              dsimp only [gPush]
              first | refine U_ifB_eq (tgt := 46) dX9_take_40 (by decide) (by with_reducible rfl) (fun c40 => ?_) (fun c40 => ?_) | refine U_if_eq (tgt := 46) dX9_take_40 (by decide) (by with_reducible rfl) (by omega) (fun c40 => ?_) (fun c40 => ?_) | refine V_if_eq (tgt := 46) dX9_take_40 (by decide) (fun c40 => ?_) (fun c40 => ?_)
              · skip
                refine V_aloadw5 dX9_take_46 ?_
                refine V_getI dX9_take_48 fX9_302 (Or.inl rfl) (by first | assumption | rfl | exact lay_s0 (by omega) | exact lay_s1 (by omega) | exact lay_s2 (by omega) | exact lay_h0 (by omega) | exact lay_h1 (by omega)) (by first | decide | omega) (by first | assumption | exact CL0_0 (by assumption) | exact CL0_1 (by assumption) | exact CL0_3 (by assumption) | exact CL0_4 (by assumption) | exact CL0_5 (by assumption) | exact CL0_6 (by assumption) | exact CL0_7 (by assumption) | exact CL0_8 (by assumption) | exact CL0_9 (by assumption) | exact CL0_10 (by assumption) | exact CL0_11 (by assumption) | exact CL0_12 (by assumption) | exact CL0_13 (by assumption) | exact CL1_2 (by assumption) | exact CL1_3 (by assumption) | exact CL80_2 (by assumption) | exact CL_slot (by assumption) (by omega) | exact (CL_sh (by assumption) (by omega)).1 | exact (CL_sh (by assumption) (by omega)).2.1 | rfl) ?_
                refine V_iconst (v := nI 2) dX9_take_51 (by decide) ?_
                first | refine U_icmp_ne (tgt := 58) dX9_take_52 (by decide) (by with_reducible rfl) (by with_reducible rfl) (by omega) (by omega) (fun c52 => ?_) (fun c52 => ?_) | refine V_icmp_ne (tgt := 58) dX9_take_52 (by decide) (fun c52 => ?_) (fun c52 => ?_)
                · skip
                  refine V_aloadw5 dX9_take_58 ?_
                  refine V_iloadn2 dX9_take_60 ?_
                  refine V_iloadn3 dX9_take_61 ?_
                  refine V_callV2 (μ' := mX5_hasPlaces) dX9_take_62 okX5_hasPlaces lX9_296 rfl (by first | assumption | rfl | exact lay_s0 (by omega) | exact lay_s1 (by omega) | exact lay_s2 (by omega) | exact lay_h0 (by omega) | exact lay_h1 (by omega)) (by first | decide | omega) (Nat.le_of_ble_eq_true rfl) (Nat.le_of_ble_eq_true rfl) (by omega) ?_
                  refine c_hasPlaces y0 x1 ?_
                  rw [hp]
                  dsimp only [gPush]
                  first | refine U_ifB_ne (tgt := 71) dX9_take_65 (by decide) (by with_reducible rfl) (fun c65 => ?_) (fun c65 => ?_) | refine U_if_ne (tgt := 71) dX9_take_65 (by decide) (by with_reducible rfl) (by omega) (fun c65 => ?_) (fun c65 => ?_) | refine V_if_ne (tgt := 71) dX9_take_65 (by decide) (fun c65 => ?_) (fun c65 => ?_)
                  · skip
                    cases c65
                  · skip
                    refine V_bipush (v := -12) dX9_take_68 (by decide) ?_
                    refine V_iret dX9_take_70 rfl rfl ?_
                    exact hQ9
                · skip
                  omega
              · skip
                cases c40
            · skip
              cases c22
    | true =>
      rw [if_t hp] at hQ
      obtain ⟨i', m', i1, m1', rfl, em, im⟩ := hp_t (by omega) hp
      have em' := (nI_eq (by omega) m1').mp em
      rw [← em'] at im
      rw [cN_nI i1] at eA eW
      rw [eA, eW] at hQ
      generalize hWW : (List.range m).map (fun p => cN ((S.2.2.2 q).2.2 (i' + p))) = W at hQ
      have hWl : W.length = m := by rw [← hWW]; simp
      have hWg : ∀ p, p < m → W.getD p 0 = cN ((S.2.2.2 q).2.2 (i' + p)) := fun p hp => by rw [← hWW, List.getD_eq_getElem?_getD]; simp [hp]
      have loop : ∀ f p h1 x7, p + f = m → (∀ j, j < p → inR ((S.2.2.2 q).2.2 (i' + j)) 1 S.1.1 = true) → gI h1 80 0 = nI 1 → gI h1 80 1 = nI m → gI h1 80 3 = nI 0 → (∀ j, j < p → gI h1 81 j = nI (W.getD j 0)) → (∀ a, a ≠ 80 → a ≠ 81 → gI h1 a = gI h a) → gL h1 = gL h → gR h1 = gR h → V Γ mX9_take d 124 124 h1 82 [some (.ref 0), some (.int (nI q)), some (.int (nI i')), some (.int (nI m)), some (.int (nI s)), some (.ref (86 + 2 * q)), some (.int (nI p)), x7] [] Q := by
        intro f
        induction f with
        | zero =>
          intro p h1 x7 hpf hin t0 t1 t3 tw gi gl gr
          have ep : p = m := by omega
          subst ep
          have hC1 := CLay_eq hC gr
          have hall : ((List.range p).all (fun p => inR ((S.2.2.2 q).2.2 (i' + p)) 1 S.1.1)) = true := by
            rw [List.all_eq_true]
            intro j hj
            exact hin j (List.mem_range.mp hj)
          rw [if_t hall] at hQ
          have hLt : LtW S.1.1 W := fun j hj => by
            rw [hWl] at hj
            rw [hWg j hj]
            obtain ⟨v, v1, v2, v3⟩ := inR_t (by omega) (by omega) (hin j hj)
            rw [v3, cN_nI (by omega)]
            exact ⟨v1, v2⟩
          have hb : ∀ j, W.getD j 0 ≤ 9 := fun j => by
            by_cases c : j < W.length
            · have := (hLt j c).2; omega
            · rw [List.getD_eq_getElem?_getD, List.getElem?_eq_none (by omega)]; decide
          have hTI : TI h1 80 1 W [] := ⟨t0, by rw [t1, hWl], t3, fun j hj => tw j (by omega), fun r hr => absurd hr (Nat.not_lt_zero _), by omega, by decide, hb, fun r => by simp, by decide⟩
          have hR1 := RC_S hR (h' := h1) ⟨fun a ha => gi a (by omega) (by omega), by rw [gi 43 (by omega) (by omega)], fun a ha => by rw [gl], hC1⟩
          refine V_iloadw6 dX9_take_82 ?_
          refine V_iloadn3 dX9_take_84 ?_
          first | refine U_icmp_ge (tgt := 130) dX9_take_85 (by decide) (by with_reducible rfl) (by with_reducible rfl) (by omega) (by omega) (fun c85 => ?_) (fun c85 => ?_) | refine V_icmp_ge (tgt := 130) dX9_take_85 (by decide) (fun c85 => ?_) (fun c85 => ?_)
          · skip
            refine V_aloadn0 dX9_take_130 ?_
            refine V_getR dX9_take_131 fX9_10 (by first | assumption | rfl | exact lay_s0 (by omega) | exact lay_s1 (by omega) | exact lay_s2 (by omega) | exact lay_h0 (by omega) | exact lay_h1 (by omega)) (by first | decide | omega) (by first | assumption | exact CL0_0 (by assumption) | exact CL0_1 (by assumption) | exact CL0_3 (by assumption) | exact CL0_4 (by assumption) | exact CL0_5 (by assumption) | exact CL0_6 (by assumption) | exact CL0_7 (by assumption) | exact CL0_8 (by assumption) | exact CL0_9 (by assumption) | exact CL0_10 (by assumption) | exact CL0_11 (by assumption) | exact CL0_12 (by assumption) | exact CL0_13 (by assumption) | exact CL1_2 (by assumption) | exact CL1_3 (by assumption) | exact CL80_2 (by assumption) | exact CL_slot (by assumption) (by omega) | exact (CL_sh (by assumption) (by omega)).1 | exact (CL_sh (by assumption) (by omega)).2.1 | rfl) ?_
            refine V_getR dX9_take_134 fX9_99 (by first | assumption | rfl | exact lay_s0 (by omega) | exact lay_s1 (by omega) | exact lay_s2 (by omega) | exact lay_h0 (by omega) | exact lay_h1 (by omega)) (by first | decide | omega) (by first | assumption | exact CL0_0 (by assumption) | exact CL0_1 (by assumption) | exact CL0_3 (by assumption) | exact CL0_4 (by assumption) | exact CL0_5 (by assumption) | exact CL0_6 (by assumption) | exact CL0_7 (by assumption) | exact CL0_8 (by assumption) | exact CL0_9 (by assumption) | exact CL0_10 (by assumption) | exact CL0_11 (by assumption) | exact CL0_12 (by assumption) | exact CL0_13 (by assumption) | exact CL1_2 (by assumption) | exact CL1_3 (by assumption) | exact CL80_2 (by assumption) | exact CL_slot (by assumption) (by omega) | exact (CL_sh (by assumption) (by omega)).1 | exact (CL_sh (by assumption) (by omega)).2.1 | rfl) ?_
            refine V_iloadw4 dX9_take_137 ?_
            refine U_aald dX9_take_139 (by with_reducible rfl) (by first | assumption | rfl | exact lay_s0 (by omega) | exact lay_s1 (by omega) | exact lay_s2 (by omega) | exact lay_h0 (by omega) | exact lay_h1 (by omega)) (by decide) (by first | decide | omega) (by omega) (by first | assumption | exact CL0_0 (by assumption) | exact CL0_1 (by assumption) | exact CL0_3 (by assumption) | exact CL0_4 (by assumption) | exact CL0_5 (by assumption) | exact CL0_6 (by assumption) | exact CL0_7 (by assumption) | exact CL0_8 (by assumption) | exact CL0_9 (by assumption) | exact CL0_10 (by assumption) | exact CL0_11 (by assumption) | exact CL0_12 (by assumption) | exact CL0_13 (by assumption) | exact CL1_2 (by assumption) | exact CL1_3 (by assumption) | exact CL80_2 (by assumption) | exact CL_slot (by assumption) (by omega) | exact (CL_sh (by assumption) (by omega)).1 | exact (CL_sh (by assumption) (by omega)).2.1 | rfl) ?_
            refine V_aloadn0 dX9_take_140 ?_
            refine V_getR dX9_take_141 fX9_76 (by first | assumption | rfl | exact lay_s0 (by omega) | exact lay_s1 (by omega) | exact lay_s2 (by omega) | exact lay_h0 (by omega) | exact lay_h1 (by omega)) (by first | decide | omega) (by first | assumption | exact CL0_0 (by assumption) | exact CL0_1 (by assumption) | exact CL0_3 (by assumption) | exact CL0_4 (by assumption) | exact CL0_5 (by assumption) | exact CL0_6 (by assumption) | exact CL0_7 (by assumption) | exact CL0_8 (by assumption) | exact CL0_9 (by assumption) | exact CL0_10 (by assumption) | exact CL0_11 (by assumption) | exact CL0_12 (by assumption) | exact CL0_13 (by assumption) | exact CL1_2 (by assumption) | exact CL1_3 (by assumption) | exact CL80_2 (by assumption) | exact CL_slot (by assumption) (by omega) | exact (CL_sh (by assumption) (by omega)).1 | exact (CL_sh (by assumption) (by omega)).2.1 | rfl) ?_
            refine V_callV1 (μ' := mX8_becomeLike) dX9_take_144 okX8_becomeLike lX9_103 rfl (by first | assumption | rfl | exact lay_s0 (by omega) | exact lay_s1 (by omega) | exact lay_s2 (by omega) | exact lay_h0 (by omega) | exact lay_h1 (by omega)) (by first | decide | omega) (Nat.le_of_ble_eq_true rfl) (Nat.le_of_ble_eq_true rfl) (by omega) ?_
            refine c_becomeLike (by omega) (CL_T hC1 hs) (CL_80 hC1) hTI (by omega) (fun h2 hT2 hF2 => ?_)
            have hC2 := CLay_eq hC1 hF2.2.2
            have fin := hQ h2 (RC_put hR1 hs (WT_word (by omega) hLt) hT2 (hF2.wd (by omega) (by omega))) ⟨fun a ha => by rw [hF2.1 a (by omega), gi a (by omega) (by omega)], fun a ha => by rw [hF2.2.1, gl], fun a ha => by rw [hF2.2.2, gr]⟩
            dsimp only [gPush]
            refine V_aloadn0 dX9_take_147 ?_
            refine V_getR dX9_take_148 fX9_76 (by first | assumption | rfl | exact lay_s0 (by omega) | exact lay_s1 (by omega) | exact lay_s2 (by omega) | exact lay_h0 (by omega) | exact lay_h1 (by omega)) (by first | decide | omega) (by first | assumption | exact CL0_0 (by assumption) | exact CL0_1 (by assumption) | exact CL0_3 (by assumption) | exact CL0_4 (by assumption) | exact CL0_5 (by assumption) | exact CL0_6 (by assumption) | exact CL0_7 (by assumption) | exact CL0_8 (by assumption) | exact CL0_9 (by assumption) | exact CL0_10 (by assumption) | exact CL0_11 (by assumption) | exact CL0_12 (by assumption) | exact CL0_13 (by assumption) | exact CL1_2 (by assumption) | exact CL1_3 (by assumption) | exact CL80_2 (by assumption) | exact CL_slot (by assumption) (by omega) | exact (CL_sh (by assumption) (by omega)).1 | exact (CL_sh (by assumption) (by omega)).2.1 | rfl) ?_
            refine V_callV0 (μ' := mX8_number) dX9_take_151 okX8_number lX9_139 rfl (by first | assumption | rfl | exact lay_s0 (by omega) | exact lay_s1 (by omega) | exact lay_s2 (by omega) | exact lay_h0 (by omega) | exact lay_h1 (by omega)) (by first | decide | omega) (Nat.le_of_ble_eq_true rfl) (Nat.le_of_ble_eq_true rfl) (by omega) ?_
            refine c_number (by omega) (CL_80 hC2) (TI_fr hTI hF2 (by omega)) ?_
            dsimp only [gPush]
            refine V_iret dX9_take_154 rfl rfl ?_
            exact fin
          · skip
            omega
        | succ f ih =>
          intro p h1 x7 hpf hin t0 t1 t3 tw gi gl gr
          have hC1 := CLay_eq hC gr
          have z : gL h1 (86 + 2 * q + 1) (i' + p) = ((S.2.2.2 q).2.2 (i' + p)).toInt64 := by rw [gl]; exact x2 hm (i' + p) (by omega)
          have hR1 := RC_S hR (h' := h1) ⟨fun a ha => gi a (by omega) (by omega), by rw [gi 43 (by omega) (by omega)], fun a ha => by rw [gl], hC1⟩
          refine V_iloadw6 dX9_take_82 ?_
          refine V_iloadn3 dX9_take_84 ?_
          first | refine U_icmp_ge (tgt := 130) dX9_take_85 (by decide) (by with_reducible rfl) (by with_reducible rfl) (by omega) (by omega) (fun c85 => ?_) (fun c85 => ?_) | refine V_icmp_ge (tgt := 130) dX9_take_85 (by decide) (fun c85 => ?_) (fun c85 => ?_)
          · skip
            omega
          · skip
            refine V_aloadw5 dX9_take_88 ?_
            refine V_getR dX9_take_90 fX9_305 (by first | assumption | rfl | exact lay_s0 (by omega) | exact lay_s1 (by omega) | exact lay_s2 (by omega) | exact lay_h0 (by omega) | exact lay_h1 (by omega)) (by first | decide | omega) (by first | assumption | exact CL0_0 (by assumption) | exact CL0_1 (by assumption) | exact CL0_3 (by assumption) | exact CL0_4 (by assumption) | exact CL0_5 (by assumption) | exact CL0_6 (by assumption) | exact CL0_7 (by assumption) | exact CL0_8 (by assumption) | exact CL0_9 (by assumption) | exact CL0_10 (by assumption) | exact CL0_11 (by assumption) | exact CL0_12 (by assumption) | exact CL0_13 (by assumption) | exact CL1_2 (by assumption) | exact CL1_3 (by assumption) | exact CL80_2 (by assumption) | exact CL_slot (by assumption) (by omega) | exact (CL_sh (by assumption) (by omega)).1 | exact (CL_sh (by assumption) (by omega)).2.1 | rfl) ?_
            refine V_iloadn2 dX9_take_93 ?_
            refine V_iloadw6 dX9_take_94 ?_
            first | refine U_iadd dX9_take_96 (by with_reducible rfl) (by with_reducible rfl) ?_ | refine V_iadd dX9_take_96 ?_
            refine U_lald dX9_take_97 (by with_reducible rfl) (by first | assumption | rfl | exact lay_s0 (by omega) | exact lay_s1 (by omega) | exact lay_s2 (by omega) | exact lay_h0 (by omega) | exact lay_h1 (by omega)) (by first | decide | omega) (by omega) (by first | assumption | exact CL0_0 (by assumption) | exact CL0_1 (by assumption) | exact CL0_3 (by assumption) | exact CL0_4 (by assumption) | exact CL0_5 (by assumption) | exact CL0_6 (by assumption) | exact CL0_7 (by assumption) | exact CL0_8 (by assumption) | exact CL0_9 (by assumption) | exact CL0_10 (by assumption) | exact CL0_11 (by assumption) | exact CL0_12 (by assumption) | exact CL0_13 (by assumption) | exact CL1_2 (by assumption) | exact CL1_3 (by assumption) | exact CL80_2 (by assumption) | exact CL_slot (by assumption) (by omega) | exact (CL_sh (by assumption) (by omega)).1 | exact (CL_sh (by assumption) (by omega)).2.1 | rfl) ?_
            refine V_l2i dX9_take_98 (Int32.toInt32_toInt64 _) ?_
            refine V_istorew7 dX9_take_99 (by decide) rfl ?_
            refine V_aloadn0 dX9_take_101 ?_
            refine V_iloadw7 dX9_take_102 ?_
            refine V_callV1 (μ' := mX9_isLetter) dX9_take_104 okX9_isLetter lX9_254 rfl (by first | assumption | rfl | exact lay_s0 (by omega) | exact lay_s1 (by omega) | exact lay_s2 (by omega) | exact lay_h0 (by omega) | exact lay_h1 (by omega)) (by first | decide | omega) (Nat.le_of_ble_eq_true rfl) (Nat.le_of_ble_eq_true rfl) (by omega) ?_
            refine c_isLetter hn5 (CL0_0 hC1) (by rw [gi 1 (by omega) (by omega)]; exact n0) ?_
            dsimp only [gPush]
            first | refine U_ifB_ne (tgt := 112) dX9_take_107 (by decide) (by with_reducible rfl) (fun c107 => ?_) (fun c107 => ?_) | refine U_if_ne (tgt := 112) dX9_take_107 (by decide) (by with_reducible rfl) (by omega) (fun c107 => ?_) (fun c107 => ?_) | refine V_if_ne (tgt := 112) dX9_take_107 (by decide) (fun c107 => ?_) (fun c107 => ?_)
            · skip
              obtain ⟨v, v1, v2, v3⟩ := inR_t (by omega) (by omega) c107
              have ev : W.getD p 0 = v := by rw [hWg p (by omega), v3, cN_nI (by omega)]
              refine V_aloadn0 dX9_take_112 ?_
              refine V_getR dX9_take_113 fX9_76 (by first | assumption | rfl | exact lay_s0 (by omega) | exact lay_s1 (by omega) | exact lay_s2 (by omega) | exact lay_h0 (by omega) | exact lay_h1 (by omega)) (by first | decide | omega) (by first | assumption | exact CL0_0 (by assumption) | exact CL0_1 (by assumption) | exact CL0_3 (by assumption) | exact CL0_4 (by assumption) | exact CL0_5 (by assumption) | exact CL0_6 (by assumption) | exact CL0_7 (by assumption) | exact CL0_8 (by assumption) | exact CL0_9 (by assumption) | exact CL0_10 (by assumption) | exact CL0_11 (by assumption) | exact CL0_12 (by assumption) | exact CL0_13 (by assumption) | exact CL1_2 (by assumption) | exact CL1_3 (by assumption) | exact CL80_2 (by assumption) | exact CL_slot (by assumption) (by omega) | exact (CL_sh (by assumption) (by omega)).1 | exact (CL_sh (by assumption) (by omega)).2.1 | rfl) ?_
              refine V_getR dX9_take_116 fX9_277 (by first | assumption | rfl | exact lay_s0 (by omega) | exact lay_s1 (by omega) | exact lay_s2 (by omega) | exact lay_h0 (by omega) | exact lay_h1 (by omega)) (by first | decide | omega) (by first | assumption | exact CL0_0 (by assumption) | exact CL0_1 (by assumption) | exact CL0_3 (by assumption) | exact CL0_4 (by assumption) | exact CL0_5 (by assumption) | exact CL0_6 (by assumption) | exact CL0_7 (by assumption) | exact CL0_8 (by assumption) | exact CL0_9 (by assumption) | exact CL0_10 (by assumption) | exact CL0_11 (by assumption) | exact CL0_12 (by assumption) | exact CL0_13 (by assumption) | exact CL1_2 (by assumption) | exact CL1_3 (by assumption) | exact CL80_2 (by assumption) | exact CL_slot (by assumption) (by omega) | exact (CL_sh (by assumption) (by omega)).1 | exact (CL_sh (by assumption) (by omega)).2.1 | rfl) ?_
              refine V_iloadw6 dX9_take_119 ?_
              refine V_iloadw7 dX9_take_121 ?_
              refine U_iast dX9_take_123 (by with_reducible rfl) (by first | assumption | rfl | exact lay_s0 (by omega) | exact lay_s1 (by omega) | exact lay_s2 (by omega) | exact lay_h0 (by omega) | exact lay_h1 (by omega)) (by first | decide | omega) (by omega) ?_
              refine V_iinc6 dX9_take_124 (by first | exact ginc1 _ | rfl) (by decide) rfl ?_
              refine V_goto (tgt := 82) dX9_take_127 (by decide) ?_
              refine ih (p + 1) _ _ (by omega) (fun j hj => ?_) ?_ ?_ ?_ (fun j hj => ?_) (fun a a1 a2 => ?_) gl gr
              · by_cases e : j = p
                · rw [e]; exact c107
                · exact hin j (by omega)
              · rw [gI_sI, if_neg (by omega)]; exact t0
              · rw [gI_sI, if_neg (by omega)]; exact t1
              · rw [gI_sI, if_neg (by omega)]; exact t3
              · rw [gI_sI]
                by_cases e : j = p
                · rw [if_pos ⟨rfl, e⟩, e, ev]; exact v3
                · rw [if_neg (fun z => e z.2)]; exact tw j (by omega)
              · funext b
                rw [gI_sI, if_neg (fun z => a2 z.1), gi a a1 a2]
            · skip
              have hall : ((List.range m).all (fun p => inR ((S.2.2.2 q).2.2 (i' + p)) 1 S.1.1)) = false := by
                rw [List.all_eq_false]
                exact ⟨p, List.mem_range.mpr (by omega), by rw [c107]; exact Bool.false_ne_true⟩
              rw [if_f hall] at hQ
              have fin := hQ h1 hR1 ⟨fun a ha => gi a (by omega) (by omega), fun a ha => by rw [gl], fun a ha => by rw [gr]⟩
              refine V_iconst (v := -1) dX9_take_110 (by decide) ?_
              refine V_iret dX9_take_111 rfl rfl ?_
              exact fin
      refine V_iloadn1 dX9_take_0 ?_
      refine V_callS1 (μ' := mX9_isSheet) dX9_take_1 okX9_isSheet lX9_283 (Nat.le_of_ble_eq_true rfl) (Nat.le_of_ble_eq_true rfl) (by omega) ?_
      refine c_isSheet ?_
      rw [hg2.1]
      dsimp only [gPush]
      first | refine U_ifB_eq (tgt := 25) dX9_take_4 (by decide) (by with_reducible rfl) (fun c4 => ?_) (fun c4 => ?_) | refine U_if_eq (tgt := 25) dX9_take_4 (by decide) (by with_reducible rfl) (by omega) (fun c4 => ?_) (fun c4 => ?_) | refine V_if_eq (tgt := 25) dX9_take_4 (by decide) (fun c4 => ?_) (fun c4 => ?_)
      · skip
        cases c4
      · skip
        refine V_iloadn3 dX9_take_7 ?_
        refine V_if_lt (tgt := 25) dX9_take_8 (by decide) (fun c8 => ?_) (fun c8 => ?_)
        · skip
          exact absurd c8 (nI_pos (by omega))
        · skip
          refine V_iloadn3 dX9_take_11 ?_
          refine V_bipush (v := nI 6) dX9_take_12 (by decide) ?_
          first | refine U_icmp_gt (tgt := 25) dX9_take_14 (by decide) (by with_reducible rfl) (by with_reducible rfl) (by omega) (by omega) (fun c14 => ?_) (fun c14 => ?_) | refine V_icmp_gt (tgt := 25) dX9_take_14 (by decide) (fun c14 => ?_) (fun c14 => ?_)
          · skip
            omega
          · skip
            refine V_iloadw4 dX9_take_17 ?_
            refine V_callS1 (μ' := mX9_isSlot) dX9_take_19 okX9_isSlot lX9_91 (Nat.le_of_ble_eq_true rfl) (Nat.le_of_ble_eq_true rfl) (by omega) ?_
            refine c_isSlot ?_
            rw [hg2.2.2]
            dsimp only [gPush]
            first | refine U_ifB_ne (tgt := 27) dX9_take_22 (by decide) (by with_reducible rfl) (fun c22 => ?_) (fun c22 => ?_) | refine U_if_ne (tgt := 27) dX9_take_22 (by decide) (by with_reducible rfl) (by omega) (fun c22 => ?_) (fun c22 => ?_) | refine V_if_ne (tgt := 27) dX9_take_22 (by decide) (fun c22 => ?_) (fun c22 => ?_)
            · skip
              refine V_aloadn0 dX9_take_27 ?_
              refine V_getR dX9_take_28 fX9_28 (by first | assumption | rfl | exact lay_s0 (by omega) | exact lay_s1 (by omega) | exact lay_s2 (by omega) | exact lay_h0 (by omega) | exact lay_h1 (by omega)) (by first | decide | omega) (by first | assumption | exact CL0_0 (by assumption) | exact CL0_1 (by assumption) | exact CL0_3 (by assumption) | exact CL0_4 (by assumption) | exact CL0_5 (by assumption) | exact CL0_6 (by assumption) | exact CL0_7 (by assumption) | exact CL0_8 (by assumption) | exact CL0_9 (by assumption) | exact CL0_10 (by assumption) | exact CL0_11 (by assumption) | exact CL0_12 (by assumption) | exact CL0_13 (by assumption) | exact CL1_2 (by assumption) | exact CL1_3 (by assumption) | exact CL80_2 (by assumption) | exact CL_slot (by assumption) (by omega) | exact (CL_sh (by assumption) (by omega)).1 | exact (CL_sh (by assumption) (by omega)).2.1 | rfl) ?_
              refine V_iloadn1 dX9_take_31 ?_
              refine U_aald dX9_take_32 (by with_reducible rfl) (by first | assumption | rfl | exact lay_s0 (by omega) | exact lay_s1 (by omega) | exact lay_s2 (by omega) | exact lay_h0 (by omega) | exact lay_h1 (by omega)) (by decide) (by first | decide | omega) (by omega) (by first | assumption | exact CL0_0 (by assumption) | exact CL0_1 (by assumption) | exact CL0_3 (by assumption) | exact CL0_4 (by assumption) | exact CL0_5 (by assumption) | exact CL0_6 (by assumption) | exact CL0_7 (by assumption) | exact CL0_8 (by assumption) | exact CL0_9 (by assumption) | exact CL0_10 (by assumption) | exact CL0_11 (by assumption) | exact CL0_12 (by assumption) | exact CL0_13 (by assumption) | exact CL1_2 (by assumption) | exact CL1_3 (by assumption) | exact CL80_2 (by assumption) | exact CL_slot (by assumption) (by omega) | exact (CL_sh (by assumption) (by omega)).1 | exact (CL_sh (by assumption) (by omega)).2.1 | rfl) ?_
              refine V_astorew5 dX9_take_33 (by decide) rfl ?_
              refine V_aloadw5 dX9_take_35 ?_
              refine V_callV0 (μ' := mX5_isMissing) dX9_take_37 okX5_isMissing lX9_293 rfl (by first | assumption | rfl | exact lay_s0 (by omega) | exact lay_s1 (by omega) | exact lay_s2 (by omega) | exact lay_h0 (by omega) | exact lay_h1 (by omega)) (by first | decide | omega) (Nat.le_of_ble_eq_true rfl) (Nat.le_of_ble_eq_true rfl) (by omega) ?_
              refine c_isMissing y0 x0 ?_
              rw [soI_z _ b1, decide_eq_false hm]
              dsimp only [gPush]
              first | refine U_ifB_eq (tgt := 46) dX9_take_40 (by decide) (by with_reducible rfl) (fun c40 => ?_) (fun c40 => ?_) | refine U_if_eq (tgt := 46) dX9_take_40 (by decide) (by with_reducible rfl) (by omega) (fun c40 => ?_) (fun c40 => ?_) | refine V_if_eq (tgt := 46) dX9_take_40 (by decide) (fun c40 => ?_) (fun c40 => ?_)
              · skip
                refine V_aloadw5 dX9_take_46 ?_
                refine V_getI dX9_take_48 fX9_302 (Or.inl rfl) (by first | assumption | rfl | exact lay_s0 (by omega) | exact lay_s1 (by omega) | exact lay_s2 (by omega) | exact lay_h0 (by omega) | exact lay_h1 (by omega)) (by first | decide | omega) (by first | assumption | exact CL0_0 (by assumption) | exact CL0_1 (by assumption) | exact CL0_3 (by assumption) | exact CL0_4 (by assumption) | exact CL0_5 (by assumption) | exact CL0_6 (by assumption) | exact CL0_7 (by assumption) | exact CL0_8 (by assumption) | exact CL0_9 (by assumption) | exact CL0_10 (by assumption) | exact CL0_11 (by assumption) | exact CL0_12 (by assumption) | exact CL0_13 (by assumption) | exact CL1_2 (by assumption) | exact CL1_3 (by assumption) | exact CL80_2 (by assumption) | exact CL_slot (by assumption) (by omega) | exact (CL_sh (by assumption) (by omega)).1 | exact (CL_sh (by assumption) (by omega)).2.1 | rfl) ?_
                refine V_iconst (v := nI 2) dX9_take_51 (by decide) ?_
                first | refine U_icmp_ne (tgt := 58) dX9_take_52 (by decide) (by with_reducible rfl) (by with_reducible rfl) (by omega) (by omega) (fun c52 => ?_) (fun c52 => ?_) | refine V_icmp_ne (tgt := 58) dX9_take_52 (by decide) (fun c52 => ?_) (fun c52 => ?_)
                · skip
                  refine V_aloadw5 dX9_take_58 ?_
                  refine V_iloadn2 dX9_take_60 ?_
                  refine V_iloadn3 dX9_take_61 ?_
                  refine V_callV2 (μ' := mX5_hasPlaces) dX9_take_62 okX5_hasPlaces lX9_296 rfl (by first | assumption | rfl | exact lay_s0 (by omega) | exact lay_s1 (by omega) | exact lay_s2 (by omega) | exact lay_h0 (by omega) | exact lay_h1 (by omega)) (by first | decide | omega) (Nat.le_of_ble_eq_true rfl) (Nat.le_of_ble_eq_true rfl) (by omega) ?_
                  refine c_hasPlaces y0 x1 ?_
                  rw [hp]
                  dsimp only [gPush]
                  first | refine U_ifB_ne (tgt := 71) dX9_take_65 (by decide) (by with_reducible rfl) (fun c65 => ?_) (fun c65 => ?_) | refine U_if_ne (tgt := 71) dX9_take_65 (by decide) (by with_reducible rfl) (by omega) (fun c65 => ?_) (fun c65 => ?_) | refine V_if_ne (tgt := 71) dX9_take_65 (by decide) (fun c65 => ?_) (fun c65 => ?_)
                  · skip
                    refine V_aloadn0 dX9_take_71 ?_
                    refine V_getR dX9_take_72 fX9_76 (by first | assumption | rfl | exact lay_s0 (by omega) | exact lay_s1 (by omega) | exact lay_s2 (by omega) | exact lay_h0 (by omega) | exact lay_h1 (by omega)) (by first | decide | omega) (by first | assumption | exact CL0_0 (by assumption) | exact CL0_1 (by assumption) | exact CL0_3 (by assumption) | exact CL0_4 (by assumption) | exact CL0_5 (by assumption) | exact CL0_6 (by assumption) | exact CL0_7 (by assumption) | exact CL0_8 (by assumption) | exact CL0_9 (by assumption) | exact CL0_10 (by assumption) | exact CL0_11 (by assumption) | exact CL0_12 (by assumption) | exact CL0_13 (by assumption) | exact CL1_2 (by assumption) | exact CL1_3 (by assumption) | exact CL80_2 (by assumption) | exact CL_slot (by assumption) (by omega) | exact (CL_sh (by assumption) (by omega)).1 | exact (CL_sh (by assumption) (by omega)).2.1 | rfl) ?_
                    refine V_iloadn3 dX9_take_75 ?_
                    refine V_callV1 (μ' := mX8_becomeWordOf) dX9_take_76 okX8_becomeWordOf lX9_273 rfl (by first | assumption | rfl | exact lay_s0 (by omega) | exact lay_s1 (by omega) | exact lay_s2 (by omega) | exact lay_h0 (by omega) | exact lay_h1 (by omega)) (by first | decide | omega) (Nat.le_of_ble_eq_true rfl) (Nat.le_of_ble_eq_true rfl) (by omega) ?_
                    refine c_becomeWordOf (CL_80 hC) ?_
                    dsimp only [gPush]
                    refine V_iconst (v := nI 0) dX9_take_79 (by decide) ?_
                    refine V_istorew6 dX9_take_80 (by decide) rfl ?_
                    refine loop m 0 _ _ (by omega) (fun j hj => absurd hj (Nat.not_lt_zero _)) ?_ ?_ ?_ (fun j hj => absurd hj (Nat.not_lt_zero _)) (fun a a1 a2 => ?_) rfl rfl
                    · simp [gI_sI]
                    · simp [gI_sI]
                    · simp [gI_sI]
                    · funext b
                      rw [gI_sI, if_neg (by omega), gI_sI, if_neg (by omega), gI_sI, if_neg (by omega)]
                  · skip
                    cases c65
                · skip
                  omega
              · skip
                cases c40
            · skip
              cases c22
  · have eq0 : f_take S x i k y = (-1, S) := if_neg hg
    rw [eq0] at hQ
    have hQ9 := hQ h hR FrC.rf
    refine V_iloadn1 dX9_take_0 ?_
    refine V_callS1 (μ' := mX9_isSheet) dX9_take_1 okX9_isSheet lX9_283 (Nat.le_of_ble_eq_true rfl) (Nat.le_of_ble_eq_true rfl) (by omega) ?_
    refine c_isSheet ?_
    dsimp only [gPush]
    first | refine U_ifB_eq (tgt := 25) dX9_take_4 (by decide) (by with_reducible rfl) (fun c4 => ?_) (fun c4 => ?_) | refine U_if_eq (tgt := 25) dX9_take_4 (by decide) (by with_reducible rfl) (by omega) (fun c4 => ?_) (fun c4 => ?_) | refine V_if_eq (tgt := 25) dX9_take_4 (by decide) (fun c4 => ?_) (fun c4 => ?_)
    · skip
      refine V_iconst (v := -1) dX9_take_25 (by decide) ?_
      refine V_iret dX9_take_26 rfl rfl ?_
      exact hQ9
    · skip
      refine V_iloadn3 dX9_take_7 ?_
      refine V_if_lt (tgt := 25) dX9_take_8 (by decide) (fun c8 => ?_) (fun c8 => ?_)
      · skip
        refine V_iconst (v := -1) dX9_take_25 (by decide) ?_
        refine V_iret dX9_take_26 rfl rfl ?_
        exact hQ9
      · skip
        refine V_iloadn3 dX9_take_11 ?_
        refine V_bipush (v := nI 6) dX9_take_12 (by decide) ?_
        first | refine U_icmp_gt (tgt := 25) dX9_take_14 (by decide) (by with_reducible rfl) (by with_reducible rfl) (by omega) (by omega) (fun c14 => ?_) (fun c14 => ?_) | refine V_icmp_gt (tgt := 25) dX9_take_14 (by decide) (fun c14 => ?_) (fun c14 => ?_)
        · skip
          refine V_iconst (v := -1) dX9_take_25 (by decide) ?_
          refine V_iret dX9_take_26 rfl rfl ?_
          exact hQ9
        · skip
          refine V_iloadw4 dX9_take_17 ?_
          refine V_callS1 (μ' := mX9_isSlot) dX9_take_19 okX9_isSlot lX9_91 (Nat.le_of_ble_eq_true rfl) (Nat.le_of_ble_eq_true rfl) (by omega) ?_
          refine c_isSlot ?_
          dsimp only [gPush]
          first | refine U_ifB_ne (tgt := 27) dX9_take_22 (by decide) (by with_reducible rfl) (fun c22 => ?_) (fun c22 => ?_) | refine U_if_ne (tgt := 27) dX9_take_22 (by decide) (by with_reducible rfl) (by omega) (fun c22 => ?_) (fun c22 => ?_) | refine V_if_ne (tgt := 27) dX9_take_22 (by decide) (fun c22 => ?_) (fun c22 => ?_)
          · skip
            exact absurd (by rw [c4, inR_in0 c8 (Int32.not_lt.mp c14), c22]; rfl) hg
          · skip
            refine V_iconst (v := -1) dX9_take_25 (by decide) ?_
            refine V_iret dX9_take_26 rfl rfl ?_
            exact hQ9

end C53
