/-! ===== the class: signs, all, pair, insert, record, alike, act ===== -/
theorem nth_ok {M : Nat → Bool} {c p : Nat} (hc : c < 15680) (h1 : M c = true) (h2 : cF M c = p) : nthF M p = c := by
  unfold nthF
  cases hf : (List.range 15680).find? (fun c => M c && decide (cF M c = p)) with
  | none =>
    have := List.find?_eq_none.mp hf c (List.mem_range.mpr hc)
    simp [h1, h2] at this
  | some q =>
    have h3 := List.find?_some hf
    simp only [Bool.and_eq_true, decide_eq_true_eq] at h3
    exact cF_uniq (a := q) h3.1 h1 (by rw [h3.2, h2])
theorem rsq_t {w l : List Nat} {i : Nat} (h : fhC w i ≠ 0) : rsq w (i :: l) = rsq (raiseW w i) l := if_pos h
theorem rsq_f {w l : List Nat} {i : Nat} (h : ¬ fhC w i ≠ 0) : rsq w (i :: l) = none := if_neg h
theorem rsq_len : ∀ (l w u : List Nat), rsq w l = some u → u.length = w.length
  | [], w, u, h => by cases h; rfl
  | i :: l, w, u, h => by
    unfold rsq at h
    by_cases c : fhC w i ≠ 0
    · rw [if_pos c] at h
      rw [rsq_len l _ _ h, raiseW_len]
    · rw [if_neg c] at h; cases h
theorem int_m1 {i : Int32} (h1 : -1 ≤ i) (h2 : i < 0) : i = -1 := by
  have a1 := Int32.le_iff_toInt_le.mp h1
  have a2 := Int32.lt_iff_toInt_lt.mp h2
  apply Int32.toInt_inj.mp
  have e1 : (-1 : Int32).toInt = -1 := by decide
  have e2 : (0 : Int32).toInt = 0 := by decide
  rw [e1] at a1 ⊢
  rw [e2] at a2
  omega
section C47
variable {Γ : gM} {d : Nat} {h : gH} {Q : Option Value → gH → Prop} {S : GS}

set_option maxRecDepth 100000 in
set_option maxHeartbeats 4000000 in
theorem c_signs {x i y : Int32} (hd : 2 ≤ d) (hR : RC h S) (hQ : ∀ h', RC h' S → FrC h h' → Q (some (.int (g_signs S x i y))) h') : V Γ mX9_signs d 124 124 h 0 [some (.ref 0), some (.int x), some (.int i), some (.int y)] [] Q := by
  obtain ⟨hC, hW, hA, hK, hK2, hB, hSh, hFm⟩ := id hR
  have n0 := hA.1
  have hn2 := hW.1.1
  have hn5 := hW.1.2.1
  by_cases hg : (inB x 6 && (inS i S.1.1 && inR y 0 1)) = true
  · have hg2 := hg
    rw [Bool.and_eq_true, Bool.and_eq_true] at hg2
    obtain ⟨s, hs, rfl⟩ := inB_t (by decide) hg2.1
    obtain ⟨i', i1, i2, rfl⟩ := inS_t (by omega) hg2.2.1
    obtain ⟨k, k0, k4, rfl⟩ := inR_t (by decide) (by decide) hg2.2.2
    obtain ⟨hT, hWT⟩ := RC_slot hR hs
    have kd1 := hWT.1
    have eS : tS S (nI s) = S.1.2.2.1 s := by unfold tS; rw [cN_nI (by omega)]
    have eq0 : g_signs S (nI s) (nI i') (nI k) = _ := if_t hg
    rw [eq0, eS, cN_nI (by omega)] at hQ
    refine V_iloadn1 dX9_signs_0 ?_
    refine V_callS1 (μ' := mX9_isSlot) dX9_signs_1 okX9_isSlot lX9_91 (Nat.le_of_ble_eq_true rfl) (Nat.le_of_ble_eq_true rfl) (by omega) ?_
    refine c_isSlot ?_
    rw [hg2.1]
    dsimp only [gPush]
    first | refine U_ifB_eq (tgt := 24) dX9_signs_4 (by decide) (by with_reducible rfl) (fun c4 => ?_) (fun c4 => ?_) | refine U_if_eq (tgt := 24) dX9_signs_4 (by decide) (by with_reducible rfl) (by omega) (fun c4 => ?_) (fun c4 => ?_) | refine V_if_eq (tgt := 24) dX9_signs_4 (by decide) (fun c4 => ?_) (fun c4 => ?_)
    · skip
      cases c4
    · skip
      refine V_aloadn0 dX9_signs_7 ?_
      refine V_iloadn2 dX9_signs_8 ?_
      refine V_callV1 (μ' := mX9_isStep) dX9_signs_9 okX9_isStep lX9_153 rfl (by first | assumption | rfl | exact lay_s0 (by omega) | exact lay_s1 (by omega) | exact lay_s2 (by omega) | exact lay_h0 (by omega) | exact lay_h1 (by omega)) (by first | decide | omega) (Nat.le_of_ble_eq_true rfl) (Nat.le_of_ble_eq_true rfl) (by omega) ?_
      refine c_isStep hn5 (CL0_0 hC) n0 ?_
      rw [hg2.2.1]
      dsimp only [gPush]
      first | refine U_ifB_eq (tgt := 24) dX9_signs_12 (by decide) (by with_reducible rfl) (fun c12 => ?_) (fun c12 => ?_) | refine U_if_eq (tgt := 24) dX9_signs_12 (by decide) (by with_reducible rfl) (by omega) (fun c12 => ?_) (fun c12 => ?_) | refine V_if_eq (tgt := 24) dX9_signs_12 (by decide) (fun c12 => ?_) (fun c12 => ?_)
      · skip
        cases c12
      · skip
        refine V_iloadn3 dX9_signs_15 ?_
        refine V_if_lt (tgt := 24) dX9_signs_16 (by decide) (fun c16 => ?_) (fun c16 => ?_)
        · skip
          exact absurd c16 (nI_pos (by omega))
        · skip
          refine V_iloadn3 dX9_signs_19 ?_
          refine V_iconst (v := nI 1) dX9_signs_20 (by decide) ?_
          first | refine U_icmp_le (tgt := 26) dX9_signs_21 (by decide) (by with_reducible rfl) (by with_reducible rfl) (by omega) (by omega) (fun c21 => ?_) (fun c21 => ?_) | refine V_icmp_le (tgt := 26) dX9_signs_21 (by decide) (fun c21 => ?_) (fun c21 => ?_)
          · skip
            refine V_aloadn0 dX9_signs_26 ?_
            refine V_iloadn1 dX9_signs_27 ?_
            refine V_callV1 (μ' := mX9_isHeld) dX9_signs_28 okX9_isHeld lX9_130 rfl (by first | assumption | rfl | exact lay_s0 (by omega) | exact lay_s1 (by omega) | exact lay_s2 (by omega) | exact lay_h0 (by omega) | exact lay_h1 (by omega)) (by first | decide | omega) (Nat.le_of_ble_eq_true rfl) (Nat.le_of_ble_eq_true rfl) (by omega) ?_
            refine c_isHeld hs (CL0_0 hC) (CL1_2 hC) (CL_slot hC hs) (lay_s0 hs) hT.1 hWT.1 ?_
            dsimp only [gPush]
            first | refine U_ifB_ne (tgt := 37) dX9_signs_31 (by decide) (by with_reducible rfl) (fun c31 => ?_) (fun c31 => ?_) | refine U_if_ne (tgt := 37) dX9_signs_31 (by decide) (by with_reducible rfl) (by omega) (fun c31 => ?_) (fun c31 => ?_) | refine V_if_ne (tgt := 37) dX9_signs_31 (by decide) (fun c31 => ?_) (fun c31 => ?_)
            · skip
              have hz : ¬ (S.1.2.2.1 s).1 = 0 := of_decide_eq_true c31
              rw [if_neg hz] at hQ
              refine V_aloadn0 dX9_signs_37 ?_
              refine V_getR dX9_signs_38 fX9_35 (by first | assumption | rfl | exact lay_s0 (by omega) | exact lay_s1 (by omega) | exact lay_s2 (by omega) | exact lay_h0 (by omega) | exact lay_h1 (by omega)) (by first | decide | omega) (by first | assumption | exact CL0_0 (by assumption) | exact CL0_1 (by assumption) | exact CL0_3 (by assumption) | exact CL0_4 (by assumption) | exact CL0_5 (by assumption) | exact CL0_6 (by assumption) | exact CL0_7 (by assumption) | exact CL0_8 (by assumption) | exact CL0_9 (by assumption) | exact CL0_10 (by assumption) | exact CL0_11 (by assumption) | exact CL0_12 (by assumption) | exact CL0_13 (by assumption) | exact CL1_2 (by assumption) | exact CL1_3 (by assumption) | exact CL80_2 (by assumption) | exact CL_slot (by assumption) (by omega) | exact (CL_sh (by assumption) (by omega)).1 | exact (CL_sh (by assumption) (by omega)).2.1 | rfl) ?_
              refine V_aloadn0 dX9_signs_41 ?_
              refine V_getR dX9_signs_42 fX9_10 (by first | assumption | rfl | exact lay_s0 (by omega) | exact lay_s1 (by omega) | exact lay_s2 (by omega) | exact lay_h0 (by omega) | exact lay_h1 (by omega)) (by first | decide | omega) (by first | assumption | exact CL0_0 (by assumption) | exact CL0_1 (by assumption) | exact CL0_3 (by assumption) | exact CL0_4 (by assumption) | exact CL0_5 (by assumption) | exact CL0_6 (by assumption) | exact CL0_7 (by assumption) | exact CL0_8 (by assumption) | exact CL0_9 (by assumption) | exact CL0_10 (by assumption) | exact CL0_11 (by assumption) | exact CL0_12 (by assumption) | exact CL0_13 (by assumption) | exact CL1_2 (by assumption) | exact CL1_3 (by assumption) | exact CL80_2 (by assumption) | exact CL_slot (by assumption) (by omega) | exact (CL_sh (by assumption) (by omega)).1 | exact (CL_sh (by assumption) (by omega)).2.1 | rfl) ?_
              refine V_getR dX9_signs_45 fX9_99 (by first | assumption | rfl | exact lay_s0 (by omega) | exact lay_s1 (by omega) | exact lay_s2 (by omega) | exact lay_h0 (by omega) | exact lay_h1 (by omega)) (by first | decide | omega) (by first | assumption | exact CL0_0 (by assumption) | exact CL0_1 (by assumption) | exact CL0_3 (by assumption) | exact CL0_4 (by assumption) | exact CL0_5 (by assumption) | exact CL0_6 (by assumption) | exact CL0_7 (by assumption) | exact CL0_8 (by assumption) | exact CL0_9 (by assumption) | exact CL0_10 (by assumption) | exact CL0_11 (by assumption) | exact CL0_12 (by assumption) | exact CL0_13 (by assumption) | exact CL1_2 (by assumption) | exact CL1_3 (by assumption) | exact CL80_2 (by assumption) | exact CL_slot (by assumption) (by omega) | exact (CL_sh (by assumption) (by omega)).1 | exact (CL_sh (by assumption) (by omega)).2.1 | rfl) ?_
              refine V_iloadn1 dX9_signs_48 ?_
              refine U_aald dX9_signs_49 (by with_reducible rfl) (by first | assumption | rfl | exact lay_s0 (by omega) | exact lay_s1 (by omega) | exact lay_s2 (by omega) | exact lay_h0 (by omega) | exact lay_h1 (by omega)) (by decide) (by first | decide | omega) (by omega) (by first | assumption | exact CL0_0 (by assumption) | exact CL0_1 (by assumption) | exact CL0_3 (by assumption) | exact CL0_4 (by assumption) | exact CL0_5 (by assumption) | exact CL0_6 (by assumption) | exact CL0_7 (by assumption) | exact CL0_8 (by assumption) | exact CL0_9 (by assumption) | exact CL0_10 (by assumption) | exact CL0_11 (by assumption) | exact CL0_12 (by assumption) | exact CL0_13 (by assumption) | exact CL1_2 (by assumption) | exact CL1_3 (by assumption) | exact CL80_2 (by assumption) | exact CL_slot (by assumption) (by omega) | exact (CL_sh (by assumption) (by omega)).1 | exact (CL_sh (by assumption) (by omega)).2.1 | rfl) ?_
              refine V_iloadn2 dX9_signs_50 ?_
              refine V_callV2 (μ' := mX3_look) dX9_signs_51 okX3_look lX9_156 rfl (by first | assumption | rfl | exact lay_s0 (by omega) | exact lay_s1 (by omega) | exact lay_s2 (by omega) | exact lay_h0 (by omega) | exact lay_h1 (by omega)) (by first | decide | omega) (Nat.le_of_ble_eq_true rfl) (Nat.le_of_ble_eq_true rfl) (by omega) ?_
              refine c_look (by omega) (CL_T hC hs) hT (by omega) (by omega) (fun h1 z0 z1 hF1 => ?_)
              have hC1 := CLay_eq hC hF1.2.2
              have hQ' := hQ h1 (RC_S hR ⟨fun a ha => hF1.1 a (by omega), by rw [hF1.1 43 (by omega)], fun a ha => by rw [hF1.2.1], hC1⟩) (hF1.toC (by omega))
              dsimp only [gPush]
              refine V_iloadn3 dX9_signs_54 ?_
              first | refine U_ifB_ne (tgt := 68) dX9_signs_55 (by decide) (by with_reducible rfl) (fun c55 => ?_) (fun c55 => ?_) | refine U_if_ne (tgt := 68) dX9_signs_55 (by decide) (by with_reducible rfl) (by omega) (fun c55 => ?_) (fun c55 => ?_) | refine V_if_ne (tgt := 68) dX9_signs_55 (by decide) (fun c55 => ?_) (fun c55 => ?_)
              · skip
                rw [if_neg (fun q => c55 ((nI_eq (by omega) (by omega)).mp q))] at hQ'
                refine V_aloadn0 dX9_signs_68 ?_
                refine V_getR dX9_signs_69 fX9_35 (by first | assumption | rfl | exact lay_s0 (by omega) | exact lay_s1 (by omega) | exact lay_s2 (by omega) | exact lay_h0 (by omega) | exact lay_h1 (by omega)) (by first | decide | omega) (by first | assumption | exact CL0_0 (by assumption) | exact CL0_1 (by assumption) | exact CL0_3 (by assumption) | exact CL0_4 (by assumption) | exact CL0_5 (by assumption) | exact CL0_6 (by assumption) | exact CL0_7 (by assumption) | exact CL0_8 (by assumption) | exact CL0_9 (by assumption) | exact CL0_10 (by assumption) | exact CL0_11 (by assumption) | exact CL0_12 (by assumption) | exact CL0_13 (by assumption) | exact CL1_2 (by assumption) | exact CL1_3 (by assumption) | exact CL80_2 (by assumption) | exact CL_slot (by assumption) (by omega) | exact (CL_sh (by assumption) (by omega)).1 | exact (CL_sh (by assumption) (by omega)).2.1 | rfl) ?_
                refine V_getI dX9_signs_72 fX9_163 (Or.inl rfl) (by first | assumption | rfl | exact lay_s0 (by omega) | exact lay_s1 (by omega) | exact lay_s2 (by omega) | exact lay_h0 (by omega) | exact lay_h1 (by omega)) (by first | decide | omega) (by first | assumption | exact CL0_0 (by assumption) | exact CL0_1 (by assumption) | exact CL0_3 (by assumption) | exact CL0_4 (by assumption) | exact CL0_5 (by assumption) | exact CL0_6 (by assumption) | exact CL0_7 (by assumption) | exact CL0_8 (by assumption) | exact CL0_9 (by assumption) | exact CL0_10 (by assumption) | exact CL0_11 (by assumption) | exact CL0_12 (by assumption) | exact CL0_13 (by assumption) | exact CL1_2 (by assumption) | exact CL1_3 (by assumption) | exact CL80_2 (by assumption) | exact CL_slot (by assumption) (by omega) | exact (CL_sh (by assumption) (by omega)).1 | exact (CL_sh (by assumption) (by omega)).2.1 | rfl) ?_
                refine V_iret dX9_signs_75 rfl rfl ?_
                exact hQ'
              · skip
                rw [if_pos (by rw [c55])] at hQ'
                refine V_aloadn0 dX9_signs_58 ?_
                refine V_getR dX9_signs_59 fX9_35 (by first | assumption | rfl | exact lay_s0 (by omega) | exact lay_s1 (by omega) | exact lay_s2 (by omega) | exact lay_h0 (by omega) | exact lay_h1 (by omega)) (by first | decide | omega) (by first | assumption | exact CL0_0 (by assumption) | exact CL0_1 (by assumption) | exact CL0_3 (by assumption) | exact CL0_4 (by assumption) | exact CL0_5 (by assumption) | exact CL0_6 (by assumption) | exact CL0_7 (by assumption) | exact CL0_8 (by assumption) | exact CL0_9 (by assumption) | exact CL0_10 (by assumption) | exact CL0_11 (by assumption) | exact CL0_12 (by assumption) | exact CL0_13 (by assumption) | exact CL1_2 (by assumption) | exact CL1_3 (by assumption) | exact CL80_2 (by assumption) | exact CL_slot (by assumption) (by omega) | exact (CL_sh (by assumption) (by omega)).1 | exact (CL_sh (by assumption) (by omega)).2.1 | rfl) ?_
                refine V_getI dX9_signs_62 fX9_160 (Or.inl rfl) (by first | assumption | rfl | exact lay_s0 (by omega) | exact lay_s1 (by omega) | exact lay_s2 (by omega) | exact lay_h0 (by omega) | exact lay_h1 (by omega)) (by first | decide | omega) (by first | assumption | exact CL0_0 (by assumption) | exact CL0_1 (by assumption) | exact CL0_3 (by assumption) | exact CL0_4 (by assumption) | exact CL0_5 (by assumption) | exact CL0_6 (by assumption) | exact CL0_7 (by assumption) | exact CL0_8 (by assumption) | exact CL0_9 (by assumption) | exact CL0_10 (by assumption) | exact CL0_11 (by assumption) | exact CL0_12 (by assumption) | exact CL0_13 (by assumption) | exact CL1_2 (by assumption) | exact CL1_3 (by assumption) | exact CL80_2 (by assumption) | exact CL_slot (by assumption) (by omega) | exact (CL_sh (by assumption) (by omega)).1 | exact (CL_sh (by assumption) (by omega)).2.1 | rfl) ?_
                refine V_goto (tgt := 75) dX9_signs_65 (by decide) ?_
                refine V_iret dX9_signs_75 rfl rfl ?_
                exact hQ'
            · skip
              have hz : (S.1.2.2.1 s).1 = 0 := by simpa using c31
              rw [if_pos hz] at hQ
              have hQ' := hQ h hR FrC.rf
              refine V_bipush (v := -11) dX9_signs_34 (by decide) ?_
              refine V_iret dX9_signs_36 rfl rfl ?_
              exact hQ'
          · skip
            omega
  · have hQ9 := hQ h hR FrC.rf
    have eq0 : g_signs S x i y = -1 := if_neg hg
    rw [eq0] at hQ9
    refine V_iloadn1 dX9_signs_0 ?_
    refine V_callS1 (μ' := mX9_isSlot) dX9_signs_1 okX9_isSlot lX9_91 (Nat.le_of_ble_eq_true rfl) (Nat.le_of_ble_eq_true rfl) (by omega) ?_
    refine c_isSlot ?_
    dsimp only [gPush]
    first | refine U_ifB_eq (tgt := 24) dX9_signs_4 (by decide) (by with_reducible rfl) (fun c4 => ?_) (fun c4 => ?_) | refine U_if_eq (tgt := 24) dX9_signs_4 (by decide) (by with_reducible rfl) (by omega) (fun c4 => ?_) (fun c4 => ?_) | refine V_if_eq (tgt := 24) dX9_signs_4 (by decide) (fun c4 => ?_) (fun c4 => ?_)
    · skip
      refine V_iconst (v := -1) dX9_signs_24 (by decide) ?_
      refine V_iret dX9_signs_25 rfl rfl ?_
      exact hQ9
    · skip
      refine V_aloadn0 dX9_signs_7 ?_
      refine V_iloadn2 dX9_signs_8 ?_
      refine V_callV1 (μ' := mX9_isStep) dX9_signs_9 okX9_isStep lX9_153 rfl (by first | assumption | rfl | exact lay_s0 (by omega) | exact lay_s1 (by omega) | exact lay_s2 (by omega) | exact lay_h0 (by omega) | exact lay_h1 (by omega)) (by first | decide | omega) (Nat.le_of_ble_eq_true rfl) (Nat.le_of_ble_eq_true rfl) (by omega) ?_
      refine c_isStep hn5 (CL0_0 hC) n0 ?_
      dsimp only [gPush]
      first | refine U_ifB_eq (tgt := 24) dX9_signs_12 (by decide) (by with_reducible rfl) (fun c12 => ?_) (fun c12 => ?_) | refine U_if_eq (tgt := 24) dX9_signs_12 (by decide) (by with_reducible rfl) (by omega) (fun c12 => ?_) (fun c12 => ?_) | refine V_if_eq (tgt := 24) dX9_signs_12 (by decide) (fun c12 => ?_) (fun c12 => ?_)
      · skip
        refine V_iconst (v := -1) dX9_signs_24 (by decide) ?_
        refine V_iret dX9_signs_25 rfl rfl ?_
        exact hQ9
      · skip
        refine V_iloadn3 dX9_signs_15 ?_
        refine V_if_lt (tgt := 24) dX9_signs_16 (by decide) (fun c16 => ?_) (fun c16 => ?_)
        · skip
          refine V_iconst (v := -1) dX9_signs_24 (by decide) ?_
          refine V_iret dX9_signs_25 rfl rfl ?_
          exact hQ9
        · skip
          refine V_iloadn3 dX9_signs_19 ?_
          refine V_iconst (v := nI 1) dX9_signs_20 (by decide) ?_
          first | refine U_icmp_le (tgt := 26) dX9_signs_21 (by decide) (by with_reducible rfl) (by with_reducible rfl) (by omega) (by omega) (fun c21 => ?_) (fun c21 => ?_) | refine V_icmp_le (tgt := 26) dX9_signs_21 (by decide) (fun c21 => ?_) (fun c21 => ?_)
          · skip
            exact absurd (by rw [c4, c12, inR_in0 c16 c21]; rfl) hg
          · skip
            refine V_iconst (v := -1) dX9_signs_24 (by decide) ?_
            refine V_iret dX9_signs_25 rfl rfl ?_
            exact hQ9

set_option maxRecDepth 100000 in
set_option maxHeartbeats 4000000 in
theorem c_all {x i : Int32} (hd : 5 ≤ d) (hR : RC h S) (hQ : ∀ h', RC h' S → FrC h h' → Q (some (.int (g_all S x i))) h') : V Γ mX9_all d 124 124 h 0 [some (.ref 0), some (.int x), some (.int i)] [] Q := by
  obtain ⟨hC, hW, hA, hK, hK2, hB, hSh, hFm⟩ := id hR
  have n0 := hA.1
  have hn2 := hW.1.1
  have hn5 := hW.1.2.1
  by_cases hg : (inB x 6 && decide (-1 ≤ i)) = true
  · have hg2 := hg
    rw [Bool.and_eq_true] at hg2
    obtain ⟨s, hs, rfl⟩ := inB_t (by decide) hg2.1
    have hi : -1 ≤ i := of_decide_eq_true hg2.2
    obtain ⟨hT, hWT⟩ := RC_slot hR hs
    have hwl := hWT.2.1
    have hlt := hWT.2.2.1
    have eS : tS S (nI s) = S.1.2.2.1 s := by unfold tS; rw [cN_nI (by omega)]
    have eq0 : g_all S (nI s) i = _ := if_t hg
    rw [eq0, eS] at hQ
    have hcb := cF_le (famB S.1.1 (S.1.2.2.1 s).2.1) 15680
    by_cases hz : (S.1.2.2.1 s).1 = 0
    · rw [if_pos hz] at hQ
      have hQ' := hQ h hR FrC.rf
      refine V_iloadn1 dX9_all_0 ?_
      refine V_callS1 (μ' := mX9_isSlot) dX9_all_1 okX9_isSlot lX9_91 (Nat.le_of_ble_eq_true rfl) (Nat.le_of_ble_eq_true rfl) (by omega) ?_
      refine c_isSlot ?_
      rw [hg2.1]
      dsimp only [gPush]
      first | refine U_ifB_eq (tgt := 12) dX9_all_4 (by decide) (by with_reducible rfl) (fun c4 => ?_) (fun c4 => ?_) | refine U_if_eq (tgt := 12) dX9_all_4 (by decide) (by with_reducible rfl) (by omega) (fun c4 => ?_) (fun c4 => ?_) | refine V_if_eq (tgt := 12) dX9_all_4 (by decide) (fun c4 => ?_) (fun c4 => ?_)
      · skip
        cases c4
      · skip
        refine V_iloadn2 dX9_all_7 ?_
        refine V_iconst (v := -1) dX9_all_8 (by decide) ?_
        first | refine U_icmp_ge (tgt := 14) dX9_all_9 (by decide) (by with_reducible rfl) (by with_reducible rfl) (by omega) (by omega) (fun c9 => ?_) (fun c9 => ?_) | refine V_icmp_ge (tgt := 14) dX9_all_9 (by decide) (fun c9 => ?_) (fun c9 => ?_)
        · skip
          refine V_aloadn0 dX9_all_14 ?_
          refine V_iloadn1 dX9_all_15 ?_
          refine V_callV1 (μ' := mX9_isHeld) dX9_all_16 okX9_isHeld lX9_130 rfl (by first | assumption | rfl | exact lay_s0 (by omega) | exact lay_s1 (by omega) | exact lay_s2 (by omega) | exact lay_h0 (by omega) | exact lay_h1 (by omega)) (by first | decide | omega) (Nat.le_of_ble_eq_true rfl) (Nat.le_of_ble_eq_true rfl) (by omega) ?_
          refine c_isHeld hs (CL0_0 hC) (CL1_2 hC) (CL_slot hC hs) (lay_s0 hs) hT.1 hWT.1 ?_
          dsimp only [gPush]
          first | refine U_ifB_ne (tgt := 25) dX9_all_19 (by decide) (by with_reducible rfl) (fun c19 => ?_) (fun c19 => ?_) | refine U_if_ne (tgt := 25) dX9_all_19 (by decide) (by with_reducible rfl) (by omega) (fun c19 => ?_) (fun c19 => ?_) | refine V_if_ne (tgt := 25) dX9_all_19 (by decide) (fun c19 => ?_) (fun c19 => ?_)
          · skip
            exact absurd (of_decide_eq_true c19) (fun q => q hz)
          · skip
            refine V_bipush (v := -11) dX9_all_22 (by decide) ?_
            refine V_iret dX9_all_24 rfl rfl ?_
            exact hQ'
        · skip
          exact absurd hi c9
    rw [if_neg hz] at hQ
    by_cases hm : i = -1
    · subst hm
      rw [if_pos rfl] at hQ
      refine V_iloadn1 dX9_all_0 ?_
      refine V_callS1 (μ' := mX9_isSlot) dX9_all_1 okX9_isSlot lX9_91 (Nat.le_of_ble_eq_true rfl) (Nat.le_of_ble_eq_true rfl) (by omega) ?_
      refine c_isSlot ?_
      rw [hg2.1]
      dsimp only [gPush]
      first | refine U_ifB_eq (tgt := 12) dX9_all_4 (by decide) (by with_reducible rfl) (fun c4 => ?_) (fun c4 => ?_) | refine U_if_eq (tgt := 12) dX9_all_4 (by decide) (by with_reducible rfl) (by omega) (fun c4 => ?_) (fun c4 => ?_) | refine V_if_eq (tgt := 12) dX9_all_4 (by decide) (fun c4 => ?_) (fun c4 => ?_)
      · skip
        cases c4
      · skip
        refine V_iloadn2 dX9_all_7 ?_
        refine V_iconst (v := -1) dX9_all_8 (by decide) ?_
        first | refine U_icmp_ge (tgt := 14) dX9_all_9 (by decide) (by with_reducible rfl) (by with_reducible rfl) (by omega) (by omega) (fun c9 => ?_) (fun c9 => ?_) | refine V_icmp_ge (tgt := 14) dX9_all_9 (by decide) (fun c9 => ?_) (fun c9 => ?_)
        · skip
          refine V_aloadn0 dX9_all_14 ?_
          refine V_iloadn1 dX9_all_15 ?_
          refine V_callV1 (μ' := mX9_isHeld) dX9_all_16 okX9_isHeld lX9_130 rfl (by first | assumption | rfl | exact lay_s0 (by omega) | exact lay_s1 (by omega) | exact lay_s2 (by omega) | exact lay_h0 (by omega) | exact lay_h1 (by omega)) (by first | decide | omega) (Nat.le_of_ble_eq_true rfl) (Nat.le_of_ble_eq_true rfl) (by omega) ?_
          refine c_isHeld hs (CL0_0 hC) (CL1_2 hC) (CL_slot hC hs) (lay_s0 hs) hT.1 hWT.1 ?_
          dsimp only [gPush]
          first | refine U_ifB_ne (tgt := 25) dX9_all_19 (by decide) (by with_reducible rfl) (fun c19 => ?_) (fun c19 => ?_) | refine U_if_ne (tgt := 25) dX9_all_19 (by decide) (by with_reducible rfl) (by omega) (fun c19 => ?_) (fun c19 => ?_) | refine V_if_ne (tgt := 25) dX9_all_19 (by decide) (fun c19 => ?_) (fun c19 => ?_)
          · skip
            refine V_aloadn0 dX9_all_25 ?_
            refine V_getR dX9_all_26 fX9_49 (by first | assumption | rfl | exact lay_s0 (by omega) | exact lay_s1 (by omega) | exact lay_s2 (by omega) | exact lay_h0 (by omega) | exact lay_h1 (by omega)) (by first | decide | omega) (by first | assumption | exact CL0_0 (by assumption) | exact CL0_1 (by assumption) | exact CL0_3 (by assumption) | exact CL0_4 (by assumption) | exact CL0_5 (by assumption) | exact CL0_6 (by assumption) | exact CL0_7 (by assumption) | exact CL0_8 (by assumption) | exact CL0_9 (by assumption) | exact CL0_10 (by assumption) | exact CL0_11 (by assumption) | exact CL0_12 (by assumption) | exact CL0_13 (by assumption) | exact CL1_2 (by assumption) | exact CL1_3 (by assumption) | exact CL80_2 (by assumption) | exact CL_slot (by assumption) (by omega) | exact (CL_sh (by assumption) (by omega)).1 | exact (CL_sh (by assumption) (by omega)).2.1 | rfl) ?_
            refine V_aloadn0 dX9_all_29 ?_
            refine V_getR dX9_all_30 fX9_10 (by first | assumption | rfl | exact lay_s0 (by omega) | exact lay_s1 (by omega) | exact lay_s2 (by omega) | exact lay_h0 (by omega) | exact lay_h1 (by omega)) (by first | decide | omega) (by first | assumption | exact CL0_0 (by assumption) | exact CL0_1 (by assumption) | exact CL0_3 (by assumption) | exact CL0_4 (by assumption) | exact CL0_5 (by assumption) | exact CL0_6 (by assumption) | exact CL0_7 (by assumption) | exact CL0_8 (by assumption) | exact CL0_9 (by assumption) | exact CL0_10 (by assumption) | exact CL0_11 (by assumption) | exact CL0_12 (by assumption) | exact CL0_13 (by assumption) | exact CL1_2 (by assumption) | exact CL1_3 (by assumption) | exact CL80_2 (by assumption) | exact CL_slot (by assumption) (by omega) | exact (CL_sh (by assumption) (by omega)).1 | exact (CL_sh (by assumption) (by omega)).2.1 | rfl) ?_
            refine V_getR dX9_all_33 fX9_99 (by first | assumption | rfl | exact lay_s0 (by omega) | exact lay_s1 (by omega) | exact lay_s2 (by omega) | exact lay_h0 (by omega) | exact lay_h1 (by omega)) (by first | decide | omega) (by first | assumption | exact CL0_0 (by assumption) | exact CL0_1 (by assumption) | exact CL0_3 (by assumption) | exact CL0_4 (by assumption) | exact CL0_5 (by assumption) | exact CL0_6 (by assumption) | exact CL0_7 (by assumption) | exact CL0_8 (by assumption) | exact CL0_9 (by assumption) | exact CL0_10 (by assumption) | exact CL0_11 (by assumption) | exact CL0_12 (by assumption) | exact CL0_13 (by assumption) | exact CL1_2 (by assumption) | exact CL1_3 (by assumption) | exact CL80_2 (by assumption) | exact CL_slot (by assumption) (by omega) | exact (CL_sh (by assumption) (by omega)).1 | exact (CL_sh (by assumption) (by omega)).2.1 | rfl) ?_
            refine V_iloadn1 dX9_all_36 ?_
            refine U_aald dX9_all_37 (by with_reducible rfl) (by first | assumption | rfl | exact lay_s0 (by omega) | exact lay_s1 (by omega) | exact lay_s2 (by omega) | exact lay_h0 (by omega) | exact lay_h1 (by omega)) (by decide) (by first | decide | omega) (by omega) (by first | assumption | exact CL0_0 (by assumption) | exact CL0_1 (by assumption) | exact CL0_3 (by assumption) | exact CL0_4 (by assumption) | exact CL0_5 (by assumption) | exact CL0_6 (by assumption) | exact CL0_7 (by assumption) | exact CL0_8 (by assumption) | exact CL0_9 (by assumption) | exact CL0_10 (by assumption) | exact CL0_11 (by assumption) | exact CL0_12 (by assumption) | exact CL0_13 (by assumption) | exact CL1_2 (by assumption) | exact CL1_3 (by assumption) | exact CL80_2 (by assumption) | exact CL_slot (by assumption) (by omega) | exact (CL_sh (by assumption) (by omega)).1 | exact (CL_sh (by assumption) (by omega)).2.1 | rfl) ?_
            refine V_aloadn0 dX9_all_38 ?_
            refine V_getR dX9_all_39 fX9_10 (by first | assumption | rfl | exact lay_s0 (by omega) | exact lay_s1 (by omega) | exact lay_s2 (by omega) | exact lay_h0 (by omega) | exact lay_h1 (by omega)) (by first | decide | omega) (by first | assumption | exact CL0_0 (by assumption) | exact CL0_1 (by assumption) | exact CL0_3 (by assumption) | exact CL0_4 (by assumption) | exact CL0_5 (by assumption) | exact CL0_6 (by assumption) | exact CL0_7 (by assumption) | exact CL0_8 (by assumption) | exact CL0_9 (by assumption) | exact CL0_10 (by assumption) | exact CL0_11 (by assumption) | exact CL0_12 (by assumption) | exact CL0_13 (by assumption) | exact CL1_2 (by assumption) | exact CL1_3 (by assumption) | exact CL80_2 (by assumption) | exact CL_slot (by assumption) (by omega) | exact (CL_sh (by assumption) (by omega)).1 | exact (CL_sh (by assumption) (by omega)).2.1 | rfl) ?_
            refine V_getI dX9_all_42 fX9_84 (Or.inl rfl) (by first | assumption | rfl | exact lay_s0 (by omega) | exact lay_s1 (by omega) | exact lay_s2 (by omega) | exact lay_h0 (by omega) | exact lay_h1 (by omega)) (by first | decide | omega) (by first | assumption | exact CL0_0 (by assumption) | exact CL0_1 (by assumption) | exact CL0_3 (by assumption) | exact CL0_4 (by assumption) | exact CL0_5 (by assumption) | exact CL0_6 (by assumption) | exact CL0_7 (by assumption) | exact CL0_8 (by assumption) | exact CL0_9 (by assumption) | exact CL0_10 (by assumption) | exact CL0_11 (by assumption) | exact CL0_12 (by assumption) | exact CL0_13 (by assumption) | exact CL1_2 (by assumption) | exact CL1_3 (by assumption) | exact CL80_2 (by assumption) | exact CL_slot (by assumption) (by omega) | exact (CL_sh (by assumption) (by omega)).1 | exact (CL_sh (by assumption) (by omega)).2.1 | rfl) ?_
            refine V_aloadn0 dX9_all_45 ?_
            refine V_getR dX9_all_46 fX9_35 (by first | assumption | rfl | exact lay_s0 (by omega) | exact lay_s1 (by omega) | exact lay_s2 (by omega) | exact lay_h0 (by omega) | exact lay_h1 (by omega)) (by first | decide | omega) (by first | assumption | exact CL0_0 (by assumption) | exact CL0_1 (by assumption) | exact CL0_3 (by assumption) | exact CL0_4 (by assumption) | exact CL0_5 (by assumption) | exact CL0_6 (by assumption) | exact CL0_7 (by assumption) | exact CL0_8 (by assumption) | exact CL0_9 (by assumption) | exact CL0_10 (by assumption) | exact CL0_11 (by assumption) | exact CL0_12 (by assumption) | exact CL0_13 (by assumption) | exact CL1_2 (by assumption) | exact CL1_3 (by assumption) | exact CL80_2 (by assumption) | exact CL_slot (by assumption) (by omega) | exact (CL_sh (by assumption) (by omega)).1 | exact (CL_sh (by assumption) (by omega)).2.1 | rfl) ?_
            refine V_callV3 (μ' := mX0_gather) dX9_all_49 okX0_gather lX9_190 rfl (by first | assumption | rfl | exact lay_s0 (by omega) | exact lay_s1 (by omega) | exact lay_s2 (by omega) | exact lay_h0 (by omega) | exact lay_h1 (by omega)) (by first | decide | omega) (Nat.le_of_ble_eq_true rfl) (Nat.le_of_ble_eq_true rfl) (by omega) ?_
            refine c_gather (by omega) hn2 hn5 (CL_Fm hC) (CL_T hC hs) hT hlt (by omega) hFm (fun h1 hO1 hF1 => ?_)
            have hC1 := CLay_eq hC hF1.2.2
            have hR1 := RC_F hR hC1 hF1 ⟨S.1.1, (S.1.2.2.1 s).2.1, hn5, hwl, hO1⟩
            have m1 := hO1.2.1
            dsimp only [gPush]
            refine V_iloadn2 dX9_all_52 ?_
            refine V_iconst (v := -1) dX9_all_53 (by decide) ?_
            first | refine U_icmp_ne (tgt := 65) dX9_all_54 (by decide) (by with_reducible rfl) (by with_reducible rfl) (by omega) (by omega) (fun c54 => ?_) (fun c54 => ?_) | refine V_icmp_ne (tgt := 65) dX9_all_54 (by decide) (fun c54 => ?_) (fun c54 => ?_)
            · skip
              exact absurd rfl c54
            · skip
              refine V_aloadn0 dX9_all_57 ?_
              refine V_getR dX9_all_58 fX9_49 (by first | assumption | rfl | exact lay_s0 (by omega) | exact lay_s1 (by omega) | exact lay_s2 (by omega) | exact lay_h0 (by omega) | exact lay_h1 (by omega)) (by first | decide | omega) (by first | assumption | exact CL0_0 (by assumption) | exact CL0_1 (by assumption) | exact CL0_3 (by assumption) | exact CL0_4 (by assumption) | exact CL0_5 (by assumption) | exact CL0_6 (by assumption) | exact CL0_7 (by assumption) | exact CL0_8 (by assumption) | exact CL0_9 (by assumption) | exact CL0_10 (by assumption) | exact CL0_11 (by assumption) | exact CL0_12 (by assumption) | exact CL0_13 (by assumption) | exact CL1_2 (by assumption) | exact CL1_3 (by assumption) | exact CL80_2 (by assumption) | exact CL_slot (by assumption) (by omega) | exact (CL_sh (by assumption) (by omega)).1 | exact (CL_sh (by assumption) (by omega)).2.1 | rfl) ?_
              refine V_getI dX9_all_61 fX9_194 (Or.inl rfl) (by first | assumption | rfl | exact lay_s0 (by omega) | exact lay_s1 (by omega) | exact lay_s2 (by omega) | exact lay_h0 (by omega) | exact lay_h1 (by omega)) (by first | decide | omega) (by first | assumption | exact CL0_0 (by assumption) | exact CL0_1 (by assumption) | exact CL0_3 (by assumption) | exact CL0_4 (by assumption) | exact CL0_5 (by assumption) | exact CL0_6 (by assumption) | exact CL0_7 (by assumption) | exact CL0_8 (by assumption) | exact CL0_9 (by assumption) | exact CL0_10 (by assumption) | exact CL0_11 (by assumption) | exact CL0_12 (by assumption) | exact CL0_13 (by assumption) | exact CL1_2 (by assumption) | exact CL1_3 (by assumption) | exact CL80_2 (by assumption) | exact CL_slot (by assumption) (by omega) | exact (CL_sh (by assumption) (by omega)).1 | exact (CL_sh (by assumption) (by omega)).2.1 | rfl) ?_
              refine V_iret dX9_all_64 rfl rfl ?_
              exact hQ h1 hR1 hF1.toC
          · skip
            exact absurd (of_decide_eq_false c19) (fun q => q hz)
        · skip
          exact absurd hi c9
    rw [if_neg hm] at hQ
    have hi0 : ¬ i < 0 := fun q => hm (int_m1 hi q)
    obtain ⟨p, hp, rfl⟩ := nI_of hi0
    rw [cN_nI hp] at hQ
    refine V_iloadn1 dX9_all_0 ?_
    refine V_callS1 (μ' := mX9_isSlot) dX9_all_1 okX9_isSlot lX9_91 (Nat.le_of_ble_eq_true rfl) (Nat.le_of_ble_eq_true rfl) (by omega) ?_
    refine c_isSlot ?_
    rw [hg2.1]
    dsimp only [gPush]
    first | refine U_ifB_eq (tgt := 12) dX9_all_4 (by decide) (by with_reducible rfl) (fun c4 => ?_) (fun c4 => ?_) | refine U_if_eq (tgt := 12) dX9_all_4 (by decide) (by with_reducible rfl) (by omega) (fun c4 => ?_) (fun c4 => ?_) | refine V_if_eq (tgt := 12) dX9_all_4 (by decide) (fun c4 => ?_) (fun c4 => ?_)
    · skip
      cases c4
    · skip
      refine V_iloadn2 dX9_all_7 ?_
      refine V_iconst (v := -1) dX9_all_8 (by decide) ?_
      first | refine U_icmp_ge (tgt := 14) dX9_all_9 (by decide) (by with_reducible rfl) (by with_reducible rfl) (by omega) (by omega) (fun c9 => ?_) (fun c9 => ?_) | refine V_icmp_ge (tgt := 14) dX9_all_9 (by decide) (fun c9 => ?_) (fun c9 => ?_)
      · skip
        refine V_aloadn0 dX9_all_14 ?_
        refine V_iloadn1 dX9_all_15 ?_
        refine V_callV1 (μ' := mX9_isHeld) dX9_all_16 okX9_isHeld lX9_130 rfl (by first | assumption | rfl | exact lay_s0 (by omega) | exact lay_s1 (by omega) | exact lay_s2 (by omega) | exact lay_h0 (by omega) | exact lay_h1 (by omega)) (by first | decide | omega) (Nat.le_of_ble_eq_true rfl) (Nat.le_of_ble_eq_true rfl) (by omega) ?_
        refine c_isHeld hs (CL0_0 hC) (CL1_2 hC) (CL_slot hC hs) (lay_s0 hs) hT.1 hWT.1 ?_
        dsimp only [gPush]
        first | refine U_ifB_ne (tgt := 25) dX9_all_19 (by decide) (by with_reducible rfl) (fun c19 => ?_) (fun c19 => ?_) | refine U_if_ne (tgt := 25) dX9_all_19 (by decide) (by with_reducible rfl) (by omega) (fun c19 => ?_) (fun c19 => ?_) | refine V_if_ne (tgt := 25) dX9_all_19 (by decide) (fun c19 => ?_) (fun c19 => ?_)
        · skip
          refine V_aloadn0 dX9_all_25 ?_
          refine V_getR dX9_all_26 fX9_49 (by first | assumption | rfl | exact lay_s0 (by omega) | exact lay_s1 (by omega) | exact lay_s2 (by omega) | exact lay_h0 (by omega) | exact lay_h1 (by omega)) (by first | decide | omega) (by first | assumption | exact CL0_0 (by assumption) | exact CL0_1 (by assumption) | exact CL0_3 (by assumption) | exact CL0_4 (by assumption) | exact CL0_5 (by assumption) | exact CL0_6 (by assumption) | exact CL0_7 (by assumption) | exact CL0_8 (by assumption) | exact CL0_9 (by assumption) | exact CL0_10 (by assumption) | exact CL0_11 (by assumption) | exact CL0_12 (by assumption) | exact CL0_13 (by assumption) | exact CL1_2 (by assumption) | exact CL1_3 (by assumption) | exact CL80_2 (by assumption) | exact CL_slot (by assumption) (by omega) | exact (CL_sh (by assumption) (by omega)).1 | exact (CL_sh (by assumption) (by omega)).2.1 | rfl) ?_
          refine V_aloadn0 dX9_all_29 ?_
          refine V_getR dX9_all_30 fX9_10 (by first | assumption | rfl | exact lay_s0 (by omega) | exact lay_s1 (by omega) | exact lay_s2 (by omega) | exact lay_h0 (by omega) | exact lay_h1 (by omega)) (by first | decide | omega) (by first | assumption | exact CL0_0 (by assumption) | exact CL0_1 (by assumption) | exact CL0_3 (by assumption) | exact CL0_4 (by assumption) | exact CL0_5 (by assumption) | exact CL0_6 (by assumption) | exact CL0_7 (by assumption) | exact CL0_8 (by assumption) | exact CL0_9 (by assumption) | exact CL0_10 (by assumption) | exact CL0_11 (by assumption) | exact CL0_12 (by assumption) | exact CL0_13 (by assumption) | exact CL1_2 (by assumption) | exact CL1_3 (by assumption) | exact CL80_2 (by assumption) | exact CL_slot (by assumption) (by omega) | exact (CL_sh (by assumption) (by omega)).1 | exact (CL_sh (by assumption) (by omega)).2.1 | rfl) ?_
          refine V_getR dX9_all_33 fX9_99 (by first | assumption | rfl | exact lay_s0 (by omega) | exact lay_s1 (by omega) | exact lay_s2 (by omega) | exact lay_h0 (by omega) | exact lay_h1 (by omega)) (by first | decide | omega) (by first | assumption | exact CL0_0 (by assumption) | exact CL0_1 (by assumption) | exact CL0_3 (by assumption) | exact CL0_4 (by assumption) | exact CL0_5 (by assumption) | exact CL0_6 (by assumption) | exact CL0_7 (by assumption) | exact CL0_8 (by assumption) | exact CL0_9 (by assumption) | exact CL0_10 (by assumption) | exact CL0_11 (by assumption) | exact CL0_12 (by assumption) | exact CL0_13 (by assumption) | exact CL1_2 (by assumption) | exact CL1_3 (by assumption) | exact CL80_2 (by assumption) | exact CL_slot (by assumption) (by omega) | exact (CL_sh (by assumption) (by omega)).1 | exact (CL_sh (by assumption) (by omega)).2.1 | rfl) ?_
          refine V_iloadn1 dX9_all_36 ?_
          refine U_aald dX9_all_37 (by with_reducible rfl) (by first | assumption | rfl | exact lay_s0 (by omega) | exact lay_s1 (by omega) | exact lay_s2 (by omega) | exact lay_h0 (by omega) | exact lay_h1 (by omega)) (by decide) (by first | decide | omega) (by omega) (by first | assumption | exact CL0_0 (by assumption) | exact CL0_1 (by assumption) | exact CL0_3 (by assumption) | exact CL0_4 (by assumption) | exact CL0_5 (by assumption) | exact CL0_6 (by assumption) | exact CL0_7 (by assumption) | exact CL0_8 (by assumption) | exact CL0_9 (by assumption) | exact CL0_10 (by assumption) | exact CL0_11 (by assumption) | exact CL0_12 (by assumption) | exact CL0_13 (by assumption) | exact CL1_2 (by assumption) | exact CL1_3 (by assumption) | exact CL80_2 (by assumption) | exact CL_slot (by assumption) (by omega) | exact (CL_sh (by assumption) (by omega)).1 | exact (CL_sh (by assumption) (by omega)).2.1 | rfl) ?_
          refine V_aloadn0 dX9_all_38 ?_
          refine V_getR dX9_all_39 fX9_10 (by first | assumption | rfl | exact lay_s0 (by omega) | exact lay_s1 (by omega) | exact lay_s2 (by omega) | exact lay_h0 (by omega) | exact lay_h1 (by omega)) (by first | decide | omega) (by first | assumption | exact CL0_0 (by assumption) | exact CL0_1 (by assumption) | exact CL0_3 (by assumption) | exact CL0_4 (by assumption) | exact CL0_5 (by assumption) | exact CL0_6 (by assumption) | exact CL0_7 (by assumption) | exact CL0_8 (by assumption) | exact CL0_9 (by assumption) | exact CL0_10 (by assumption) | exact CL0_11 (by assumption) | exact CL0_12 (by assumption) | exact CL0_13 (by assumption) | exact CL1_2 (by assumption) | exact CL1_3 (by assumption) | exact CL80_2 (by assumption) | exact CL_slot (by assumption) (by omega) | exact (CL_sh (by assumption) (by omega)).1 | exact (CL_sh (by assumption) (by omega)).2.1 | rfl) ?_
          refine V_getI dX9_all_42 fX9_84 (Or.inl rfl) (by first | assumption | rfl | exact lay_s0 (by omega) | exact lay_s1 (by omega) | exact lay_s2 (by omega) | exact lay_h0 (by omega) | exact lay_h1 (by omega)) (by first | decide | omega) (by first | assumption | exact CL0_0 (by assumption) | exact CL0_1 (by assumption) | exact CL0_3 (by assumption) | exact CL0_4 (by assumption) | exact CL0_5 (by assumption) | exact CL0_6 (by assumption) | exact CL0_7 (by assumption) | exact CL0_8 (by assumption) | exact CL0_9 (by assumption) | exact CL0_10 (by assumption) | exact CL0_11 (by assumption) | exact CL0_12 (by assumption) | exact CL0_13 (by assumption) | exact CL1_2 (by assumption) | exact CL1_3 (by assumption) | exact CL80_2 (by assumption) | exact CL_slot (by assumption) (by omega) | exact (CL_sh (by assumption) (by omega)).1 | exact (CL_sh (by assumption) (by omega)).2.1 | rfl) ?_
          refine V_aloadn0 dX9_all_45 ?_
          refine V_getR dX9_all_46 fX9_35 (by first | assumption | rfl | exact lay_s0 (by omega) | exact lay_s1 (by omega) | exact lay_s2 (by omega) | exact lay_h0 (by omega) | exact lay_h1 (by omega)) (by first | decide | omega) (by first | assumption | exact CL0_0 (by assumption) | exact CL0_1 (by assumption) | exact CL0_3 (by assumption) | exact CL0_4 (by assumption) | exact CL0_5 (by assumption) | exact CL0_6 (by assumption) | exact CL0_7 (by assumption) | exact CL0_8 (by assumption) | exact CL0_9 (by assumption) | exact CL0_10 (by assumption) | exact CL0_11 (by assumption) | exact CL0_12 (by assumption) | exact CL0_13 (by assumption) | exact CL1_2 (by assumption) | exact CL1_3 (by assumption) | exact CL80_2 (by assumption) | exact CL_slot (by assumption) (by omega) | exact (CL_sh (by assumption) (by omega)).1 | exact (CL_sh (by assumption) (by omega)).2.1 | rfl) ?_
          refine V_callV3 (μ' := mX0_gather) dX9_all_49 okX0_gather lX9_190 rfl (by first | assumption | rfl | exact lay_s0 (by omega) | exact lay_s1 (by omega) | exact lay_s2 (by omega) | exact lay_h0 (by omega) | exact lay_h1 (by omega)) (by first | decide | omega) (Nat.le_of_ble_eq_true rfl) (Nat.le_of_ble_eq_true rfl) (by omega) ?_
          refine c_gather (by omega) hn2 hn5 (CL_Fm hC) (CL_T hC hs) hT hlt (by omega) hFm (fun h1 hO1 hF1 => ?_)
          have hC1 := CLay_eq hC hF1.2.2
          have hR1 := RC_F hR hC1 hF1 ⟨S.1.1, (S.1.2.2.1 s).2.1, hn5, hwl, hO1⟩
          have m1 := hO1.2.1
          dsimp only [gPush]
          refine V_iloadn2 dX9_all_52 ?_
          refine V_iconst (v := -1) dX9_all_53 (by decide) ?_
          first | refine U_icmp_ne (tgt := 65) dX9_all_54 (by decide) (by with_reducible rfl) (by with_reducible rfl) (by omega) (by omega) (fun c54 => ?_) (fun c54 => ?_) | refine V_icmp_ne (tgt := 65) dX9_all_54 (by decide) (fun c54 => ?_) (fun c54 => ?_)
          · skip
            refine V_iloadn2 dX9_all_65 ?_
            refine V_aloadn0 dX9_all_66 ?_
            refine V_getR dX9_all_67 fX9_49 (by first | assumption | rfl | exact lay_s0 (by omega) | exact lay_s1 (by omega) | exact lay_s2 (by omega) | exact lay_h0 (by omega) | exact lay_h1 (by omega)) (by first | decide | omega) (by first | assumption | exact CL0_0 (by assumption) | exact CL0_1 (by assumption) | exact CL0_3 (by assumption) | exact CL0_4 (by assumption) | exact CL0_5 (by assumption) | exact CL0_6 (by assumption) | exact CL0_7 (by assumption) | exact CL0_8 (by assumption) | exact CL0_9 (by assumption) | exact CL0_10 (by assumption) | exact CL0_11 (by assumption) | exact CL0_12 (by assumption) | exact CL0_13 (by assumption) | exact CL1_2 (by assumption) | exact CL1_3 (by assumption) | exact CL80_2 (by assumption) | exact CL_slot (by assumption) (by omega) | exact (CL_sh (by assumption) (by omega)).1 | exact (CL_sh (by assumption) (by omega)).2.1 | rfl) ?_
            refine V_getI dX9_all_70 fX9_194 (Or.inl rfl) (by first | assumption | rfl | exact lay_s0 (by omega) | exact lay_s1 (by omega) | exact lay_s2 (by omega) | exact lay_h0 (by omega) | exact lay_h1 (by omega)) (by first | decide | omega) (by first | assumption | exact CL0_0 (by assumption) | exact CL0_1 (by assumption) | exact CL0_3 (by assumption) | exact CL0_4 (by assumption) | exact CL0_5 (by assumption) | exact CL0_6 (by assumption) | exact CL0_7 (by assumption) | exact CL0_8 (by assumption) | exact CL0_9 (by assumption) | exact CL0_10 (by assumption) | exact CL0_11 (by assumption) | exact CL0_12 (by assumption) | exact CL0_13 (by assumption) | exact CL1_2 (by assumption) | exact CL1_3 (by assumption) | exact CL80_2 (by assumption) | exact CL_slot (by assumption) (by omega) | exact (CL_sh (by assumption) (by omega)).1 | exact (CL_sh (by assumption) (by omega)).2.1 | rfl) ?_
            first | refine U_icmp_ge (tgt := 87) dX9_all_73 (by decide) (by with_reducible rfl) (by with_reducible rfl) (by omega) (by omega) (fun c73 => ?_) (fun c73 => ?_) | refine V_icmp_ge (tgt := 87) dX9_all_73 (by decide) (fun c73 => ?_) (fun c73 => ?_)
            · skip
              rw [if_neg (fun q => by have := (nI_ltI hp (by omega)).mp q; omega)] at hQ
              have hQ' := hQ h1 hR1 hF1.toC
              refine V_bipush (v := -3) dX9_all_87 (by decide) ?_
              refine V_iret dX9_all_89 rfl rfl ?_
              exact hQ'
            · skip
              rw [if_pos ((nI_ltI hp (by omega)).mpr (by omega))] at hQ
              refine V_aloadn0 dX9_all_76 ?_
              refine V_getR dX9_all_77 fX9_49 (by first | assumption | rfl | exact lay_s0 (by omega) | exact lay_s1 (by omega) | exact lay_s2 (by omega) | exact lay_h0 (by omega) | exact lay_h1 (by omega)) (by first | decide | omega) (by first | assumption | exact CL0_0 (by assumption) | exact CL0_1 (by assumption) | exact CL0_3 (by assumption) | exact CL0_4 (by assumption) | exact CL0_5 (by assumption) | exact CL0_6 (by assumption) | exact CL0_7 (by assumption) | exact CL0_8 (by assumption) | exact CL0_9 (by assumption) | exact CL0_10 (by assumption) | exact CL0_11 (by assumption) | exact CL0_12 (by assumption) | exact CL0_13 (by assumption) | exact CL1_2 (by assumption) | exact CL1_3 (by assumption) | exact CL80_2 (by assumption) | exact CL_slot (by assumption) (by omega) | exact (CL_sh (by assumption) (by omega)).1 | exact (CL_sh (by assumption) (by omega)).2.1 | rfl) ?_
              refine V_iloadn2 dX9_all_80 ?_
              refine V_callV1 (μ' := mX0_numberOfMember) dX9_all_81 okX0_numberOfMember lX9_197 rfl (by first | assumption | rfl | exact lay_s0 (by omega) | exact lay_s1 (by omega) | exact lay_s2 (by omega) | exact lay_h0 (by omega) | exact lay_h1 (by omega)) (by first | decide | omega) (Nat.le_of_ble_eq_true rfl) (Nat.le_of_ble_eq_true rfl) (by omega) ?_
              refine c_numberOfMember (by omega) hn2 hn5 hwl (CL_Fm hC1) hO1 (by omega) (fun c h2 hc15 hcf hcp hF2 => ?_)
              rw [nth_ok hc15 hcf hcp] at hQ
              have hQ' := hQ h2 (RC_S hR1 ⟨fun a ha => hF2.1 a (by omega), by rw [hF2.1 43 (by omega)], fun a ha => by rw [hF2.2.1], CLay_eq hC1 hF2.2.2⟩) (hF1.toC.tr (hF2.toC (by omega)))
              dsimp only [gPush]
              refine V_goto (tgt := 89) dX9_all_84 (by decide) ?_
              refine V_iret dX9_all_89 rfl rfl ?_
              exact hQ'
          · skip
            exact absurd c54 hm
        · skip
          exact absurd (of_decide_eq_false c19) (fun q => q hz)
      · skip
        exact absurd hi c9
  · have hQ9 := hQ h hR FrC.rf
    have eq0 : g_all S x i = -1 := if_neg hg
    rw [eq0] at hQ9
    refine V_iloadn1 dX9_all_0 ?_
    refine V_callS1 (μ' := mX9_isSlot) dX9_all_1 okX9_isSlot lX9_91 (Nat.le_of_ble_eq_true rfl) (Nat.le_of_ble_eq_true rfl) (by omega) ?_
    refine c_isSlot ?_
    dsimp only [gPush]
    first | refine U_ifB_eq (tgt := 12) dX9_all_4 (by decide) (by with_reducible rfl) (fun c4 => ?_) (fun c4 => ?_) | refine U_if_eq (tgt := 12) dX9_all_4 (by decide) (by with_reducible rfl) (by omega) (fun c4 => ?_) (fun c4 => ?_) | refine V_if_eq (tgt := 12) dX9_all_4 (by decide) (fun c4 => ?_) (fun c4 => ?_)
    · skip
      refine V_iconst (v := -1) dX9_all_12 (by decide) ?_
      refine V_iret dX9_all_13 rfl rfl ?_
      exact hQ9
    · skip
      refine V_iloadn2 dX9_all_7 ?_
      refine V_iconst (v := -1) dX9_all_8 (by decide) ?_
      first | refine U_icmp_ge (tgt := 14) dX9_all_9 (by decide) (by with_reducible rfl) (by with_reducible rfl) (by omega) (by omega) (fun c9 => ?_) (fun c9 => ?_) | refine V_icmp_ge (tgt := 14) dX9_all_9 (by decide) (fun c9 => ?_) (fun c9 => ?_)
      · skip
        exact absurd (by rw [c4, decide_eq_true c9]; rfl) hg
      · skip
        refine V_iconst (v := -1) dX9_all_12 (by decide) ?_
        refine V_iret dX9_all_13 rfl rfl ?_
        exact hQ9

set_option maxRecDepth 100000 in
set_option maxHeartbeats 4000000 in
theorem c_meetInTwo {s i j : Nat} (hd : 2 ≤ d) (hR : RC h S) (hs : s < 6) (hi : 1 ≤ i) (hi8 : i ≤ 8) (hj : 1 ≤ j) (hj8 : j ≤ 8) (hQ : ∀ h', RC h' S → FrC h h' → Q (some (.int (gBo (metB (S.1.2.2.1 s).2.1 [i, j] [j, i])))) h') : V Γ mX9_meetInTwo d 124 124 h 0 [some (.ref 0), some (.ref (4 + 3 * s)), some (.int (nI i)), some (.int (nI j))] [] Q := by
  obtain ⟨hC, hW, hA, hK, hK2, hB, hSh, hFm⟩ := id hR
  obtain ⟨hT, hWT⟩ := RC_slot hR hs
  generalize (S.1.2.2.1 s).2.1 = w at hT hQ
  unfold metB at hQ
  refine V_aloadn0 dX9_meetInTwo_0 ?_
  refine V_getR dX9_meetInTwo_1 fX9_76 (by first | assumption | rfl | exact lay_s0 (by omega) | exact lay_s1 (by omega) | exact lay_s2 (by omega) | exact lay_h0 (by omega) | exact lay_h1 (by omega)) (by first | decide | omega) (by first | assumption | exact CL0_0 (by assumption) | exact CL0_1 (by assumption) | exact CL0_3 (by assumption) | exact CL0_4 (by assumption) | exact CL0_5 (by assumption) | exact CL0_6 (by assumption) | exact CL0_7 (by assumption) | exact CL0_8 (by assumption) | exact CL0_9 (by assumption) | exact CL0_10 (by assumption) | exact CL0_11 (by assumption) | exact CL0_12 (by assumption) | exact CL0_13 (by assumption) | exact CL1_2 (by assumption) | exact CL1_3 (by assumption) | exact CL80_2 (by assumption) | exact CL_slot (by assumption) (by omega) | exact (CL_sh (by assumption) (by omega)).1 | exact (CL_sh (by assumption) (by omega)).2.1 | rfl) ?_
  refine V_aloadn1 dX9_meetInTwo_4 ?_
  refine V_callV1 (μ' := mX8_becomeLike) dX9_meetInTwo_5 okX8_becomeLike lX9_103 rfl (by first | assumption | rfl | exact lay_s0 (by omega) | exact lay_s1 (by omega) | exact lay_s2 (by omega) | exact lay_h0 (by omega) | exact lay_h1 (by omega)) (by first | decide | omega) (Nat.le_of_ble_eq_true rfl) (Nat.le_of_ble_eq_true rfl) (by omega) ?_
  refine c_becomeLike (by omega) (CL_80 hC) (CL_T hC hs) hT (by omega) (fun h1 hT1 hF1 => ?_)
  have hC1 := CLay_eq hC hF1.2.2
  dsimp only [gPush]
  refine V_aloadn0 dX9_meetInTwo_8 ?_
  refine V_getR dX9_meetInTwo_9 fX9_80 (by first | assumption | rfl | exact lay_s0 (by omega) | exact lay_s1 (by omega) | exact lay_s2 (by omega) | exact lay_h0 (by omega) | exact lay_h1 (by omega)) (by first | decide | omega) (by first | assumption | exact CL0_0 (by assumption) | exact CL0_1 (by assumption) | exact CL0_3 (by assumption) | exact CL0_4 (by assumption) | exact CL0_5 (by assumption) | exact CL0_6 (by assumption) | exact CL0_7 (by assumption) | exact CL0_8 (by assumption) | exact CL0_9 (by assumption) | exact CL0_10 (by assumption) | exact CL0_11 (by assumption) | exact CL0_12 (by assumption) | exact CL0_13 (by assumption) | exact CL1_2 (by assumption) | exact CL1_3 (by assumption) | exact CL80_2 (by assumption) | exact CL_slot (by assumption) (by omega) | exact (CL_sh (by assumption) (by omega)).1 | exact (CL_sh (by assumption) (by omega)).2.1 | rfl) ?_
  refine V_aloadn1 dX9_meetInTwo_12 ?_
  refine V_callV1 (μ' := mX8_becomeLike) dX9_meetInTwo_13 okX8_becomeLike lX9_103 rfl (by first | assumption | rfl | exact lay_s0 (by omega) | exact lay_s1 (by omega) | exact lay_s2 (by omega) | exact lay_h0 (by omega) | exact lay_h1 (by omega)) (by first | decide | omega) (Nat.le_of_ble_eq_true rfl) (Nat.le_of_ble_eq_true rfl) (by omega) ?_
  refine c_becomeLike (by omega) (CL_83 hC1) (CL_T hC1 hs) (TI_fr hT hF1 (by omega)) (by omega) (fun h2 hT2 hF2 => ?_)
  have hC2 := CLay_eq hC1 hF2.2.2
  have d2 := TI_fr hT1 hF2 (by omega)
  have g2 : ∀ a, a < 46 ∨ 47 ≤ a → a < 80 ∨ 86 ≤ a → gI h2 a = gI h a := fun a a1 a2 => by rw [hF2.1 a (by omega), hF1.1 a (by omega)]
  have l2 : gL h2 = gL h := by rw [hF2.2.1, hF1.2.1]
  have k2 : gR h2 = gR h := by rw [hF2.2.2, hF1.2.2]
  have fin : ∀ h', CLay h' → (∀ a, a < 46 ∨ 47 ≤ a → a < 80 ∨ 86 ≤ a → gI h' a = gI h a) → gL h' = gL h → gR h' = gR h → RC h' S ∧ FrC h h' := fun h' c' g' l' k' => ⟨RC_S hR ⟨fun a ha => g' a (by omega) (by omega), by rw [g' 43 (by omega) (by omega)], fun a ha => by rw [l'], c'⟩, ⟨fun a ha => g' a (by omega) (by omega), fun a ha => by rw [l'], fun a ha => by rw [k']⟩⟩
  dsimp only [gPush]
  refine V_aloadn0 dX9_meetInTwo_16 ?_
  refine V_getR dX9_meetInTwo_17 fX9_35 (by first | assumption | rfl | exact lay_s0 (by omega) | exact lay_s1 (by omega) | exact lay_s2 (by omega) | exact lay_h0 (by omega) | exact lay_h1 (by omega)) (by first | decide | omega) (by first | assumption | exact CL0_0 (by assumption) | exact CL0_1 (by assumption) | exact CL0_3 (by assumption) | exact CL0_4 (by assumption) | exact CL0_5 (by assumption) | exact CL0_6 (by assumption) | exact CL0_7 (by assumption) | exact CL0_8 (by assumption) | exact CL0_9 (by assumption) | exact CL0_10 (by assumption) | exact CL0_11 (by assumption) | exact CL0_12 (by assumption) | exact CL0_13 (by assumption) | exact CL1_2 (by assumption) | exact CL1_3 (by assumption) | exact CL80_2 (by assumption) | exact CL_slot (by assumption) (by omega) | exact (CL_sh (by assumption) (by omega)).1 | exact (CL_sh (by assumption) (by omega)).2.1 | rfl) ?_
  refine V_aloadn0 dX9_meetInTwo_20 ?_
  refine V_getR dX9_meetInTwo_21 fX9_76 (by first | assumption | rfl | exact lay_s0 (by omega) | exact lay_s1 (by omega) | exact lay_s2 (by omega) | exact lay_h0 (by omega) | exact lay_h1 (by omega)) (by first | decide | omega) (by first | assumption | exact CL0_0 (by assumption) | exact CL0_1 (by assumption) | exact CL0_3 (by assumption) | exact CL0_4 (by assumption) | exact CL0_5 (by assumption) | exact CL0_6 (by assumption) | exact CL0_7 (by assumption) | exact CL0_8 (by assumption) | exact CL0_9 (by assumption) | exact CL0_10 (by assumption) | exact CL0_11 (by assumption) | exact CL0_12 (by assumption) | exact CL0_13 (by assumption) | exact CL1_2 (by assumption) | exact CL1_3 (by assumption) | exact CL80_2 (by assumption) | exact CL_slot (by assumption) (by omega) | exact (CL_sh (by assumption) (by omega)).1 | exact (CL_sh (by assumption) (by omega)).2.1 | rfl) ?_
  refine V_iloadn2 dX9_meetInTwo_24 ?_
  refine V_callV2 (μ' := mX3_raiseOnce) dX9_meetInTwo_25 okX3_raiseOnce lX9_328 rfl (by first | assumption | rfl | exact lay_s0 (by omega) | exact lay_s1 (by omega) | exact lay_s2 (by omega) | exact lay_h0 (by omega) | exact lay_h1 (by omega)) (by first | decide | omega) (Nat.le_of_ble_eq_true rfl) (Nat.le_of_ble_eq_true rfl) (by omega) ?_
  refine c_raiseOnce (by omega) (CL_80 hC2) d2 (by omega) (by omega) (fun h3 hT3 hF3 => ?_)
  have hC3 := CLay_eq hC2 hF3.2.2
  have g3 : ∀ a, a < 46 ∨ 47 ≤ a → a < 80 ∨ 86 ≤ a → gI h3 a = gI h a := fun a a1 a2 => by rw [hF3.1 a a1 (by omega), g2 a a1 a2]
  have l3 : gL h3 = gL h := by rw [hF3.2.1, l2]
  have k3 : gR h3 = gR h := by rw [hF3.2.2, k2]
  dsimp only [gPush]
  first | refine U_ifB_eq (tgt := 94) dX9_meetInTwo_28 (by decide) (by with_reducible rfl) (fun c28 => ?_) (fun c28 => ?_) | refine U_if_eq (tgt := 94) dX9_meetInTwo_28 (by decide) (by with_reducible rfl) (by omega) (fun c28 => ?_) (fun c28 => ?_) | refine V_if_eq (tgt := 94) dX9_meetInTwo_28 (by decide) (fun c28 => ?_) (fun c28 => ?_)
  · skip
    have z : rsq w [i, j] = none := rsq_f (of_decide_eq_false c28)
    rw [z] at hQ
    have hQ' := hQ h3 (fin h3 hC3 g3 l3 k3).1 (fin h3 hC3 g3 l3 k3).2
    refine V_iconst (v := nI 0) dX9_meetInTwo_94 (by decide) ?_
    refine V_iret dX9_meetInTwo_95 rfl (by first | exact gBo_nar _ | rfl | decide) ?_
    exact hQ'
  · skip
    have z1 : rsq w [i, j] = rsq (raiseW w i) [j] := rsq_t (of_decide_eq_true c28)
    rw [z1] at hQ
    refine V_aloadn0 dX9_meetInTwo_31 ?_
    refine V_getR dX9_meetInTwo_32 fX9_35 (by first | assumption | rfl | exact lay_s0 (by omega) | exact lay_s1 (by omega) | exact lay_s2 (by omega) | exact lay_h0 (by omega) | exact lay_h1 (by omega)) (by first | decide | omega) (by first | assumption | exact CL0_0 (by assumption) | exact CL0_1 (by assumption) | exact CL0_3 (by assumption) | exact CL0_4 (by assumption) | exact CL0_5 (by assumption) | exact CL0_6 (by assumption) | exact CL0_7 (by assumption) | exact CL0_8 (by assumption) | exact CL0_9 (by assumption) | exact CL0_10 (by assumption) | exact CL0_11 (by assumption) | exact CL0_12 (by assumption) | exact CL0_13 (by assumption) | exact CL1_2 (by assumption) | exact CL1_3 (by assumption) | exact CL80_2 (by assumption) | exact CL_slot (by assumption) (by omega) | exact (CL_sh (by assumption) (by omega)).1 | exact (CL_sh (by assumption) (by omega)).2.1 | rfl) ?_
    refine V_aloadn0 dX9_meetInTwo_35 ?_
    refine V_getR dX9_meetInTwo_36 fX9_76 (by first | assumption | rfl | exact lay_s0 (by omega) | exact lay_s1 (by omega) | exact lay_s2 (by omega) | exact lay_h0 (by omega) | exact lay_h1 (by omega)) (by first | decide | omega) (by first | assumption | exact CL0_0 (by assumption) | exact CL0_1 (by assumption) | exact CL0_3 (by assumption) | exact CL0_4 (by assumption) | exact CL0_5 (by assumption) | exact CL0_6 (by assumption) | exact CL0_7 (by assumption) | exact CL0_8 (by assumption) | exact CL0_9 (by assumption) | exact CL0_10 (by assumption) | exact CL0_11 (by assumption) | exact CL0_12 (by assumption) | exact CL0_13 (by assumption) | exact CL1_2 (by assumption) | exact CL1_3 (by assumption) | exact CL80_2 (by assumption) | exact CL_slot (by assumption) (by omega) | exact (CL_sh (by assumption) (by omega)).1 | exact (CL_sh (by assumption) (by omega)).2.1 | rfl) ?_
    refine V_iloadn3 dX9_meetInTwo_39 ?_
    refine V_callV2 (μ' := mX3_raiseOnce) dX9_meetInTwo_40 okX3_raiseOnce lX9_328 rfl (by first | assumption | rfl | exact lay_s0 (by omega) | exact lay_s1 (by omega) | exact lay_s2 (by omega) | exact lay_h0 (by omega) | exact lay_h1 (by omega)) (by first | decide | omega) (Nat.le_of_ble_eq_true rfl) (Nat.le_of_ble_eq_true rfl) (by omega) ?_
    refine c_raiseOnce (by omega) (CL_80 hC3) hT3 (by omega) (by omega) (fun h4 hT4 hF4 => ?_)
    have hC4 := CLay_eq hC3 hF4.2.2
    have g4 : ∀ a, a < 46 ∨ 47 ≤ a → a < 80 ∨ 86 ≤ a → gI h4 a = gI h a := fun a a1 a2 => by rw [hF4.1 a a1 (by omega), g3 a a1 a2]
    have l4 : gL h4 = gL h := by rw [hF4.2.1, l3]
    have k4 : gR h4 = gR h := by rw [hF4.2.2, k3]
    have r4 := TI_cg hT2 (h' := h4) (fun a a1 a2 => by rw [hF4.1 a (by omega) (by omega), hF3.1 a (by omega) (by omega)])
    dsimp only [gPush]
    first | refine U_ifB_eq (tgt := 94) dX9_meetInTwo_43 (by decide) (by with_reducible rfl) (fun c43 => ?_) (fun c43 => ?_) | refine U_if_eq (tgt := 94) dX9_meetInTwo_43 (by decide) (by with_reducible rfl) (by omega) (fun c43 => ?_) (fun c43 => ?_) | refine V_if_eq (tgt := 94) dX9_meetInTwo_43 (by decide) (fun c43 => ?_) (fun c43 => ?_)
    · skip
      have z : rsq (raiseW w i) [j] = none := rsq_f (of_decide_eq_false c43)
      rw [z] at hQ
      have hQ' := hQ h4 (fin h4 hC4 g4 l4 k4).1 (fin h4 hC4 g4 l4 k4).2
      refine V_iconst (v := nI 0) dX9_meetInTwo_94 (by decide) ?_
      refine V_iret dX9_meetInTwo_95 rfl (by first | exact gBo_nar _ | rfl | decide) ?_
      exact hQ'
    · skip
      have z2 : rsq (raiseW w i) [j] = some (raiseW (raiseW w i) j) := rsq_t (of_decide_eq_true c43)
      rw [z2] at hQ
      refine V_aloadn0 dX9_meetInTwo_46 ?_
      refine V_getR dX9_meetInTwo_47 fX9_35 (by first | assumption | rfl | exact lay_s0 (by omega) | exact lay_s1 (by omega) | exact lay_s2 (by omega) | exact lay_h0 (by omega) | exact lay_h1 (by omega)) (by first | decide | omega) (by first | assumption | exact CL0_0 (by assumption) | exact CL0_1 (by assumption) | exact CL0_3 (by assumption) | exact CL0_4 (by assumption) | exact CL0_5 (by assumption) | exact CL0_6 (by assumption) | exact CL0_7 (by assumption) | exact CL0_8 (by assumption) | exact CL0_9 (by assumption) | exact CL0_10 (by assumption) | exact CL0_11 (by assumption) | exact CL0_12 (by assumption) | exact CL0_13 (by assumption) | exact CL1_2 (by assumption) | exact CL1_3 (by assumption) | exact CL80_2 (by assumption) | exact CL_slot (by assumption) (by omega) | exact (CL_sh (by assumption) (by omega)).1 | exact (CL_sh (by assumption) (by omega)).2.1 | rfl) ?_
      refine V_aloadn0 dX9_meetInTwo_50 ?_
      refine V_getR dX9_meetInTwo_51 fX9_80 (by first | assumption | rfl | exact lay_s0 (by omega) | exact lay_s1 (by omega) | exact lay_s2 (by omega) | exact lay_h0 (by omega) | exact lay_h1 (by omega)) (by first | decide | omega) (by first | assumption | exact CL0_0 (by assumption) | exact CL0_1 (by assumption) | exact CL0_3 (by assumption) | exact CL0_4 (by assumption) | exact CL0_5 (by assumption) | exact CL0_6 (by assumption) | exact CL0_7 (by assumption) | exact CL0_8 (by assumption) | exact CL0_9 (by assumption) | exact CL0_10 (by assumption) | exact CL0_11 (by assumption) | exact CL0_12 (by assumption) | exact CL0_13 (by assumption) | exact CL1_2 (by assumption) | exact CL1_3 (by assumption) | exact CL80_2 (by assumption) | exact CL_slot (by assumption) (by omega) | exact (CL_sh (by assumption) (by omega)).1 | exact (CL_sh (by assumption) (by omega)).2.1 | rfl) ?_
      refine V_iloadn3 dX9_meetInTwo_54 ?_
      refine V_callV2 (μ' := mX3_raiseOnce) dX9_meetInTwo_55 okX3_raiseOnce lX9_328 rfl (by first | assumption | rfl | exact lay_s0 (by omega) | exact lay_s1 (by omega) | exact lay_s2 (by omega) | exact lay_h0 (by omega) | exact lay_h1 (by omega)) (by first | decide | omega) (Nat.le_of_ble_eq_true rfl) (Nat.le_of_ble_eq_true rfl) (by omega) ?_
      refine c_raiseOnce (by omega) (CL_83 hC4) r4 (by omega) (by omega) (fun h5 hT5 hF5 => ?_)
      have hC5 := CLay_eq hC4 hF5.2.2
      have g5 : ∀ a, a < 46 ∨ 47 ≤ a → a < 80 ∨ 86 ≤ a → gI h5 a = gI h a := fun a a1 a2 => by rw [hF5.1 a a1 (by omega), g4 a a1 a2]
      have l5 : gL h5 = gL h := by rw [hF5.2.1, l4]
      have k5 : gR h5 = gR h := by rw [hF5.2.2, k4]
      dsimp only [gPush]
      first | refine U_ifB_eq (tgt := 94) dX9_meetInTwo_58 (by decide) (by with_reducible rfl) (fun c58 => ?_) (fun c58 => ?_) | refine U_if_eq (tgt := 94) dX9_meetInTwo_58 (by decide) (by with_reducible rfl) (by omega) (fun c58 => ?_) (fun c58 => ?_) | refine V_if_eq (tgt := 94) dX9_meetInTwo_58 (by decide) (fun c58 => ?_) (fun c58 => ?_)
      · skip
        have z : rsq w [j, i] = none := rsq_f (of_decide_eq_false c58)
        rw [z] at hQ
        have hQ' := hQ h5 (fin h5 hC5 g5 l5 k5).1 (fin h5 hC5 g5 l5 k5).2
        refine V_iconst (v := nI 0) dX9_meetInTwo_94 (by decide) ?_
        refine V_iret dX9_meetInTwo_95 rfl (by first | exact gBo_nar _ | rfl | decide) ?_
        exact hQ'
      · skip
        have z3 : rsq w [j, i] = rsq (raiseW w j) [i] := rsq_t (of_decide_eq_true c58)
        rw [z3] at hQ
        refine V_aloadn0 dX9_meetInTwo_61 ?_
        refine V_getR dX9_meetInTwo_62 fX9_35 (by first | assumption | rfl | exact lay_s0 (by omega) | exact lay_s1 (by omega) | exact lay_s2 (by omega) | exact lay_h0 (by omega) | exact lay_h1 (by omega)) (by first | decide | omega) (by first | assumption | exact CL0_0 (by assumption) | exact CL0_1 (by assumption) | exact CL0_3 (by assumption) | exact CL0_4 (by assumption) | exact CL0_5 (by assumption) | exact CL0_6 (by assumption) | exact CL0_7 (by assumption) | exact CL0_8 (by assumption) | exact CL0_9 (by assumption) | exact CL0_10 (by assumption) | exact CL0_11 (by assumption) | exact CL0_12 (by assumption) | exact CL0_13 (by assumption) | exact CL1_2 (by assumption) | exact CL1_3 (by assumption) | exact CL80_2 (by assumption) | exact CL_slot (by assumption) (by omega) | exact (CL_sh (by assumption) (by omega)).1 | exact (CL_sh (by assumption) (by omega)).2.1 | rfl) ?_
        refine V_aloadn0 dX9_meetInTwo_65 ?_
        refine V_getR dX9_meetInTwo_66 fX9_80 (by first | assumption | rfl | exact lay_s0 (by omega) | exact lay_s1 (by omega) | exact lay_s2 (by omega) | exact lay_h0 (by omega) | exact lay_h1 (by omega)) (by first | decide | omega) (by first | assumption | exact CL0_0 (by assumption) | exact CL0_1 (by assumption) | exact CL0_3 (by assumption) | exact CL0_4 (by assumption) | exact CL0_5 (by assumption) | exact CL0_6 (by assumption) | exact CL0_7 (by assumption) | exact CL0_8 (by assumption) | exact CL0_9 (by assumption) | exact CL0_10 (by assumption) | exact CL0_11 (by assumption) | exact CL0_12 (by assumption) | exact CL0_13 (by assumption) | exact CL1_2 (by assumption) | exact CL1_3 (by assumption) | exact CL80_2 (by assumption) | exact CL_slot (by assumption) (by omega) | exact (CL_sh (by assumption) (by omega)).1 | exact (CL_sh (by assumption) (by omega)).2.1 | rfl) ?_
        refine V_iloadn2 dX9_meetInTwo_69 ?_
        refine V_callV2 (μ' := mX3_raiseOnce) dX9_meetInTwo_70 okX3_raiseOnce lX9_328 rfl (by first | assumption | rfl | exact lay_s0 (by omega) | exact lay_s1 (by omega) | exact lay_s2 (by omega) | exact lay_h0 (by omega) | exact lay_h1 (by omega)) (by first | decide | omega) (Nat.le_of_ble_eq_true rfl) (Nat.le_of_ble_eq_true rfl) (by omega) ?_
        refine c_raiseOnce (by omega) (CL_83 hC5) hT5 (by omega) (by omega) (fun h6 hT6 hF6 => ?_)
        have hC6 := CLay_eq hC5 hF6.2.2
        have g6 : ∀ a, a < 46 ∨ 47 ≤ a → a < 80 ∨ 86 ≤ a → gI h6 a = gI h a := fun a a1 a2 => by rw [hF6.1 a a1 (by omega), g5 a a1 a2]
        have l6 : gL h6 = gL h := by rw [hF6.2.1, l5]
        have k6 : gR h6 = gR h := by rw [hF6.2.2, k5]
        have d6 := TI_cg hT4 (h' := h6) (fun a a1 a2 => by rw [hF6.1 a (by omega) (by omega), hF5.1 a (by omega) (by omega)])
        dsimp only [gPush]
        first | refine U_ifB_eq (tgt := 94) dX9_meetInTwo_73 (by decide) (by with_reducible rfl) (fun c73 => ?_) (fun c73 => ?_) | refine U_if_eq (tgt := 94) dX9_meetInTwo_73 (by decide) (by with_reducible rfl) (by omega) (fun c73 => ?_) (fun c73 => ?_) | refine V_if_eq (tgt := 94) dX9_meetInTwo_73 (by decide) (fun c73 => ?_) (fun c73 => ?_)
        · skip
          have z : rsq (raiseW w j) [i] = none := rsq_f (of_decide_eq_false c73)
          rw [z] at hQ
          have hQ' := hQ h6 (fin h6 hC6 g6 l6 k6).1 (fin h6 hC6 g6 l6 k6).2
          refine V_iconst (v := nI 0) dX9_meetInTwo_94 (by decide) ?_
          refine V_iret dX9_meetInTwo_95 rfl (by first | exact gBo_nar _ | rfl | decide) ?_
          exact hQ'
        · skip
          have z4 : rsq (raiseW w j) [i] = some (raiseW (raiseW w j) i) := rsq_t (of_decide_eq_true c73)
          rw [z4] at hQ
          have hQ' := hQ h6 (fin h6 hC6 g6 l6 k6).1 (fin h6 hC6 g6 l6 k6).2
          refine V_aloadn0 dX9_meetInTwo_76 ?_
          refine V_getR dX9_meetInTwo_77 fX9_76 (by first | assumption | rfl | exact lay_s0 (by omega) | exact lay_s1 (by omega) | exact lay_s2 (by omega) | exact lay_h0 (by omega) | exact lay_h1 (by omega)) (by first | decide | omega) (by first | assumption | exact CL0_0 (by assumption) | exact CL0_1 (by assumption) | exact CL0_3 (by assumption) | exact CL0_4 (by assumption) | exact CL0_5 (by assumption) | exact CL0_6 (by assumption) | exact CL0_7 (by assumption) | exact CL0_8 (by assumption) | exact CL0_9 (by assumption) | exact CL0_10 (by assumption) | exact CL0_11 (by assumption) | exact CL0_12 (by assumption) | exact CL0_13 (by assumption) | exact CL1_2 (by assumption) | exact CL1_3 (by assumption) | exact CL80_2 (by assumption) | exact CL_slot (by assumption) (by omega) | exact (CL_sh (by assumption) (by omega)).1 | exact (CL_sh (by assumption) (by omega)).2.1 | rfl) ?_
          refine V_aloadn0 dX9_meetInTwo_80 ?_
          refine V_getR dX9_meetInTwo_81 fX9_80 (by first | assumption | rfl | exact lay_s0 (by omega) | exact lay_s1 (by omega) | exact lay_s2 (by omega) | exact lay_h0 (by omega) | exact lay_h1 (by omega)) (by first | decide | omega) (by first | assumption | exact CL0_0 (by assumption) | exact CL0_1 (by assumption) | exact CL0_3 (by assumption) | exact CL0_4 (by assumption) | exact CL0_5 (by assumption) | exact CL0_6 (by assumption) | exact CL0_7 (by assumption) | exact CL0_8 (by assumption) | exact CL0_9 (by assumption) | exact CL0_10 (by assumption) | exact CL0_11 (by assumption) | exact CL0_12 (by assumption) | exact CL0_13 (by assumption) | exact CL1_2 (by assumption) | exact CL1_3 (by assumption) | exact CL80_2 (by assumption) | exact CL_slot (by assumption) (by omega) | exact (CL_sh (by assumption) (by omega)).1 | exact (CL_sh (by assumption) (by omega)).2.1 | rfl) ?_
          refine V_callV1 (μ' := mX8_isSameAs) dX9_meetInTwo_84 okX8_isSameAs lX9_225 rfl (by first | assumption | rfl | exact lay_s0 (by omega) | exact lay_s1 (by omega) | exact lay_s2 (by omega) | exact lay_h0 (by omega) | exact lay_h1 (by omega)) (by first | decide | omega) (Nat.le_of_ble_eq_true rfl) (Nat.le_of_ble_eq_true rfl) (by omega) ?_
          refine c_isSameAs (CL_80 hC6) (CL_83 hC6) d6 hT6 ?_
          dsimp only [gPush]
          first | refine U_ifB_eq (tgt := 94) dX9_meetInTwo_87 (by decide) (by with_reducible rfl) (fun c87 => ?_) (fun c87 => ?_) | refine U_if_eq (tgt := 94) dX9_meetInTwo_87 (by decide) (by with_reducible rfl) (by omega) (fun c87 => ?_) (fun c87 => ?_) | refine V_if_eq (tgt := 94) dX9_meetInTwo_87 (by decide) (fun c87 => ?_) (fun c87 => ?_)
          · skip
            have ne := of_decide_eq_false c87
            rw [decide_eq_false (fun q => ne ⟨rfl, Option.some.inj q, rfl⟩)] at hQ'
            refine V_iconst (v := nI 0) dX9_meetInTwo_94 (by decide) ?_
            refine V_iret dX9_meetInTwo_95 rfl (by first | exact gBo_nar _ | rfl | decide) ?_
            exact hQ'
          · skip
            have eq := of_decide_eq_true c87
            rw [decide_eq_true (by rw [eq.2.1])] at hQ'
            refine V_iconst (v := nI 1) dX9_meetInTwo_90 (by decide) ?_
            refine V_goto (tgt := 95) dX9_meetInTwo_91 (by decide) ?_
            refine V_iret dX9_meetInTwo_95 rfl (by first | exact gBo_nar _ | rfl | decide) ?_
            exact hQ'
set_option maxRecDepth 100000 in
set_option maxHeartbeats 4000000 in
theorem c_raisesOut {t kd i j : Nat} {w L : List Nat} (hd : 2 ≤ d) (hC : CLay h) (hT0 : TL h t) (hT : TI h t kd w L) (ht : 54 ≤ t) (hi8 : i ≤ 8) (hj8 : j ≤ 8) (hQ : ∀ h' w', (∀ u, rsq w [i, j, j, i] = some u → u = w') → TI h' t kd w' L → FrM h h' t → Q (some (.int (gBo (rsq w [i, j, j, i]).isSome))) h') : V Γ mX9_raisesOutAndBack d 124 124 h 0 [some (.ref 0), some (.ref t), some (.int (nI i)), some (.int (nI j))] [] Q := by
  have l0 := hT0.1
  have tlt := hT0.2.2.2.1
  refine V_aloadn0 dX9_raisesOutAndBack_0 ?_
  refine V_getR dX9_raisesOutAndBack_1 fX9_35 (by first | assumption | rfl | exact lay_s0 (by omega) | exact lay_s1 (by omega) | exact lay_s2 (by omega) | exact lay_h0 (by omega) | exact lay_h1 (by omega)) (by first | decide | omega) (by first | assumption | exact CL0_0 (by assumption) | exact CL0_1 (by assumption) | exact CL0_3 (by assumption) | exact CL0_4 (by assumption) | exact CL0_5 (by assumption) | exact CL0_6 (by assumption) | exact CL0_7 (by assumption) | exact CL0_8 (by assumption) | exact CL0_9 (by assumption) | exact CL0_10 (by assumption) | exact CL0_11 (by assumption) | exact CL0_12 (by assumption) | exact CL0_13 (by assumption) | exact CL1_2 (by assumption) | exact CL1_3 (by assumption) | exact CL80_2 (by assumption) | exact CL_slot (by assumption) (by omega) | exact (CL_sh (by assumption) (by omega)).1 | exact (CL_sh (by assumption) (by omega)).2.1 | rfl) ?_
  refine V_aloadn1 dX9_raisesOutAndBack_4 ?_
  refine V_iloadn2 dX9_raisesOutAndBack_5 ?_
  refine V_callV2 (μ' := mX3_raiseOnce) dX9_raisesOutAndBack_6 okX3_raiseOnce lX9_328 rfl (by first | assumption | rfl | exact lay_s0 (by omega) | exact lay_s1 (by omega) | exact lay_s2 (by omega) | exact lay_h0 (by omega) | exact lay_h1 (by omega)) (by first | decide | omega) (Nat.le_of_ble_eq_true rfl) (Nat.le_of_ble_eq_true rfl) (by omega) ?_
  refine c_raiseOnce (by omega) hT0 hT (by omega) (by omega) (fun h1 hT1 hF1 => ?_)
  have hC1 := CLay_eq hC hF1.2.2
  dsimp only [gPush]
  first | refine U_ifB_eq (tgt := 52) dX9_raisesOutAndBack_9 (by decide) (by with_reducible rfl) (fun c9 => ?_) (fun c9 => ?_) | refine U_if_eq (tgt := 52) dX9_raisesOutAndBack_9 (by decide) (by with_reducible rfl) (by omega) (fun c9 => ?_) (fun c9 => ?_) | refine V_if_eq (tgt := 52) dX9_raisesOutAndBack_9 (by decide) (fun c9 => ?_) (fun c9 => ?_)
  · skip
    have z : rsq w [i, j, j, i] = none := rsq_f (of_decide_eq_false c9)
    rw [z] at hQ
    have hQ' := hQ h1 _ (fun u q => by cases q) hT1 hF1
    refine V_iconst (v := nI 0) dX9_raisesOutAndBack_52 (by decide) ?_
    refine V_iret dX9_raisesOutAndBack_53 rfl (by first | exact gBo_nar _ | rfl | decide) ?_
    exact hQ'
  · skip
    have z1 : rsq w [i, j, j, i] = rsq (raiseW w i) [j, j, i] := rsq_t (of_decide_eq_true c9)
    rw [z1] at hQ
    refine V_aloadn0 dX9_raisesOutAndBack_12 ?_
    refine V_getR dX9_raisesOutAndBack_13 fX9_35 (by first | assumption | rfl | exact lay_s0 (by omega) | exact lay_s1 (by omega) | exact lay_s2 (by omega) | exact lay_h0 (by omega) | exact lay_h1 (by omega)) (by first | decide | omega) (by first | assumption | exact CL0_0 (by assumption) | exact CL0_1 (by assumption) | exact CL0_3 (by assumption) | exact CL0_4 (by assumption) | exact CL0_5 (by assumption) | exact CL0_6 (by assumption) | exact CL0_7 (by assumption) | exact CL0_8 (by assumption) | exact CL0_9 (by assumption) | exact CL0_10 (by assumption) | exact CL0_11 (by assumption) | exact CL0_12 (by assumption) | exact CL0_13 (by assumption) | exact CL1_2 (by assumption) | exact CL1_3 (by assumption) | exact CL80_2 (by assumption) | exact CL_slot (by assumption) (by omega) | exact (CL_sh (by assumption) (by omega)).1 | exact (CL_sh (by assumption) (by omega)).2.1 | rfl) ?_
    refine V_aloadn1 dX9_raisesOutAndBack_16 ?_
    refine V_iloadn3 dX9_raisesOutAndBack_17 ?_
    refine V_callV2 (μ' := mX3_raiseOnce) dX9_raisesOutAndBack_18 okX3_raiseOnce lX9_328 rfl (by first | assumption | rfl | exact lay_s0 (by omega) | exact lay_s1 (by omega) | exact lay_s2 (by omega) | exact lay_h0 (by omega) | exact lay_h1 (by omega)) (by first | decide | omega) (Nat.le_of_ble_eq_true rfl) (Nat.le_of_ble_eq_true rfl) (by omega) ?_
    refine c_raiseOnce (by omega) (TL_fr hT0 hF1.2.2) hT1 (by omega) (by omega) (fun h2 hT2 hF2 => ?_)
    have hC2 := CLay_eq hC1 hF2.2.2
    dsimp only [gPush]
    first | refine U_ifB_eq (tgt := 52) dX9_raisesOutAndBack_21 (by decide) (by with_reducible rfl) (fun c21 => ?_) (fun c21 => ?_) | refine U_if_eq (tgt := 52) dX9_raisesOutAndBack_21 (by decide) (by with_reducible rfl) (by omega) (fun c21 => ?_) (fun c21 => ?_) | refine V_if_eq (tgt := 52) dX9_raisesOutAndBack_21 (by decide) (fun c21 => ?_) (fun c21 => ?_)
    · skip
      have z : rsq (raiseW w i) [j, j, i] = none := rsq_f (of_decide_eq_false c21)
      rw [z] at hQ
      have hQ' := hQ h2 _ (fun u q => by cases q) hT2 (hF1.tr hF2)
      refine V_iconst (v := nI 0) dX9_raisesOutAndBack_52 (by decide) ?_
      refine V_iret dX9_raisesOutAndBack_53 rfl (by first | exact gBo_nar _ | rfl | decide) ?_
      exact hQ'
    · skip
      have z2 : rsq (raiseW w i) [j, j, i] = rsq (raiseW (raiseW w i) j) [j, i] := rsq_t (of_decide_eq_true c21)
      rw [z2] at hQ
      refine V_aloadn0 dX9_raisesOutAndBack_24 ?_
      refine V_getR dX9_raisesOutAndBack_25 fX9_35 (by first | assumption | rfl | exact lay_s0 (by omega) | exact lay_s1 (by omega) | exact lay_s2 (by omega) | exact lay_h0 (by omega) | exact lay_h1 (by omega)) (by first | decide | omega) (by first | assumption | exact CL0_0 (by assumption) | exact CL0_1 (by assumption) | exact CL0_3 (by assumption) | exact CL0_4 (by assumption) | exact CL0_5 (by assumption) | exact CL0_6 (by assumption) | exact CL0_7 (by assumption) | exact CL0_8 (by assumption) | exact CL0_9 (by assumption) | exact CL0_10 (by assumption) | exact CL0_11 (by assumption) | exact CL0_12 (by assumption) | exact CL0_13 (by assumption) | exact CL1_2 (by assumption) | exact CL1_3 (by assumption) | exact CL80_2 (by assumption) | exact CL_slot (by assumption) (by omega) | exact (CL_sh (by assumption) (by omega)).1 | exact (CL_sh (by assumption) (by omega)).2.1 | rfl) ?_
      refine V_aloadn1 dX9_raisesOutAndBack_28 ?_
      refine V_iloadn3 dX9_raisesOutAndBack_29 ?_
      refine V_callV2 (μ' := mX3_raiseOnce) dX9_raisesOutAndBack_30 okX3_raiseOnce lX9_328 rfl (by first | assumption | rfl | exact lay_s0 (by omega) | exact lay_s1 (by omega) | exact lay_s2 (by omega) | exact lay_h0 (by omega) | exact lay_h1 (by omega)) (by first | decide | omega) (Nat.le_of_ble_eq_true rfl) (Nat.le_of_ble_eq_true rfl) (by omega) ?_
      refine c_raiseOnce (by omega) (TL_fr hT0 (hF2.2.2.trans hF1.2.2)) hT2 (by omega) (by omega) (fun h3 hT3 hF3 => ?_)
      have hC3 := CLay_eq hC2 hF3.2.2
      dsimp only [gPush]
      first | refine U_ifB_eq (tgt := 52) dX9_raisesOutAndBack_33 (by decide) (by with_reducible rfl) (fun c33 => ?_) (fun c33 => ?_) | refine U_if_eq (tgt := 52) dX9_raisesOutAndBack_33 (by decide) (by with_reducible rfl) (by omega) (fun c33 => ?_) (fun c33 => ?_) | refine V_if_eq (tgt := 52) dX9_raisesOutAndBack_33 (by decide) (fun c33 => ?_) (fun c33 => ?_)
      · skip
        have z : rsq (raiseW (raiseW w i) j) [j, i] = none := rsq_f (of_decide_eq_false c33)
        rw [z] at hQ
        have hQ' := hQ h3 _ (fun u q => by cases q) hT3 (hF1.tr (hF2.tr hF3))
        refine V_iconst (v := nI 0) dX9_raisesOutAndBack_52 (by decide) ?_
        refine V_iret dX9_raisesOutAndBack_53 rfl (by first | exact gBo_nar _ | rfl | decide) ?_
        exact hQ'
      · skip
        have z3 : rsq (raiseW (raiseW w i) j) [j, i] = rsq (raiseW (raiseW (raiseW w i) j) j) [i] := rsq_t (of_decide_eq_true c33)
        rw [z3] at hQ
        refine V_aloadn0 dX9_raisesOutAndBack_36 ?_
        refine V_getR dX9_raisesOutAndBack_37 fX9_35 (by first | assumption | rfl | exact lay_s0 (by omega) | exact lay_s1 (by omega) | exact lay_s2 (by omega) | exact lay_h0 (by omega) | exact lay_h1 (by omega)) (by first | decide | omega) (by first | assumption | exact CL0_0 (by assumption) | exact CL0_1 (by assumption) | exact CL0_3 (by assumption) | exact CL0_4 (by assumption) | exact CL0_5 (by assumption) | exact CL0_6 (by assumption) | exact CL0_7 (by assumption) | exact CL0_8 (by assumption) | exact CL0_9 (by assumption) | exact CL0_10 (by assumption) | exact CL0_11 (by assumption) | exact CL0_12 (by assumption) | exact CL0_13 (by assumption) | exact CL1_2 (by assumption) | exact CL1_3 (by assumption) | exact CL80_2 (by assumption) | exact CL_slot (by assumption) (by omega) | exact (CL_sh (by assumption) (by omega)).1 | exact (CL_sh (by assumption) (by omega)).2.1 | rfl) ?_
        refine V_aloadn1 dX9_raisesOutAndBack_40 ?_
        refine V_iloadn2 dX9_raisesOutAndBack_41 ?_
        refine V_callV2 (μ' := mX3_raiseOnce) dX9_raisesOutAndBack_42 okX3_raiseOnce lX9_328 rfl (by first | assumption | rfl | exact lay_s0 (by omega) | exact lay_s1 (by omega) | exact lay_s2 (by omega) | exact lay_h0 (by omega) | exact lay_h1 (by omega)) (by first | decide | omega) (Nat.le_of_ble_eq_true rfl) (Nat.le_of_ble_eq_true rfl) (by omega) ?_
        refine c_raiseOnce (by omega) (TL_fr hT0 (hF3.2.2.trans (hF2.2.2.trans hF1.2.2))) hT3 (by omega) (by omega) (fun h4 hT4 hF4 => ?_)
        dsimp only [gPush]
        first | refine U_ifB_eq (tgt := 52) dX9_raisesOutAndBack_45 (by decide) (by with_reducible rfl) (fun c45 => ?_) (fun c45 => ?_) | refine U_if_eq (tgt := 52) dX9_raisesOutAndBack_45 (by decide) (by with_reducible rfl) (by omega) (fun c45 => ?_) (fun c45 => ?_) | refine V_if_eq (tgt := 52) dX9_raisesOutAndBack_45 (by decide) (fun c45 => ?_) (fun c45 => ?_)
        · skip
          have z : rsq (raiseW (raiseW (raiseW w i) j) j) [i] = none := rsq_f (of_decide_eq_false c45)
          rw [z] at hQ
          have hQ' := hQ h4 _ (fun u q => by cases q) hT4 (hF1.tr (hF2.tr (hF3.tr hF4)))
          refine V_iconst (v := nI 0) dX9_raisesOutAndBack_52 (by decide) ?_
          refine V_iret dX9_raisesOutAndBack_53 rfl (by first | exact gBo_nar _ | rfl | decide) ?_
          exact hQ'
        · skip
          have z4 : rsq (raiseW (raiseW (raiseW w i) j) j) [i] = some (raiseW (raiseW (raiseW (raiseW w i) j) j) i) := rsq_t (of_decide_eq_true c45)
          rw [z4] at hQ
          have hQ' := hQ h4 _ (fun u q => (Option.some.inj q).symm) hT4 (hF1.tr (hF2.tr (hF3.tr hF4)))
          refine V_iconst (v := nI 1) dX9_raisesOutAndBack_48 (by decide) ?_
          refine V_goto (tgt := 53) dX9_raisesOutAndBack_49 (by decide) ?_
          refine V_iret dX9_raisesOutAndBack_53 rfl (by first | exact gBo_nar _ | rfl | decide) ?_
          exact hQ'
set_option maxRecDepth 100000 in
set_option maxHeartbeats 4000000 in
theorem c_meetInFour {s i j : Nat} (hd : 3 ≤ d) (hR : RC h S) (hs : s < 6) (hi8 : i ≤ 8) (hj8 : j ≤ 8) (hQ : ∀ h', RC h' S → FrC h h' → Q (some (.int (gBo (metB (S.1.2.2.1 s).2.1 [i, j, j, i] [j, i, i, j])))) h') : V Γ mX9_meetInFour d 124 124 h 0 [some (.ref 0), some (.ref (4 + 3 * s)), some (.int (nI i)), some (.int (nI j))] [] Q := by
  obtain ⟨hC, hW, hA, hK, hK2, hB, hSh, hFm⟩ := id hR
  obtain ⟨hT, hWT⟩ := RC_slot hR hs
  generalize (S.1.2.2.1 s).2.1 = w at hT hQ
  unfold metB at hQ
  have fin : ∀ h', CLay h' → (∀ a, a < 46 ∨ 47 ≤ a → a < 80 ∨ 86 ≤ a → gI h' a = gI h a) → gL h' = gL h → gR h' = gR h → RC h' S ∧ FrC h h' := fun h' c' g' l' k' => ⟨RC_S hR ⟨fun a ha => g' a (by omega) (by omega), by rw [g' 43 (by omega) (by omega)], fun a ha => by rw [l'], c'⟩, ⟨fun a ha => g' a (by omega) (by omega), fun a ha => by rw [l'], fun a ha => by rw [k']⟩⟩
  refine V_aloadn0 dX9_meetInFour_0 ?_
  refine V_getR dX9_meetInFour_1 fX9_76 (by first | assumption | rfl | exact lay_s0 (by omega) | exact lay_s1 (by omega) | exact lay_s2 (by omega) | exact lay_h0 (by omega) | exact lay_h1 (by omega)) (by first | decide | omega) (by first | assumption | exact CL0_0 (by assumption) | exact CL0_1 (by assumption) | exact CL0_3 (by assumption) | exact CL0_4 (by assumption) | exact CL0_5 (by assumption) | exact CL0_6 (by assumption) | exact CL0_7 (by assumption) | exact CL0_8 (by assumption) | exact CL0_9 (by assumption) | exact CL0_10 (by assumption) | exact CL0_11 (by assumption) | exact CL0_12 (by assumption) | exact CL0_13 (by assumption) | exact CL1_2 (by assumption) | exact CL1_3 (by assumption) | exact CL80_2 (by assumption) | exact CL_slot (by assumption) (by omega) | exact (CL_sh (by assumption) (by omega)).1 | exact (CL_sh (by assumption) (by omega)).2.1 | rfl) ?_
  refine V_aloadn1 dX9_meetInFour_4 ?_
  refine V_callV1 (μ' := mX8_becomeLike) dX9_meetInFour_5 okX8_becomeLike lX9_103 rfl (by first | assumption | rfl | exact lay_s0 (by omega) | exact lay_s1 (by omega) | exact lay_s2 (by omega) | exact lay_h0 (by omega) | exact lay_h1 (by omega)) (by first | decide | omega) (Nat.le_of_ble_eq_true rfl) (Nat.le_of_ble_eq_true rfl) (by omega) ?_
  refine c_becomeLike (by omega) (CL_80 hC) (CL_T hC hs) hT (by omega) (fun h1 hT1 hF1 => ?_)
  have hC1 := CLay_eq hC hF1.2.2
  dsimp only [gPush]
  refine V_aloadn0 dX9_meetInFour_8 ?_
  refine V_getR dX9_meetInFour_9 fX9_80 (by first | assumption | rfl | exact lay_s0 (by omega) | exact lay_s1 (by omega) | exact lay_s2 (by omega) | exact lay_h0 (by omega) | exact lay_h1 (by omega)) (by first | decide | omega) (by first | assumption | exact CL0_0 (by assumption) | exact CL0_1 (by assumption) | exact CL0_3 (by assumption) | exact CL0_4 (by assumption) | exact CL0_5 (by assumption) | exact CL0_6 (by assumption) | exact CL0_7 (by assumption) | exact CL0_8 (by assumption) | exact CL0_9 (by assumption) | exact CL0_10 (by assumption) | exact CL0_11 (by assumption) | exact CL0_12 (by assumption) | exact CL0_13 (by assumption) | exact CL1_2 (by assumption) | exact CL1_3 (by assumption) | exact CL80_2 (by assumption) | exact CL_slot (by assumption) (by omega) | exact (CL_sh (by assumption) (by omega)).1 | exact (CL_sh (by assumption) (by omega)).2.1 | rfl) ?_
  refine V_aloadn1 dX9_meetInFour_12 ?_
  refine V_callV1 (μ' := mX8_becomeLike) dX9_meetInFour_13 okX8_becomeLike lX9_103 rfl (by first | assumption | rfl | exact lay_s0 (by omega) | exact lay_s1 (by omega) | exact lay_s2 (by omega) | exact lay_h0 (by omega) | exact lay_h1 (by omega)) (by first | decide | omega) (Nat.le_of_ble_eq_true rfl) (Nat.le_of_ble_eq_true rfl) (by omega) ?_
  refine c_becomeLike (by omega) (CL_83 hC1) (CL_T hC1 hs) (TI_fr hT hF1 (by omega)) (by omega) (fun h2 hT2 hF2 => ?_)
  have hC2 := CLay_eq hC1 hF2.2.2
  have d2 := TI_fr hT1 hF2 (by omega)
  have g2 : ∀ a, a < 46 ∨ 47 ≤ a → a < 80 ∨ 86 ≤ a → gI h2 a = gI h a := fun a a1 a2 => by rw [hF2.1 a (by omega), hF1.1 a (by omega)]
  have l2 : gL h2 = gL h := by rw [hF2.2.1, hF1.2.1]
  have k2 : gR h2 = gR h := by rw [hF2.2.2, hF1.2.2]
  dsimp only [gPush]
  refine V_aloadn0 dX9_meetInFour_16 ?_
  refine V_aloadn0 dX9_meetInFour_17 ?_
  refine V_getR dX9_meetInFour_18 fX9_76 (by first | assumption | rfl | exact lay_s0 (by omega) | exact lay_s1 (by omega) | exact lay_s2 (by omega) | exact lay_h0 (by omega) | exact lay_h1 (by omega)) (by first | decide | omega) (by first | assumption | exact CL0_0 (by assumption) | exact CL0_1 (by assumption) | exact CL0_3 (by assumption) | exact CL0_4 (by assumption) | exact CL0_5 (by assumption) | exact CL0_6 (by assumption) | exact CL0_7 (by assumption) | exact CL0_8 (by assumption) | exact CL0_9 (by assumption) | exact CL0_10 (by assumption) | exact CL0_11 (by assumption) | exact CL0_12 (by assumption) | exact CL0_13 (by assumption) | exact CL1_2 (by assumption) | exact CL1_3 (by assumption) | exact CL80_2 (by assumption) | exact CL_slot (by assumption) (by omega) | exact (CL_sh (by assumption) (by omega)).1 | exact (CL_sh (by assumption) (by omega)).2.1 | rfl) ?_
  refine V_iloadn2 dX9_meetInFour_21 ?_
  refine V_iloadn3 dX9_meetInFour_22 ?_
  refine V_callV3 (μ' := mX9_raisesOutAndBack) dX9_meetInFour_23 okX9_raisesOutAndBack lX9_331 rfl (by first | assumption | rfl | exact lay_s0 (by omega) | exact lay_s1 (by omega) | exact lay_s2 (by omega) | exact lay_h0 (by omega) | exact lay_h1 (by omega)) (by first | decide | omega) (Nat.le_of_ble_eq_true rfl) (Nat.le_of_ble_eq_true rfl) (by omega) ?_
  refine c_raisesOut (by omega) hC2 (CL_80 hC2) d2 (by omega) hi8 hj8 (fun h3 u3 hu3 hT3 hF3 => ?_)
  have hC3 := CLay_eq hC2 hF3.2.2
  have g3 : ∀ a, a < 46 ∨ 47 ≤ a → a < 80 ∨ 86 ≤ a → gI h3 a = gI h a := fun a a1 a2 => by rw [hF3.1 a a1 (by omega), g2 a a1 a2]
  have l3 : gL h3 = gL h := by rw [hF3.2.1, l2]
  have k3 : gR h3 = gR h := by rw [hF3.2.2, k2]
  have r3 := TI_cg hT2 (h' := h3) (fun a a1 a2 => by rw [hF3.1 a (by omega) (by omega)])
  dsimp only [gPush]
  first | refine U_ifB_eq (tgt := 60) dX9_meetInFour_26 (by decide) (by with_reducible rfl) (fun c26 => ?_) (fun c26 => ?_) | refine U_if_eq (tgt := 60) dX9_meetInFour_26 (by decide) (by with_reducible rfl) (by omega) (fun c26 => ?_) (fun c26 => ?_) | refine V_if_eq (tgt := 60) dX9_meetInFour_26 (by decide) (fun c26 => ?_) (fun c26 => ?_)
  · skip
    rw [c26, Bool.false_and] at hQ
    have hQ' := hQ h3 (fin h3 hC3 g3 l3 k3).1 (fin h3 hC3 g3 l3 k3).2
    refine V_iconst (v := nI 0) dX9_meetInFour_60 (by decide) ?_
    refine V_iret dX9_meetInFour_61 rfl (by first | exact gBo_nar _ | rfl | decide) ?_
    exact hQ'
  · skip
    rw [c26, Bool.true_and] at hQ
    obtain ⟨v3, e3⟩ := Option.isSome_iff_exists.mp c26
    have ev3 := hu3 v3 e3
    rw [e3] at hQ
    refine V_aloadn0 dX9_meetInFour_29 ?_
    refine V_aloadn0 dX9_meetInFour_30 ?_
    refine V_getR dX9_meetInFour_31 fX9_80 (by first | assumption | rfl | exact lay_s0 (by omega) | exact lay_s1 (by omega) | exact lay_s2 (by omega) | exact lay_h0 (by omega) | exact lay_h1 (by omega)) (by first | decide | omega) (by first | assumption | exact CL0_0 (by assumption) | exact CL0_1 (by assumption) | exact CL0_3 (by assumption) | exact CL0_4 (by assumption) | exact CL0_5 (by assumption) | exact CL0_6 (by assumption) | exact CL0_7 (by assumption) | exact CL0_8 (by assumption) | exact CL0_9 (by assumption) | exact CL0_10 (by assumption) | exact CL0_11 (by assumption) | exact CL0_12 (by assumption) | exact CL0_13 (by assumption) | exact CL1_2 (by assumption) | exact CL1_3 (by assumption) | exact CL80_2 (by assumption) | exact CL_slot (by assumption) (by omega) | exact (CL_sh (by assumption) (by omega)).1 | exact (CL_sh (by assumption) (by omega)).2.1 | rfl) ?_
    refine V_iloadn3 dX9_meetInFour_34 ?_
    refine V_iloadn2 dX9_meetInFour_35 ?_
    refine V_callV3 (μ' := mX9_raisesOutAndBack) dX9_meetInFour_36 okX9_raisesOutAndBack lX9_331 rfl (by first | assumption | rfl | exact lay_s0 (by omega) | exact lay_s1 (by omega) | exact lay_s2 (by omega) | exact lay_h0 (by omega) | exact lay_h1 (by omega)) (by first | decide | omega) (Nat.le_of_ble_eq_true rfl) (Nat.le_of_ble_eq_true rfl) (by omega) ?_
    refine c_raisesOut (by omega) hC3 (CL_83 hC3) r3 (by omega) hj8 hi8 (fun h4 u4 hu4 hT4 hF4 => ?_)
    have hC4 := CLay_eq hC3 hF4.2.2
    have g4 : ∀ a, a < 46 ∨ 47 ≤ a → a < 80 ∨ 86 ≤ a → gI h4 a = gI h a := fun a a1 a2 => by rw [hF4.1 a a1 (by omega), g3 a a1 a2]
    have l4 : gL h4 = gL h := by rw [hF4.2.1, l3]
    have k4 : gR h4 = gR h := by rw [hF4.2.2, k3]
    have d4 := TI_cg hT3 (h' := h4) (fun a a1 a2 => by rw [hF4.1 a (by omega) (by omega)])
    dsimp only [gPush]
    first | refine U_ifB_eq (tgt := 60) dX9_meetInFour_39 (by decide) (by with_reducible rfl) (fun c39 => ?_) (fun c39 => ?_) | refine U_if_eq (tgt := 60) dX9_meetInFour_39 (by decide) (by with_reducible rfl) (by omega) (fun c39 => ?_) (fun c39 => ?_) | refine V_if_eq (tgt := 60) dX9_meetInFour_39 (by decide) (fun c39 => ?_) (fun c39 => ?_)
    · skip
      have z4 : rsq w [j, i, i, j] = none := by simpa using c39
      rw [z4] at hQ
      have hQ' := hQ h4 (fin h4 hC4 g4 l4 k4).1 (fin h4 hC4 g4 l4 k4).2
      refine V_iconst (v := nI 0) dX9_meetInFour_60 (by decide) ?_
      refine V_iret dX9_meetInFour_61 rfl (by first | exact gBo_nar _ | rfl | decide) ?_
      exact hQ'
    · skip
      obtain ⟨v4, e4⟩ := Option.isSome_iff_exists.mp c39
      have ev4 := hu4 v4 e4
      rw [e4] at hQ
      have hQ' := hQ h4 (fin h4 hC4 g4 l4 k4).1 (fin h4 hC4 g4 l4 k4).2
      refine V_aloadn0 dX9_meetInFour_42 ?_
      refine V_getR dX9_meetInFour_43 fX9_76 (by first | assumption | rfl | exact lay_s0 (by omega) | exact lay_s1 (by omega) | exact lay_s2 (by omega) | exact lay_h0 (by omega) | exact lay_h1 (by omega)) (by first | decide | omega) (by first | assumption | exact CL0_0 (by assumption) | exact CL0_1 (by assumption) | exact CL0_3 (by assumption) | exact CL0_4 (by assumption) | exact CL0_5 (by assumption) | exact CL0_6 (by assumption) | exact CL0_7 (by assumption) | exact CL0_8 (by assumption) | exact CL0_9 (by assumption) | exact CL0_10 (by assumption) | exact CL0_11 (by assumption) | exact CL0_12 (by assumption) | exact CL0_13 (by assumption) | exact CL1_2 (by assumption) | exact CL1_3 (by assumption) | exact CL80_2 (by assumption) | exact CL_slot (by assumption) (by omega) | exact (CL_sh (by assumption) (by omega)).1 | exact (CL_sh (by assumption) (by omega)).2.1 | rfl) ?_
      refine V_aloadn0 dX9_meetInFour_46 ?_
      refine V_getR dX9_meetInFour_47 fX9_80 (by first | assumption | rfl | exact lay_s0 (by omega) | exact lay_s1 (by omega) | exact lay_s2 (by omega) | exact lay_h0 (by omega) | exact lay_h1 (by omega)) (by first | decide | omega) (by first | assumption | exact CL0_0 (by assumption) | exact CL0_1 (by assumption) | exact CL0_3 (by assumption) | exact CL0_4 (by assumption) | exact CL0_5 (by assumption) | exact CL0_6 (by assumption) | exact CL0_7 (by assumption) | exact CL0_8 (by assumption) | exact CL0_9 (by assumption) | exact CL0_10 (by assumption) | exact CL0_11 (by assumption) | exact CL0_12 (by assumption) | exact CL0_13 (by assumption) | exact CL1_2 (by assumption) | exact CL1_3 (by assumption) | exact CL80_2 (by assumption) | exact CL_slot (by assumption) (by omega) | exact (CL_sh (by assumption) (by omega)).1 | exact (CL_sh (by assumption) (by omega)).2.1 | rfl) ?_
      refine V_callV1 (μ' := mX8_isSameAs) dX9_meetInFour_50 okX8_isSameAs lX9_225 rfl (by first | assumption | rfl | exact lay_s0 (by omega) | exact lay_s1 (by omega) | exact lay_s2 (by omega) | exact lay_h0 (by omega) | exact lay_h1 (by omega)) (by first | decide | omega) (Nat.le_of_ble_eq_true rfl) (Nat.le_of_ble_eq_true rfl) (by omega) ?_
      refine c_isSameAs (CL_80 hC4) (CL_83 hC4) d4 hT4 ?_
      dsimp only [gPush]
      first | refine U_ifB_eq (tgt := 60) dX9_meetInFour_53 (by decide) (by with_reducible rfl) (fun c53 => ?_) (fun c53 => ?_) | refine U_if_eq (tgt := 60) dX9_meetInFour_53 (by decide) (by with_reducible rfl) (by omega) (fun c53 => ?_) (fun c53 => ?_) | refine V_if_eq (tgt := 60) dX9_meetInFour_53 (by decide) (fun c53 => ?_) (fun c53 => ?_)
      · skip
        have ne := of_decide_eq_false c53
        rw [decide_eq_false (fun q => ne ⟨rfl, by rw [← ev3, ← ev4]; exact Option.some.inj q, rfl⟩)] at hQ'
        refine V_iconst (v := nI 0) dX9_meetInFour_60 (by decide) ?_
        refine V_iret dX9_meetInFour_61 rfl (by first | exact gBo_nar _ | rfl | decide) ?_
        exact hQ'
      · skip
        have eq := of_decide_eq_true c53
        rw [decide_eq_true (by rw [ev3, ev4, eq.2.1])] at hQ'
        refine V_iconst (v := nI 1) dX9_meetInFour_56 (by decide) ?_
        refine V_goto (tgt := 61) dX9_meetInFour_57 (by decide) ?_
        refine V_iret dX9_meetInFour_61 rfl (by first | exact gBo_nar _ | rfl | decide) ?_
        exact hQ'

set_option maxRecDepth 100000 in
set_option maxHeartbeats 4000000 in
theorem c_pair {x i j : Int32} (hd : 4 ≤ d) (hR : RC h S) (hQ : ∀ h', RC h' S → FrC h h' → Q (some (.int (g_pair S x i j))) h') : V Γ mX9_pair d 124 124 h 0 [some (.ref 0), some (.int x), some (.int i), some (.int j), none] [] Q := by
  obtain ⟨hC, hW, hA, hK, hK2, hB, hSh, hFm⟩ := id hR
  have n0 := hA.1
  have hn2 := hW.1.1
  have hn5 := hW.1.2.1
  by_cases hg : (inB x 6 && (inS i S.1.1 && (inS j S.1.1 && decide (i ≠ j)))) = true
  · have hg2 := hg
    rw [Bool.and_eq_true, Bool.and_eq_true, Bool.and_eq_true] at hg2
    obtain ⟨s, hs, rfl⟩ := inB_t (by decide) hg2.1
    obtain ⟨i', i1, i2, rfl⟩ := inS_t (by omega) hg2.2.1
    obtain ⟨j', j1, j2, rfl⟩ := inS_t (by omega) hg2.2.2.1
    obtain ⟨hT, hWT⟩ := RC_slot hR hs
    have eS : tS S (nI s) = S.1.2.2.1 s := by unfold tS; rw [cN_nI (by omega)]
    have eq0 : g_pair S (nI s) (nI i') (nI j') = _ := if_t hg
    rw [eq0, eS, cN_nI (by omega), cN_nI (by omega)] at hQ
    have hne : ¬ i' = j' := fun q => (of_decide_eq_true hg2.2.2.2) (by rw [q])
    refine V_iloadn1 dX9_pair_0 ?_
    refine V_callS1 (μ' := mX9_isSlot) dX9_pair_1 okX9_isSlot lX9_91 (Nat.le_of_ble_eq_true rfl) (Nat.le_of_ble_eq_true rfl) (by omega) ?_
    refine c_isSlot ?_
    rw [hg2.1]
    dsimp only [gPush]
    first | refine U_ifB_eq (tgt := 28) dX9_pair_4 (by decide) (by with_reducible rfl) (fun c4 => ?_) (fun c4 => ?_) | refine U_if_eq (tgt := 28) dX9_pair_4 (by decide) (by with_reducible rfl) (by omega) (fun c4 => ?_) (fun c4 => ?_) | refine V_if_eq (tgt := 28) dX9_pair_4 (by decide) (fun c4 => ?_) (fun c4 => ?_)
    · skip
      cases c4
    · skip
      refine V_aloadn0 dX9_pair_7 ?_
      refine V_iloadn2 dX9_pair_8 ?_
      refine V_callV1 (μ' := mX9_isStep) dX9_pair_9 okX9_isStep lX9_153 rfl (by first | assumption | rfl | exact lay_s0 (by omega) | exact lay_s1 (by omega) | exact lay_s2 (by omega) | exact lay_h0 (by omega) | exact lay_h1 (by omega)) (by first | decide | omega) (Nat.le_of_ble_eq_true rfl) (Nat.le_of_ble_eq_true rfl) (by omega) ?_
      refine c_isStep hn5 (CL0_0 hC) n0 ?_
      rw [hg2.2.1]
      dsimp only [gPush]
      first | refine U_ifB_eq (tgt := 28) dX9_pair_12 (by decide) (by with_reducible rfl) (fun c12 => ?_) (fun c12 => ?_) | refine U_if_eq (tgt := 28) dX9_pair_12 (by decide) (by with_reducible rfl) (by omega) (fun c12 => ?_) (fun c12 => ?_) | refine V_if_eq (tgt := 28) dX9_pair_12 (by decide) (fun c12 => ?_) (fun c12 => ?_)
      · skip
        cases c12
      · skip
        refine V_aloadn0 dX9_pair_15 ?_
        refine V_iloadn3 dX9_pair_16 ?_
        refine V_callV1 (μ' := mX9_isStep) dX9_pair_17 okX9_isStep lX9_153 rfl (by first | assumption | rfl | exact lay_s0 (by omega) | exact lay_s1 (by omega) | exact lay_s2 (by omega) | exact lay_h0 (by omega) | exact lay_h1 (by omega)) (by first | decide | omega) (Nat.le_of_ble_eq_true rfl) (Nat.le_of_ble_eq_true rfl) (by omega) ?_
        refine c_isStep hn5 (CL0_0 hC) n0 ?_
        rw [hg2.2.2.1]
        dsimp only [gPush]
        first | refine U_ifB_eq (tgt := 28) dX9_pair_20 (by decide) (by with_reducible rfl) (fun c20 => ?_) (fun c20 => ?_) | refine U_if_eq (tgt := 28) dX9_pair_20 (by decide) (by with_reducible rfl) (by omega) (fun c20 => ?_) (fun c20 => ?_) | refine V_if_eq (tgt := 28) dX9_pair_20 (by decide) (fun c20 => ?_) (fun c20 => ?_)
        · skip
          cases c20
        · skip
          refine V_iloadn2 dX9_pair_23 ?_
          refine V_iloadn3 dX9_pair_24 ?_
          first | refine U_icmp_ne (tgt := 30) dX9_pair_25 (by decide) (by with_reducible rfl) (by with_reducible rfl) (by omega) (by omega) (fun c25 => ?_) (fun c25 => ?_) | refine V_icmp_ne (tgt := 30) dX9_pair_25 (by decide) (fun c25 => ?_) (fun c25 => ?_)
          · skip
            refine V_aloadn0 dX9_pair_30 ?_
            refine V_iloadn1 dX9_pair_31 ?_
            refine V_callV1 (μ' := mX9_isHeld) dX9_pair_32 okX9_isHeld lX9_130 rfl (by first | assumption | rfl | exact lay_s0 (by omega) | exact lay_s1 (by omega) | exact lay_s2 (by omega) | exact lay_h0 (by omega) | exact lay_h1 (by omega)) (by first | decide | omega) (Nat.le_of_ble_eq_true rfl) (Nat.le_of_ble_eq_true rfl) (by omega) ?_
            refine c_isHeld hs (CL0_0 hC) (CL1_2 hC) (CL_slot hC hs) (lay_s0 hs) hT.1 hWT.1 ?_
            dsimp only [gPush]
            first | refine U_ifB_ne (tgt := 41) dX9_pair_35 (by decide) (by with_reducible rfl) (fun c35 => ?_) (fun c35 => ?_) | refine U_if_ne (tgt := 41) dX9_pair_35 (by decide) (by with_reducible rfl) (by omega) (fun c35 => ?_) (fun c35 => ?_) | refine V_if_ne (tgt := 41) dX9_pair_35 (by decide) (fun c35 => ?_) (fun c35 => ?_)
            · skip
              have hz : ¬ (S.1.2.2.1 s).1 = 0 := of_decide_eq_true c35
              rw [if_neg hz] at hQ
              refine V_aloadn0 dX9_pair_41 ?_
              refine V_getR dX9_pair_42 fX9_10 (by first | assumption | rfl | exact lay_s0 (by omega) | exact lay_s1 (by omega) | exact lay_s2 (by omega) | exact lay_h0 (by omega) | exact lay_h1 (by omega)) (by first | decide | omega) (by first | assumption | exact CL0_0 (by assumption) | exact CL0_1 (by assumption) | exact CL0_3 (by assumption) | exact CL0_4 (by assumption) | exact CL0_5 (by assumption) | exact CL0_6 (by assumption) | exact CL0_7 (by assumption) | exact CL0_8 (by assumption) | exact CL0_9 (by assumption) | exact CL0_10 (by assumption) | exact CL0_11 (by assumption) | exact CL0_12 (by assumption) | exact CL0_13 (by assumption) | exact CL1_2 (by assumption) | exact CL1_3 (by assumption) | exact CL80_2 (by assumption) | exact CL_slot (by assumption) (by omega) | exact (CL_sh (by assumption) (by omega)).1 | exact (CL_sh (by assumption) (by omega)).2.1 | rfl) ?_
              refine V_getR dX9_pair_45 fX9_99 (by first | assumption | rfl | exact lay_s0 (by omega) | exact lay_s1 (by omega) | exact lay_s2 (by omega) | exact lay_h0 (by omega) | exact lay_h1 (by omega)) (by first | decide | omega) (by first | assumption | exact CL0_0 (by assumption) | exact CL0_1 (by assumption) | exact CL0_3 (by assumption) | exact CL0_4 (by assumption) | exact CL0_5 (by assumption) | exact CL0_6 (by assumption) | exact CL0_7 (by assumption) | exact CL0_8 (by assumption) | exact CL0_9 (by assumption) | exact CL0_10 (by assumption) | exact CL0_11 (by assumption) | exact CL0_12 (by assumption) | exact CL0_13 (by assumption) | exact CL1_2 (by assumption) | exact CL1_3 (by assumption) | exact CL80_2 (by assumption) | exact CL_slot (by assumption) (by omega) | exact (CL_sh (by assumption) (by omega)).1 | exact (CL_sh (by assumption) (by omega)).2.1 | rfl) ?_
              refine V_iloadn1 dX9_pair_48 ?_
              refine U_aald dX9_pair_49 (by with_reducible rfl) (by first | assumption | rfl | exact lay_s0 (by omega) | exact lay_s1 (by omega) | exact lay_s2 (by omega) | exact lay_h0 (by omega) | exact lay_h1 (by omega)) (by decide) (by first | decide | omega) (by omega) (by first | assumption | exact CL0_0 (by assumption) | exact CL0_1 (by assumption) | exact CL0_3 (by assumption) | exact CL0_4 (by assumption) | exact CL0_5 (by assumption) | exact CL0_6 (by assumption) | exact CL0_7 (by assumption) | exact CL0_8 (by assumption) | exact CL0_9 (by assumption) | exact CL0_10 (by assumption) | exact CL0_11 (by assumption) | exact CL0_12 (by assumption) | exact CL0_13 (by assumption) | exact CL1_2 (by assumption) | exact CL1_3 (by assumption) | exact CL80_2 (by assumption) | exact CL_slot (by assumption) (by omega) | exact (CL_sh (by assumption) (by omega)).1 | exact (CL_sh (by assumption) (by omega)).2.1 | rfl) ?_
              refine V_astorew4 dX9_pair_50 (by decide) rfl ?_
              refine V_aloadn0 dX9_pair_52 ?_
              refine V_getR dX9_pair_53 fX9_35 (by first | assumption | rfl | exact lay_s0 (by omega) | exact lay_s1 (by omega) | exact lay_s2 (by omega) | exact lay_h0 (by omega) | exact lay_h1 (by omega)) (by first | decide | omega) (by first | assumption | exact CL0_0 (by assumption) | exact CL0_1 (by assumption) | exact CL0_3 (by assumption) | exact CL0_4 (by assumption) | exact CL0_5 (by assumption) | exact CL0_6 (by assumption) | exact CL0_7 (by assumption) | exact CL0_8 (by assumption) | exact CL0_9 (by assumption) | exact CL0_10 (by assumption) | exact CL0_11 (by assumption) | exact CL0_12 (by assumption) | exact CL0_13 (by assumption) | exact CL1_2 (by assumption) | exact CL1_3 (by assumption) | exact CL80_2 (by assumption) | exact CL_slot (by assumption) (by omega) | exact (CL_sh (by assumption) (by omega)).1 | exact (CL_sh (by assumption) (by omega)).2.1 | rfl) ?_
              refine V_aloadw4 dX9_pair_56 ?_
              refine V_iloadn2 dX9_pair_58 ?_
              refine V_callV2 (μ' := mX3_canRaise) dX9_pair_59 okX3_canRaise lX9_207 rfl (by first | assumption | rfl | exact lay_s0 (by omega) | exact lay_s1 (by omega) | exact lay_s2 (by omega) | exact lay_h0 (by omega) | exact lay_h1 (by omega)) (by first | decide | omega) (Nat.le_of_ble_eq_true rfl) (Nat.le_of_ble_eq_true rfl) (by omega) ?_
              refine c_canRaise (by omega) (CL_T hC hs) hT (by omega) (by omega) (fun h1 hF1 => ?_)
              have hC1 := CLay_eq hC hF1.2.2
              have hR1 := RC_S hR (h' := h1) ⟨fun a ha => hF1.1 a (by omega), by rw [hF1.1 43 (by omega)], fun a ha => by rw [hF1.2.1], hC1⟩
              dsimp only [gPush]
              first | refine U_ifB_eq (tgt := 78) dX9_pair_62 (by decide) (by with_reducible rfl) (fun c62 => ?_) (fun c62 => ?_) | refine U_if_eq (tgt := 78) dX9_pair_62 (by decide) (by with_reducible rfl) (by omega) (fun c62 => ?_) (fun c62 => ?_) | refine V_if_eq (tgt := 78) dX9_pair_62 (by decide) (fun c62 => ?_) (fun c62 => ?_)
              · skip
                have z : fhC (S.1.2.2.1 s).2.1 i' = 0 := by simpa using c62
                rw [if_pos (Or.inl z)] at hQ
                have hQ' := hQ h1 hR1 (hF1.toC (by omega))
                refine V_bipush (v := -3) dX9_pair_78 (by decide) ?_
                refine V_iret dX9_pair_80 rfl rfl ?_
                exact hQ'
              · skip
                refine V_aloadn0 dX9_pair_65 ?_
                refine V_getR dX9_pair_66 fX9_35 (by first | assumption | rfl | exact lay_s0 (by omega) | exact lay_s1 (by omega) | exact lay_s2 (by omega) | exact lay_h0 (by omega) | exact lay_h1 (by omega)) (by first | decide | omega) (by first | assumption | exact CL0_0 (by assumption) | exact CL0_1 (by assumption) | exact CL0_3 (by assumption) | exact CL0_4 (by assumption) | exact CL0_5 (by assumption) | exact CL0_6 (by assumption) | exact CL0_7 (by assumption) | exact CL0_8 (by assumption) | exact CL0_9 (by assumption) | exact CL0_10 (by assumption) | exact CL0_11 (by assumption) | exact CL0_12 (by assumption) | exact CL0_13 (by assumption) | exact CL1_2 (by assumption) | exact CL1_3 (by assumption) | exact CL80_2 (by assumption) | exact CL_slot (by assumption) (by omega) | exact (CL_sh (by assumption) (by omega)).1 | exact (CL_sh (by assumption) (by omega)).2.1 | rfl) ?_
                refine V_aloadw4 dX9_pair_69 ?_
                refine V_iloadn3 dX9_pair_71 ?_
                refine V_callV2 (μ' := mX3_canRaise) dX9_pair_72 okX3_canRaise lX9_207 rfl (by first | assumption | rfl | exact lay_s0 (by omega) | exact lay_s1 (by omega) | exact lay_s2 (by omega) | exact lay_h0 (by omega) | exact lay_h1 (by omega)) (by first | decide | omega) (Nat.le_of_ble_eq_true rfl) (Nat.le_of_ble_eq_true rfl) (by omega) ?_
                refine c_canRaise (by omega) (CL_T hC1 hs) (RC_slot hR1 hs).1 (by omega) (by omega) (fun h2 hF2 => ?_)
                have hC2 := CLay_eq hC1 hF2.2.2
                have hR2 := RC_S hR1 (h' := h2) ⟨fun a ha => hF2.1 a (by omega), by rw [hF2.1 43 (by omega)], fun a ha => by rw [hF2.2.1], hC2⟩
                have f2 := (hF1.toC (by omega)).tr (hF2.toC (by omega))
                dsimp only [gPush]
                first | refine U_ifB_ne (tgt := 81) dX9_pair_75 (by decide) (by with_reducible rfl) (fun c75 => ?_) (fun c75 => ?_) | refine U_if_ne (tgt := 81) dX9_pair_75 (by decide) (by with_reducible rfl) (by omega) (fun c75 => ?_) (fun c75 => ?_) | refine V_if_ne (tgt := 81) dX9_pair_75 (by decide) (fun c75 => ?_) (fun c75 => ?_)
                · skip
                  have z1 : ¬ fhC (S.1.2.2.1 s).2.1 i' = 0 := of_decide_eq_true c62
                  have z2 : ¬ fhC (S.1.2.2.1 s).2.1 j' = 0 := of_decide_eq_true c75
                  rw [if_neg (fun q => q.elim z1 z2)] at hQ
                  refine V_aloadn0 dX9_pair_81 ?_
                  refine V_aloadw4 dX9_pair_82 ?_
                  refine V_iloadn2 dX9_pair_84 ?_
                  refine V_iloadn3 dX9_pair_85 ?_
                  refine V_callV3 (μ' := mX9_meetInTwo) dX9_pair_86 okX9_meetInTwo lX9_211 rfl (by first | assumption | rfl | exact lay_s0 (by omega) | exact lay_s1 (by omega) | exact lay_s2 (by omega) | exact lay_h0 (by omega) | exact lay_h1 (by omega)) (by first | decide | omega) (Nat.le_of_ble_eq_true rfl) (Nat.le_of_ble_eq_true rfl) (by omega) ?_
                  refine c_meetInTwo (by omega) hR2 hs i1 (by omega) j1 (by omega) (fun h3 hR3 hF3 => ?_)
                  have hC3 := hR3.1
                  dsimp only [gPush]
                  first | refine U_ifB_eq (tgt := 94) dX9_pair_89 (by decide) (by with_reducible rfl) (fun c89 => ?_) (fun c89 => ?_) | refine U_if_eq (tgt := 94) dX9_pair_89 (by decide) (by with_reducible rfl) (by omega) (fun c89 => ?_) (fun c89 => ?_) | refine V_if_eq (tgt := 94) dX9_pair_89 (by decide) (fun c89 => ?_) (fun c89 => ?_)
                  · skip
                    rw [if_f c89] at hQ
                    refine V_aloadn0 dX9_pair_94 ?_
                    refine V_aloadw4 dX9_pair_95 ?_
                    refine V_iloadn2 dX9_pair_97 ?_
                    refine V_iloadn3 dX9_pair_98 ?_
                    refine V_callV3 (μ' := mX9_meetInFour) dX9_pair_99 okX9_meetInFour lX9_215 rfl (by first | assumption | rfl | exact lay_s0 (by omega) | exact lay_s1 (by omega) | exact lay_s2 (by omega) | exact lay_h0 (by omega) | exact lay_h1 (by omega)) (by first | decide | omega) (Nat.le_of_ble_eq_true rfl) (Nat.le_of_ble_eq_true rfl) (by omega) ?_
                    refine c_meetInFour (by omega) hR3 hs (by omega) (by omega) (fun h4 hR4 hF4 => ?_)
                    dsimp only [gPush]
                    first | refine U_ifB_eq (tgt := 109) dX9_pair_102 (by decide) (by with_reducible rfl) (fun c102 => ?_) (fun c102 => ?_) | refine U_if_eq (tgt := 109) dX9_pair_102 (by decide) (by with_reducible rfl) (by omega) (fun c102 => ?_) (fun c102 => ?_) | refine V_if_eq (tgt := 109) dX9_pair_102 (by decide) (fun c102 => ?_) (fun c102 => ?_)
                    · skip
                      rw [if_f c102] at hQ
                      have hQ' := hQ h4 hR4 (f2.tr (hF3.tr hF4))
                      refine V_iconst (v := nI 0) dX9_pair_109 (by decide) ?_
                      refine V_iret dX9_pair_110 rfl rfl ?_
                      exact hQ'
                    · skip
                      rw [if_t c102] at hQ
                      have hQ' := hQ h4 hR4 (f2.tr (hF3.tr hF4))
                      refine V_iconst (v := nI 2) dX9_pair_105 (by decide) ?_
                      refine V_goto (tgt := 110) dX9_pair_106 (by decide) ?_
                      refine V_iret dX9_pair_110 rfl rfl ?_
                      exact hQ'
                  · skip
                    rw [if_t c89] at hQ
                    have hQ' := hQ h3 hR3 (f2.tr hF3)
                    refine V_iconst (v := nI 1) dX9_pair_92 (by decide) ?_
                    refine V_iret dX9_pair_93 rfl rfl ?_
                    exact hQ'
                · skip
                  have z : fhC (S.1.2.2.1 s).2.1 j' = 0 := by simpa using c75
                  rw [if_pos (Or.inr z)] at hQ
                  have hQ' := hQ h2 hR2 f2
                  refine V_bipush (v := -3) dX9_pair_78 (by decide) ?_
                  refine V_iret dX9_pair_80 rfl rfl ?_
                  exact hQ'
            · skip
              have hz : (S.1.2.2.1 s).1 = 0 := by simpa using c35
              rw [if_pos hz] at hQ
              have hQ' := hQ h hR FrC.rf
              refine V_bipush (v := -11) dX9_pair_38 (by decide) ?_
              refine V_iret dX9_pair_40 rfl rfl ?_
              exact hQ'
          · skip
            exact absurd c25 hne
  · have hQ9 := hQ h hR FrC.rf
    have eq0 : g_pair S x i j = -1 := if_neg hg
    rw [eq0] at hQ9
    refine V_iloadn1 dX9_pair_0 ?_
    refine V_callS1 (μ' := mX9_isSlot) dX9_pair_1 okX9_isSlot lX9_91 (Nat.le_of_ble_eq_true rfl) (Nat.le_of_ble_eq_true rfl) (by omega) ?_
    refine c_isSlot ?_
    dsimp only [gPush]
    first | refine U_ifB_eq (tgt := 28) dX9_pair_4 (by decide) (by with_reducible rfl) (fun c4 => ?_) (fun c4 => ?_) | refine U_if_eq (tgt := 28) dX9_pair_4 (by decide) (by with_reducible rfl) (by omega) (fun c4 => ?_) (fun c4 => ?_) | refine V_if_eq (tgt := 28) dX9_pair_4 (by decide) (fun c4 => ?_) (fun c4 => ?_)
    · skip
      refine V_iconst (v := -1) dX9_pair_28 (by decide) ?_
      refine V_iret dX9_pair_29 rfl rfl ?_
      exact hQ9
    · skip
      refine V_aloadn0 dX9_pair_7 ?_
      refine V_iloadn2 dX9_pair_8 ?_
      refine V_callV1 (μ' := mX9_isStep) dX9_pair_9 okX9_isStep lX9_153 rfl (by first | assumption | rfl | exact lay_s0 (by omega) | exact lay_s1 (by omega) | exact lay_s2 (by omega) | exact lay_h0 (by omega) | exact lay_h1 (by omega)) (by first | decide | omega) (Nat.le_of_ble_eq_true rfl) (Nat.le_of_ble_eq_true rfl) (by omega) ?_
      refine c_isStep hn5 (CL0_0 hC) n0 ?_
      dsimp only [gPush]
      first | refine U_ifB_eq (tgt := 28) dX9_pair_12 (by decide) (by with_reducible rfl) (fun c12 => ?_) (fun c12 => ?_) | refine U_if_eq (tgt := 28) dX9_pair_12 (by decide) (by with_reducible rfl) (by omega) (fun c12 => ?_) (fun c12 => ?_) | refine V_if_eq (tgt := 28) dX9_pair_12 (by decide) (fun c12 => ?_) (fun c12 => ?_)
      · skip
        refine V_iconst (v := -1) dX9_pair_28 (by decide) ?_
        refine V_iret dX9_pair_29 rfl rfl ?_
        exact hQ9
      · skip
        refine V_aloadn0 dX9_pair_15 ?_
        refine V_iloadn3 dX9_pair_16 ?_
        refine V_callV1 (μ' := mX9_isStep) dX9_pair_17 okX9_isStep lX9_153 rfl (by first | assumption | rfl | exact lay_s0 (by omega) | exact lay_s1 (by omega) | exact lay_s2 (by omega) | exact lay_h0 (by omega) | exact lay_h1 (by omega)) (by first | decide | omega) (Nat.le_of_ble_eq_true rfl) (Nat.le_of_ble_eq_true rfl) (by omega) ?_
        refine c_isStep hn5 (CL0_0 hC) n0 ?_
        dsimp only [gPush]
        first | refine U_ifB_eq (tgt := 28) dX9_pair_20 (by decide) (by with_reducible rfl) (fun c20 => ?_) (fun c20 => ?_) | refine U_if_eq (tgt := 28) dX9_pair_20 (by decide) (by with_reducible rfl) (by omega) (fun c20 => ?_) (fun c20 => ?_) | refine V_if_eq (tgt := 28) dX9_pair_20 (by decide) (fun c20 => ?_) (fun c20 => ?_)
        · skip
          refine V_iconst (v := -1) dX9_pair_28 (by decide) ?_
          refine V_iret dX9_pair_29 rfl rfl ?_
          exact hQ9
        · skip
          refine V_iloadn2 dX9_pair_23 ?_
          refine V_iloadn3 dX9_pair_24 ?_
          first | refine U_icmp_ne (tgt := 30) dX9_pair_25 (by decide) (by with_reducible rfl) (by with_reducible rfl) (by omega) (by omega) (fun c25 => ?_) (fun c25 => ?_) | refine V_icmp_ne (tgt := 30) dX9_pair_25 (by decide) (fun c25 => ?_) (fun c25 => ?_)
          · skip
            exact absurd (by rw [c4, c12, c20, decide_eq_true c25]; rfl) hg
          · skip
            refine V_iconst (v := -1) dX9_pair_28 (by decide) ?_
            refine V_iret dX9_pair_29 rfl rfl ?_
            exact hQ9

end C47
