/-! ===== the reference: sheets ===== -/
section C72
variable {Γ : gM} {d : Nat} {h : gH} {Q : Option Value → gH → Prop} {S : GS}
set_option maxRecDepth 100000 in
set_option maxHeartbeats 4000000 in
theorem m_isOutside {s l : Nat} {i n : Int32} (hM : MLay h) (hs : s < 4) (hl : gI h 121 s = nI l) (hQ : Q (some (.int (gBo (!hpB i n l)))) h) : V Γ mX10_isOutside d 124 124 h 0 [some (.ref 94), some (.int (nI s)), some (.int i), some (.int n)] [] Q := by
  refine V_iloadn3 dX10_isOutside_0 ?_
  refine V_if_lt (tgt := 24) dX10_isOutside_1 (by decide) (fun c1 => ?_) (fun c1 => ?_)
  · have e : hpB i n l = false := by unfold hpB; rw [decide_eq_false (Int32.not_le.mpr c1), Bool.false_and, Bool.and_false]
    rw [e] at hQ
    refine V_iconst (v := nI 1) dX10_isOutside_24 (by decide) ?_
    refine V_goto (tgt := 29) dX10_isOutside_25 (by decide) ?_
    refine V_iret dX10_isOutside_29 rfl (by decide) ?_
    exact hQ
  refine V_iloadn2 dX10_isOutside_4 ?_
  refine V_if_lt (tgt := 24) dX10_isOutside_5 (by decide) (fun c5 => ?_) (fun c5 => ?_)
  · have e : hpB i n l = false := by unfold hpB; rw [decide_eq_false (Int32.not_le.mpr c5), Bool.false_and]
    rw [e] at hQ
    refine V_iconst (v := nI 1) dX10_isOutside_24 (by decide) ?_
    refine V_goto (tgt := 29) dX10_isOutside_25 (by decide) ?_
    refine V_iret dX10_isOutside_29 rfl (by decide) ?_
    exact hQ
  refine V_iloadn2 dX10_isOutside_8 ?_
  refine V_i2l dX10_isOutside_9 rfl ?_
  refine V_iloadn3 dX10_isOutside_10 ?_
  refine V_i2l dX10_isOutside_11 rfl ?_
  refine V_ladd dX10_isOutside_12 ?_
  refine V_aloadn0 dX10_isOutside_13 ?_
  refine V_getR dX10_isOutside_14 fX10_95 (by first | assumption | rfl) (by first | decide | omega) (by first | assumption | exact ML_4 (by assumption) | exact ML_5 (by assumption) | exact ML_6 (by assumption) | exact ML_7 (by assumption) | exact ML_8 (by assumption) | exact ML_9 (by assumption) | exact ML_10 (by assumption) | exact ML_11 (by assumption) | exact ML_12 (by assumption) | exact ML_13 (by assumption) | exact ML_15 (by assumption) | exact ML_16 (by assumption) | exact ML_17 (by assumption) | exact ML_20 (by assumption) | exact ML_23 (by assumption) | exact ML_24 (by assumption) | exact ML_30 (by assumption) | exact ML_31 (by assumption) | exact ML_32 (by assumption) | exact ML_33 (by assumption) | exact ML_35 (by assumption) | exact ML_36 (by assumption) | exact ML_37 (by assumption) | exact ML_38 (by assumption) | exact ML_41 (by assumption) | exact ML_42 (by assumption) | exact ML_43 (by assumption) | exact ML_44 (by assumption) | exact ML_45 (by assumption) | rfl) ?_
  refine V_iloadn1 dX10_isOutside_17 ?_
  refine U_iald dX10_isOutside_18 (by with_reducible rfl) (by first | assumption | rfl) (by first | decide | omega) (by omega) (by first | assumption | exact ML_4 (by assumption) | exact ML_5 (by assumption) | exact ML_6 (by assumption) | exact ML_7 (by assumption) | exact ML_8 (by assumption) | exact ML_9 (by assumption) | exact ML_10 (by assumption) | exact ML_11 (by assumption) | exact ML_12 (by assumption) | exact ML_13 (by assumption) | exact ML_15 (by assumption) | exact ML_16 (by assumption) | exact ML_17 (by assumption) | exact ML_20 (by assumption) | exact ML_23 (by assumption) | exact ML_24 (by assumption) | exact ML_30 (by assumption) | exact ML_31 (by assumption) | exact ML_32 (by assumption) | exact ML_33 (by assumption) | exact ML_35 (by assumption) | exact ML_36 (by assumption) | exact ML_37 (by assumption) | exact ML_38 (by assumption) | exact ML_41 (by assumption) | exact ML_42 (by assumption) | exact ML_43 (by assumption) | exact ML_44 (by assumption) | exact ML_45 (by assumption) | rfl) ?_
  refine V_i2l dX10_isOutside_19 rfl ?_
  refine V_lcmp dX10_isOutside_20 ?_
  refine V_if_le (tgt := 28) dX10_isOutside_21 (by decide) (fun c21 => ?_) (fun c21 => ?_)
  · have e : hpB i n l = true := by unfold hpB; rw [decide_eq_true (Int32.not_lt.mp c5), decide_eq_true (Int32.not_lt.mp c1), decide_eq_true ((lg_cmp_le _ _).mp c21)]; rfl
    rw [e] at hQ
    refine V_iconst (v := nI 0) dX10_isOutside_28 (by decide) ?_
    refine V_iret dX10_isOutside_29 rfl (by decide) ?_
    exact hQ
  have e : hpB i n l = false := by unfold hpB; rw [decide_eq_false (fun q => c21 ((lg_cmp_le _ _).mpr q)), Bool.and_false, Bool.and_false]
  rw [e] at hQ
  refine V_iconst (v := nI 1) dX10_isOutside_24 (by decide) ?_
  refine V_goto (tgt := 29) dX10_isOutside_25 (by decide) ?_
  refine V_iret dX10_isOutside_29 rfl (by first | exact gBo_nar _ | rfl | decide) ?_
  exact hQ
set_option maxRecDepth 100000 in
set_option maxHeartbeats 4000000 in
theorem m_cut {so : Nat} {v : Int32} (hso : so ≤ 2) (hQ : Q (some (.int (cutS so v))) h) : V Γ mX10_cut d 124 124 h 0 [some (.int (nI so)), some (.int v)] [] Q := by
  unfold cutS at hQ
  refine V_iloadn0 dX10_cut_0 ?_
  first | refine U_ifB_ne (tgt := 9) dX10_cut_1 (by decide) (by with_reducible rfl) (fun c1 => ?_) (fun c1 => ?_) | refine U_if_ne (tgt := 9) dX10_cut_1 (by decide) (by with_reducible rfl) (by omega) (fun c1 => ?_) (fun c1 => ?_) | refine V_if_ne (tgt := 9) dX10_cut_1 (by decide) (fun c1 => ?_) (fun c1 => ?_)
  · skip
    rw [if_neg c1] at hQ
    refine V_iloadn0 dX10_cut_9 ?_
    refine V_iconst (v := nI 1) dX10_cut_10 (by decide) ?_
    first | refine U_icmp_ne (tgt := 22) dX10_cut_11 (by decide) (by with_reducible rfl) (by with_reducible rfl) (by omega) (by omega) (fun c11 => ?_) (fun c11 => ?_) | refine V_icmp_ne (tgt := 22) dX10_cut_11 (by decide) (fun c11 => ?_) (fun c11 => ?_)
    · skip
      rw [if_neg c11] at hQ
      refine V_iloadn1 dX10_cut_22 ?_
      refine V_iret dX10_cut_23 rfl rfl ?_
      exact hQ
    · skip
      rw [if_pos c11] at hQ
      refine V_iloadn1 dX10_cut_14 ?_
      refine V_ldcw (v := 65535) dX10_cut_15 kX10_284 ?_
      refine V_iand dX10_cut_18 ?_
      refine V_topI (cut16 v) ?_
      refine V_goto (tgt := 23) dX10_cut_19 (by decide) ?_
      refine V_iret dX10_cut_23 rfl rfl ?_
      exact hQ
  · skip
    rw [if_pos c1] at hQ
    refine V_iloadn1 dX10_cut_4 ?_
    refine V_i2b dX10_cut_5 rfl ?_
    refine V_goto (tgt := 23) dX10_cut_6 (by decide) ?_
    refine V_iret dX10_cut_23 rfl rfl ?_
    exact hQ

set_option maxRecDepth 100000 in
set_option maxHeartbeats 4000000 in
theorem m_sheet {x so n : Int32} (hd : 2 ≤ d) (hR : RM h S) (hWG : WG S) (hQ : ∀ h', RM h' (f_sheet S x so n).2 → FrD h h' → Q (some (.int (f_sheet S x so n).1)) h') : V Γ mX10_sheet d 124 124 h 0 [some (.ref 94), some (.int x), some (.int so), some (.int n), none] [] Q := by
  obtain ⟨hM, ⟨r0, r1, rT, rW⟩, rK, rK2, rB, rS⟩ := id hR
  obtain ⟨hWS, hWK, hWB, hWX⟩ := id hWG
  have hn2 := hWS.1
  have hn5 := hWS.2.1
  by_cases hg : (inB x 4 && (decide (-1 ≤ so) && decide (so ≤ nI 2))) = true
  · have hg2 := hg
    rw [Bool.and_eq_true] at hg2
    obtain ⟨s, hs, rfl⟩ := inB_t (by decide) hg2.1
    have hg3 := hg2.2
    rw [Bool.and_eq_true] at hg3
    have hlo : -1 ≤ so := of_decide_eq_true hg3.1
    have hhi : so ≤ nI 2 := of_decide_eq_true hg3.2
    obtain ⟨x0, x1, x2⟩ := rS s hs
    obtain ⟨b1, b2, b3⟩ := hWX s hs
    have bl := soI_lt b1
    have eq0 : f_sheet S (nI s) so n = _ := if_t hg
    rw [eq0, cN_nI (by omega)] at hQ
    have loop : ∀ (X : Nat × Nat × (Nat → Int32)) (h0 : gH), gI h0 120 s = soI X.1 → gI h0 121 s = nI X.2.1 → (∀ k, X.2.2 k = nI 0) → (∀ q, q ≠ s → gI h0 120 q = gI h 120 q) → (∀ q, q ≠ s → gI h0 121 q = gI h 121 q) → (∀ a, a ≠ 120 → a ≠ 121 → gI h0 a = gI h a) → gL h0 = gL h → gR h0 = gR h → (∀ h', RM h' (setSh S s X) → FrD h h' → Q (some (.int (nI 1))) h') → ∀ f k h1, k + f = 40 → (∀ j, j < k → gI h1 122 (40 * s + j) = nI 0) → (∀ q, q < 40 * s ∨ 40 * s + 40 ≤ q → gI h1 122 q = gI h 122 q) → (∀ a, a ≠ 122 → gI h1 a = gI h0 a) → gL h1 = gL h → gR h1 = gR h → V Γ mX10_sheet d 124 124 h1 64 [some (.ref 94), some (.int (nI s)), some (.int so), some (.int n), some (.int (nI k))] [] Q := by
      intro X h0 y0 y1 y2 o0 o1 e0 l0 k0 hQ1 f
      induction f with
      | zero =>
        intro k h1 hk hz o2 e1 l1 k1
        have hQ9 := hQ1 h1 (RM_sh hR (by rw [e1 120 (by omega)]; exact y0) (by rw [e1 121 (by omega)]; exact y1) (fun _ j hj => by rw [y2]; exact hz j (by omega)) (fun q hq => by rw [e1 120 (by omega)]; exact o0 q hq) (fun q hq => by rw [e1 121 (by omega)]; exact o1 q hq) o2 (fun a ha => by rw [e1 a (by omega), e0 a (by omega) (by omega)]) (fun k hk => by rw [e1 94 (by omega), e0 94 (by omega) (by omega)]) k1) ⟨fun a ha => by rw [e1 a (by omega), e0 a (by omega) (by omega)], fun a ha => by rw [l1], k1⟩
        refine V_iloadw4 dX10_sheet_64 ?_
        refine V_bipush (v := nI 40) dX10_sheet_66 (by decide) ?_
        first | refine U_icmp_ge (tgt := 90) dX10_sheet_68 (by decide) (by with_reducible rfl) (by with_reducible rfl) (by omega) (by omega) (fun c68 => ?_) (fun c68 => ?_) | refine V_icmp_ge (tgt := 90) dX10_sheet_68 (by decide) (fun c68 => ?_) (fun c68 => ?_)
        · skip
          refine V_iconst (v := nI 1) dX10_sheet_90 (by decide) ?_
          refine V_iret dX10_sheet_91 rfl rfl ?_
          exact hQ9
        · skip
          omega
      | succ f ih =>
        intro k h1 hk hz o2 e1 l1 k1
        have hM1 := MLay_eq hM k1
        refine V_iloadw4 dX10_sheet_64 ?_
        refine V_bipush (v := nI 40) dX10_sheet_66 (by decide) ?_
        first | refine U_icmp_ge (tgt := 90) dX10_sheet_68 (by decide) (by with_reducible rfl) (by with_reducible rfl) (by omega) (by omega) (fun c68 => ?_) (fun c68 => ?_) | refine V_icmp_ge (tgt := 90) dX10_sheet_68 (by decide) (fun c68 => ?_) (fun c68 => ?_)
        · skip
          omega
        · skip
          refine V_aloadn0 dX10_sheet_71 ?_
          refine V_getR dX10_sheet_72 fX10_98 (by first | assumption | rfl) (by first | decide | omega) (by first | assumption | exact ML_4 (by assumption) | exact ML_5 (by assumption) | exact ML_6 (by assumption) | exact ML_7 (by assumption) | exact ML_8 (by assumption) | exact ML_9 (by assumption) | exact ML_10 (by assumption) | exact ML_11 (by assumption) | exact ML_12 (by assumption) | exact ML_13 (by assumption) | exact ML_15 (by assumption) | exact ML_16 (by assumption) | exact ML_17 (by assumption) | exact ML_20 (by assumption) | exact ML_23 (by assumption) | exact ML_24 (by assumption) | exact ML_30 (by assumption) | exact ML_31 (by assumption) | exact ML_32 (by assumption) | exact ML_33 (by assumption) | exact ML_35 (by assumption) | exact ML_36 (by assumption) | exact ML_37 (by assumption) | exact ML_38 (by assumption) | exact ML_41 (by assumption) | exact ML_42 (by assumption) | exact ML_43 (by assumption) | exact ML_44 (by assumption) | exact ML_45 (by assumption) | rfl) ?_
          refine V_bipush (v := nI 40) dX10_sheet_75 (by decide) ?_
          refine V_iloadn1 dX10_sheet_77 ?_
          first | refine U_imul dX10_sheet_78 (by with_reducible rfl) (by with_reducible rfl) ?_ | refine V_imul dX10_sheet_78 ?_
          refine V_iloadw4 dX10_sheet_79 ?_
          first | refine U_iadd dX10_sheet_81 (by with_reducible rfl) (by with_reducible rfl) ?_ | refine V_iadd dX10_sheet_81 ?_
          refine V_iconst (v := nI 0) dX10_sheet_82 (by decide) ?_
          refine U_iast dX10_sheet_83 (by with_reducible rfl) (by first | assumption | rfl) (by first | decide | omega) (by omega) ?_
          refine V_iinc4 dX10_sheet_84 (by first | exact ginc1 _ | rfl) (by decide) rfl ?_
          refine V_goto (tgt := 64) dX10_sheet_87 (by decide) ?_
          refine ih (k + 1) _ (by omega) (fun j hj => ?_) (fun q hq => by rw [gI_sI, if_neg (by omega)]; exact o2 q hq) (fun a ha => by funext b; rw [gI_sI, if_neg (fun z => ha z.1), e1 a ha]) l1 k1
          rw [gI_sI]
          by_cases e : j = k
          · rw [if_pos ⟨rfl, by omega⟩]
          · rw [if_neg (by omega)]; exact hz j (by omega)
    by_cases hm : so = -1
    · subst hm
      rw [if_pos rfl] at hQ
      have st := loop (0, 0, fun _ => nI 0) (sI (sI h 120 s (-1)) 121 s (nI 0)) (by rw [gI_sI, if_neg (by omega), gI_sI, if_pos ⟨rfl, rfl⟩]; rfl) (by rw [gI_sI, if_pos ⟨rfl, rfl⟩]) (fun _ => rfl) (fun q hq => by rw [gI_sI, if_neg (by omega), gI_sI, if_neg (fun z => hq z.2)]) (fun q hq => by rw [gI_sI, if_neg (fun z => hq z.2), gI_sI, if_neg (by omega)]) (fun a a1 a2 => by funext b; rw [gI_sI, if_neg (fun z => a2 z.1), gI_sI, if_neg (fun z => a1 z.1)]) rfl rfl hQ 40 0 _ rfl (fun j hj => absurd hj (Nat.not_lt_zero _)) (fun q hq => by rw [gI_sI, if_neg (by omega), gI_sI, if_neg (by omega)]) (fun _ _ => rfl) rfl rfl
      refine V_iloadn1 dX10_sheet_0 ?_
      refine V_callS1 (μ' := mX10_isSheet) dX10_sheet_1 okX10_isSheet lX10_285 (Nat.le_of_ble_eq_true rfl) (Nat.le_of_ble_eq_true rfl) (by omega) ?_
      refine m_isSheet (by omega) ?_
      rw [hg2.1]
      dsimp only [gPush]
      first | refine U_ifB_eq (tgt := 26) dX10_sheet_4 (by decide) (by with_reducible rfl) (fun c4 => ?_) (fun c4 => ?_) | refine U_if_eq (tgt := 26) dX10_sheet_4 (by decide) (by with_reducible rfl) (by omega) (fun c4 => ?_) (fun c4 => ?_) | refine V_if_eq (tgt := 26) dX10_sheet_4 (by decide) (fun c4 => ?_) (fun c4 => ?_)
      · skip
        cases c4
      · skip
        refine V_iloadn2 dX10_sheet_7 ?_
        refine V_iconst (v := -1) dX10_sheet_8 (by decide) ?_
        refine V_iconst (v := nI 2) dX10_sheet_9 (by decide) ?_
        refine V_callS3 (μ' := mX10_in) dX10_sheet_10 okX10_in lX10_104 (Nat.le_of_ble_eq_true rfl) (Nat.le_of_ble_eq_true rfl) (by omega) ?_
        refine m_in ?_
        rw [hg2.2]
        dsimp only [gPush]
        first | refine U_ifB_eq (tgt := 26) dX10_sheet_13 (by decide) (by with_reducible rfl) (fun c13 => ?_) (fun c13 => ?_) | refine U_if_eq (tgt := 26) dX10_sheet_13 (by decide) (by with_reducible rfl) (by omega) (fun c13 => ?_) (fun c13 => ?_) | refine V_if_eq (tgt := 26) dX10_sheet_13 (by decide) (fun c13 => ?_) (fun c13 => ?_)
        · skip
          cases c13
        · skip
          refine V_iloadn2 dX10_sheet_16 ?_
          refine V_if_lt (tgt := 28) dX10_sheet_17 (by decide) (fun c17 => ?_) (fun c17 => ?_)
          · skip
            refine V_iloadn2 dX10_sheet_28 ?_
            refine V_if_lt (tgt := 39) dX10_sheet_29 (by decide) (fun c29 => ?_) (fun c29 => ?_)
            · skip
              refine V_aloadn0 dX10_sheet_39 ?_
              refine V_getR dX10_sheet_40 fX10_92 (by first | assumption | rfl) (by first | decide | omega) (by first | assumption | exact ML_43 (MLay_eq hM rfl) | exact ML_4 (by assumption) | exact ML_5 (by assumption) | exact ML_6 (by assumption) | exact ML_7 (by assumption) | exact ML_8 (by assumption) | exact ML_9 (by assumption) | exact ML_10 (by assumption) | exact ML_11 (by assumption) | exact ML_12 (by assumption) | exact ML_13 (by assumption) | exact ML_15 (by assumption) | exact ML_16 (by assumption) | exact ML_17 (by assumption) | exact ML_20 (by assumption) | exact ML_23 (by assumption) | exact ML_24 (by assumption) | exact ML_30 (by assumption) | exact ML_31 (by assumption) | exact ML_32 (by assumption) | exact ML_33 (by assumption) | exact ML_35 (by assumption) | exact ML_36 (by assumption) | exact ML_37 (by assumption) | exact ML_38 (by assumption) | exact ML_41 (by assumption) | exact ML_42 (by assumption) | exact ML_43 (by assumption) | exact ML_44 (by assumption) | exact ML_45 (by assumption) | rfl) ?_
              refine V_iloadn1 dX10_sheet_43 ?_
              refine V_iloadn2 dX10_sheet_44 ?_
              refine U_iast dX10_sheet_45 (by with_reducible rfl) (by first | assumption | rfl) (by first | decide | omega) (by omega) ?_
              refine V_aloadn0 dX10_sheet_46 ?_
              refine V_getR dX10_sheet_47 fX10_95 (by first | assumption | rfl) (by first | decide | omega) (by first | assumption | exact ML_43 (MLay_eq hM rfl) | exact ML_4 (by assumption) | exact ML_5 (by assumption) | exact ML_6 (by assumption) | exact ML_7 (by assumption) | exact ML_8 (by assumption) | exact ML_9 (by assumption) | exact ML_10 (by assumption) | exact ML_11 (by assumption) | exact ML_12 (by assumption) | exact ML_13 (by assumption) | exact ML_15 (by assumption) | exact ML_16 (by assumption) | exact ML_17 (by assumption) | exact ML_20 (by assumption) | exact ML_23 (by assumption) | exact ML_24 (by assumption) | exact ML_30 (by assumption) | exact ML_31 (by assumption) | exact ML_32 (by assumption) | exact ML_33 (by assumption) | exact ML_35 (by assumption) | exact ML_36 (by assumption) | exact ML_37 (by assumption) | exact ML_38 (by assumption) | exact ML_41 (by assumption) | exact ML_42 (by assumption) | exact ML_43 (by assumption) | exact ML_44 (by assumption) | exact ML_45 (by assumption) | rfl) ?_
              refine V_iloadn1 dX10_sheet_50 ?_
              refine V_iloadn2 dX10_sheet_51 ?_
              refine V_if_ge (tgt := 59) dX10_sheet_52 (by decide) (fun c52 => ?_) (fun c52 => ?_)
              · skip
                exact absurd c52 (by decide)
              · skip
                refine V_iconst (v := nI 0) dX10_sheet_55 (by decide) ?_
                refine V_goto (tgt := 60) dX10_sheet_56 (by decide) ?_
                refine U_iast dX10_sheet_60 (by with_reducible rfl) (by first | assumption | rfl) (by first | decide | omega) (by omega) ?_
                refine V_iconst (v := nI 0) dX10_sheet_61 (by decide) ?_
                refine V_istorew4 dX10_sheet_62 (by decide) rfl ?_
                exact st
            · skip
              exact absurd (by decide) c29
          · skip
            exact absurd (by decide) c17
    rw [if_neg hm] at hQ
    have hs0 : ¬ so < 0 := fun q => hm (int_m1 hlo q)
    obtain ⟨o, o1, rfl⟩ := nI_of hs0
    have o2 : o ≤ 2 := (nI_leI o1 (by decide)).mp hhi
    rw [cN_nI o1] at hQ
    by_cases h40 : nI 40 < n
    · rw [if_pos h40] at hQ
      have hQ9 := hQ h hR FrD.rf
      refine V_iloadn1 dX10_sheet_0 ?_
      refine V_callS1 (μ' := mX10_isSheet) dX10_sheet_1 okX10_isSheet lX10_285 (Nat.le_of_ble_eq_true rfl) (Nat.le_of_ble_eq_true rfl) (by omega) ?_
      refine m_isSheet (by omega) ?_
      rw [hg2.1]
      dsimp only [gPush]
      first | refine U_ifB_eq (tgt := 26) dX10_sheet_4 (by decide) (by with_reducible rfl) (fun c4 => ?_) (fun c4 => ?_) | refine U_if_eq (tgt := 26) dX10_sheet_4 (by decide) (by with_reducible rfl) (by omega) (fun c4 => ?_) (fun c4 => ?_) | refine V_if_eq (tgt := 26) dX10_sheet_4 (by decide) (fun c4 => ?_) (fun c4 => ?_)
      · skip
        cases c4
      · skip
        refine V_iloadn2 dX10_sheet_7 ?_
        refine V_iconst (v := -1) dX10_sheet_8 (by decide) ?_
        refine V_iconst (v := nI 2) dX10_sheet_9 (by decide) ?_
        refine V_callS3 (μ' := mX10_in) dX10_sheet_10 okX10_in lX10_104 (Nat.le_of_ble_eq_true rfl) (Nat.le_of_ble_eq_true rfl) (by omega) ?_
        refine m_in ?_
        rw [hg2.2]
        dsimp only [gPush]
        first | refine U_ifB_eq (tgt := 26) dX10_sheet_13 (by decide) (by with_reducible rfl) (fun c13 => ?_) (fun c13 => ?_) | refine U_if_eq (tgt := 26) dX10_sheet_13 (by decide) (by with_reducible rfl) (by omega) (fun c13 => ?_) (fun c13 => ?_) | refine V_if_eq (tgt := 26) dX10_sheet_13 (by decide) (fun c13 => ?_) (fun c13 => ?_)
        · skip
          cases c13
        · skip
          refine V_iloadn2 dX10_sheet_16 ?_
          refine V_if_lt (tgt := 28) dX10_sheet_17 (by decide) (fun c17 => ?_) (fun c17 => ?_)
          · skip
            exact absurd c17 hs0
          · skip
            refine V_iloadn3 dX10_sheet_20 ?_
            refine V_bipush (v := nI 40) dX10_sheet_21 (by decide) ?_
            first | refine U_icmp_le (tgt := 28) dX10_sheet_23 (by decide) (by with_reducible rfl) (by with_reducible rfl) (by omega) (by omega) (fun c23 => ?_) (fun c23 => ?_) | refine V_icmp_le (tgt := 28) dX10_sheet_23 (by decide) (fun c23 => ?_) (fun c23 => ?_)
            · skip
              exact absurd c23 (Int32.not_le.mpr h40)
            · skip
              refine V_iconst (v := -1) dX10_sheet_26 (by decide) ?_
              refine V_iret dX10_sheet_27 rfl rfl ?_
              exact hQ9
    rw [if_neg h40] at hQ
    by_cases h0 : n < 0
    · rw [if_pos h0] at hQ
      have hQ9 := hQ h hR FrD.rf
      refine V_iloadn1 dX10_sheet_0 ?_
      refine V_callS1 (μ' := mX10_isSheet) dX10_sheet_1 okX10_isSheet lX10_285 (Nat.le_of_ble_eq_true rfl) (Nat.le_of_ble_eq_true rfl) (by omega) ?_
      refine m_isSheet (by omega) ?_
      rw [hg2.1]
      dsimp only [gPush]
      first | refine U_ifB_eq (tgt := 26) dX10_sheet_4 (by decide) (by with_reducible rfl) (fun c4 => ?_) (fun c4 => ?_) | refine U_if_eq (tgt := 26) dX10_sheet_4 (by decide) (by with_reducible rfl) (by omega) (fun c4 => ?_) (fun c4 => ?_) | refine V_if_eq (tgt := 26) dX10_sheet_4 (by decide) (fun c4 => ?_) (fun c4 => ?_)
      · skip
        cases c4
      · skip
        refine V_iloadn2 dX10_sheet_7 ?_
        refine V_iconst (v := -1) dX10_sheet_8 (by decide) ?_
        refine V_iconst (v := nI 2) dX10_sheet_9 (by decide) ?_
        refine V_callS3 (μ' := mX10_in) dX10_sheet_10 okX10_in lX10_104 (Nat.le_of_ble_eq_true rfl) (Nat.le_of_ble_eq_true rfl) (by omega) ?_
        refine m_in ?_
        rw [hg2.2]
        dsimp only [gPush]
        first | refine U_ifB_eq (tgt := 26) dX10_sheet_13 (by decide) (by with_reducible rfl) (fun c13 => ?_) (fun c13 => ?_) | refine U_if_eq (tgt := 26) dX10_sheet_13 (by decide) (by with_reducible rfl) (by omega) (fun c13 => ?_) (fun c13 => ?_) | refine V_if_eq (tgt := 26) dX10_sheet_13 (by decide) (fun c13 => ?_) (fun c13 => ?_)
        · skip
          cases c13
        · skip
          refine V_iloadn2 dX10_sheet_16 ?_
          refine V_if_lt (tgt := 28) dX10_sheet_17 (by decide) (fun c17 => ?_) (fun c17 => ?_)
          · skip
            exact absurd c17 hs0
          · skip
            refine V_iloadn3 dX10_sheet_20 ?_
            refine V_bipush (v := nI 40) dX10_sheet_21 (by decide) ?_
            first | refine U_icmp_le (tgt := 28) dX10_sheet_23 (by decide) (by with_reducible rfl) (by with_reducible rfl) (by omega) (by omega) (fun c23 => ?_) (fun c23 => ?_) | refine V_icmp_le (tgt := 28) dX10_sheet_23 (by decide) (fun c23 => ?_) (fun c23 => ?_)
            · skip
              refine V_iloadn2 dX10_sheet_28 ?_
              refine V_if_lt (tgt := 39) dX10_sheet_29 (by decide) (fun c29 => ?_) (fun c29 => ?_)
              · skip
                exact absurd c29 hs0
              · skip
                refine V_iloadn3 dX10_sheet_32 ?_
                refine V_if_ge (tgt := 39) dX10_sheet_33 (by decide) (fun c33 => ?_) (fun c33 => ?_)
                · skip
                  exact absurd c33 (Int32.not_le.mpr h0)
                · skip
                  refine V_bipush (v := -14) dX10_sheet_36 (by decide) ?_
                  refine V_iret dX10_sheet_38 rfl rfl ?_
                  exact hQ9
            · skip
              exact absurd (Int32.not_lt.mp h40) c23
    rw [if_neg h0] at hQ
    obtain ⟨m, m1, rfl⟩ := nI_of h0
    have m2 : m ≤ 40 := (nI_leI m1 (by decide)).mp (Int32.not_lt.mp h40)
    rw [cN_nI m1] at hQ
    have st := loop (o + 1, m, fun _ => nI 0) (sI (sI h 120 s (nI o)) 121 s (nI m)) (by rw [gI_sI, if_neg (by omega), gI_sI, if_pos ⟨rfl, rfl⟩]; rfl) (by rw [gI_sI, if_pos ⟨rfl, rfl⟩]) (fun _ => rfl) (fun q hq => by rw [gI_sI, if_neg (by omega), gI_sI, if_neg (fun z => hq z.2)]) (fun q hq => by rw [gI_sI, if_neg (fun z => hq z.2), gI_sI, if_neg (by omega)]) (fun a a1 a2 => by funext b; rw [gI_sI, if_neg (fun z => a2 z.1), gI_sI, if_neg (fun z => a1 z.1)]) rfl rfl hQ 40 0 _ rfl (fun j hj => absurd hj (Nat.not_lt_zero _)) (fun q hq => by rw [gI_sI, if_neg (by omega), gI_sI, if_neg (by omega)]) (fun _ _ => rfl) rfl rfl
    refine V_iloadn1 dX10_sheet_0 ?_
    refine V_callS1 (μ' := mX10_isSheet) dX10_sheet_1 okX10_isSheet lX10_285 (Nat.le_of_ble_eq_true rfl) (Nat.le_of_ble_eq_true rfl) (by omega) ?_
    refine m_isSheet (by omega) ?_
    rw [hg2.1]
    dsimp only [gPush]
    first | refine U_ifB_eq (tgt := 26) dX10_sheet_4 (by decide) (by with_reducible rfl) (fun c4 => ?_) (fun c4 => ?_) | refine U_if_eq (tgt := 26) dX10_sheet_4 (by decide) (by with_reducible rfl) (by omega) (fun c4 => ?_) (fun c4 => ?_) | refine V_if_eq (tgt := 26) dX10_sheet_4 (by decide) (fun c4 => ?_) (fun c4 => ?_)
    · skip
      cases c4
    · skip
      refine V_iloadn2 dX10_sheet_7 ?_
      refine V_iconst (v := -1) dX10_sheet_8 (by decide) ?_
      refine V_iconst (v := nI 2) dX10_sheet_9 (by decide) ?_
      refine V_callS3 (μ' := mX10_in) dX10_sheet_10 okX10_in lX10_104 (Nat.le_of_ble_eq_true rfl) (Nat.le_of_ble_eq_true rfl) (by omega) ?_
      refine m_in ?_
      rw [hg2.2]
      dsimp only [gPush]
      first | refine U_ifB_eq (tgt := 26) dX10_sheet_13 (by decide) (by with_reducible rfl) (fun c13 => ?_) (fun c13 => ?_) | refine U_if_eq (tgt := 26) dX10_sheet_13 (by decide) (by with_reducible rfl) (by omega) (fun c13 => ?_) (fun c13 => ?_) | refine V_if_eq (tgt := 26) dX10_sheet_13 (by decide) (fun c13 => ?_) (fun c13 => ?_)
      · skip
        cases c13
      · skip
        refine V_iloadn2 dX10_sheet_16 ?_
        refine V_if_lt (tgt := 28) dX10_sheet_17 (by decide) (fun c17 => ?_) (fun c17 => ?_)
        · skip
          exact absurd c17 hs0
        · skip
          refine V_iloadn3 dX10_sheet_20 ?_
          refine V_bipush (v := nI 40) dX10_sheet_21 (by decide) ?_
          first | refine U_icmp_le (tgt := 28) dX10_sheet_23 (by decide) (by with_reducible rfl) (by with_reducible rfl) (by omega) (by omega) (fun c23 => ?_) (fun c23 => ?_) | refine V_icmp_le (tgt := 28) dX10_sheet_23 (by decide) (fun c23 => ?_) (fun c23 => ?_)
          · skip
            refine V_iloadn2 dX10_sheet_28 ?_
            refine V_if_lt (tgt := 39) dX10_sheet_29 (by decide) (fun c29 => ?_) (fun c29 => ?_)
            · skip
              exact absurd c29 hs0
            · skip
              refine V_iloadn3 dX10_sheet_32 ?_
              refine V_if_ge (tgt := 39) dX10_sheet_33 (by decide) (fun c33 => ?_) (fun c33 => ?_)
              · skip
                refine V_aloadn0 dX10_sheet_39 ?_
                refine V_getR dX10_sheet_40 fX10_92 (by first | assumption | rfl) (by first | decide | omega) (by first | assumption | exact ML_43 (MLay_eq hM rfl) | exact ML_4 (by assumption) | exact ML_5 (by assumption) | exact ML_6 (by assumption) | exact ML_7 (by assumption) | exact ML_8 (by assumption) | exact ML_9 (by assumption) | exact ML_10 (by assumption) | exact ML_11 (by assumption) | exact ML_12 (by assumption) | exact ML_13 (by assumption) | exact ML_15 (by assumption) | exact ML_16 (by assumption) | exact ML_17 (by assumption) | exact ML_20 (by assumption) | exact ML_23 (by assumption) | exact ML_24 (by assumption) | exact ML_30 (by assumption) | exact ML_31 (by assumption) | exact ML_32 (by assumption) | exact ML_33 (by assumption) | exact ML_35 (by assumption) | exact ML_36 (by assumption) | exact ML_37 (by assumption) | exact ML_38 (by assumption) | exact ML_41 (by assumption) | exact ML_42 (by assumption) | exact ML_43 (by assumption) | exact ML_44 (by assumption) | exact ML_45 (by assumption) | rfl) ?_
                refine V_iloadn1 dX10_sheet_43 ?_
                refine V_iloadn2 dX10_sheet_44 ?_
                refine U_iast dX10_sheet_45 (by with_reducible rfl) (by first | assumption | rfl) (by first | decide | omega) (by omega) ?_
                refine V_aloadn0 dX10_sheet_46 ?_
                refine V_getR dX10_sheet_47 fX10_95 (by first | assumption | rfl) (by first | decide | omega) (by first | assumption | exact ML_43 (MLay_eq hM rfl) | exact ML_4 (by assumption) | exact ML_5 (by assumption) | exact ML_6 (by assumption) | exact ML_7 (by assumption) | exact ML_8 (by assumption) | exact ML_9 (by assumption) | exact ML_10 (by assumption) | exact ML_11 (by assumption) | exact ML_12 (by assumption) | exact ML_13 (by assumption) | exact ML_15 (by assumption) | exact ML_16 (by assumption) | exact ML_17 (by assumption) | exact ML_20 (by assumption) | exact ML_23 (by assumption) | exact ML_24 (by assumption) | exact ML_30 (by assumption) | exact ML_31 (by assumption) | exact ML_32 (by assumption) | exact ML_33 (by assumption) | exact ML_35 (by assumption) | exact ML_36 (by assumption) | exact ML_37 (by assumption) | exact ML_38 (by assumption) | exact ML_41 (by assumption) | exact ML_42 (by assumption) | exact ML_43 (by assumption) | exact ML_44 (by assumption) | exact ML_45 (by assumption) | rfl) ?_
                refine V_iloadn1 dX10_sheet_50 ?_
                refine V_iloadn2 dX10_sheet_51 ?_
                refine V_if_ge (tgt := 59) dX10_sheet_52 (by decide) (fun c52 => ?_) (fun c52 => ?_)
                · skip
                  refine V_iloadn3 dX10_sheet_59 ?_
                  refine U_iast dX10_sheet_60 (by with_reducible rfl) (by first | assumption | rfl) (by first | decide | omega) (by omega) ?_
                  refine V_iconst (v := nI 0) dX10_sheet_61 (by decide) ?_
                  refine V_istorew4 dX10_sheet_62 (by decide) rfl ?_
                  exact st
                · skip
                  exact absurd (nI_pos' o1) c52
              · skip
                exact absurd (nI_pos' m1) c33
          · skip
            omega
  · have eq0 : f_sheet S x so n = (-1, S) := if_neg hg
    rw [eq0] at hQ
    have hQ9 := hQ h hR FrD.rf
    cases hx : inB x 4 with
    | false =>
      refine V_iloadn1 dX10_sheet_0 ?_
      refine V_callS1 (μ' := mX10_isSheet) dX10_sheet_1 okX10_isSheet lX10_285 (Nat.le_of_ble_eq_true rfl) (Nat.le_of_ble_eq_true rfl) (by omega) ?_
      refine m_isSheet (by omega) ?_
      rw [hx]
      dsimp only [gPush]
      first | refine U_ifB_eq (tgt := 26) dX10_sheet_4 (by decide) (by with_reducible rfl) (fun c4 => ?_) (fun c4 => ?_) | refine U_if_eq (tgt := 26) dX10_sheet_4 (by decide) (by with_reducible rfl) (by omega) (fun c4 => ?_) (fun c4 => ?_) | refine V_if_eq (tgt := 26) dX10_sheet_4 (by decide) (fun c4 => ?_) (fun c4 => ?_)
      · skip
        refine V_iconst (v := -1) dX10_sheet_26 (by decide) ?_
        refine V_iret dX10_sheet_27 rfl rfl ?_
        exact hQ9
      · skip
        cases c4
    | true =>
      have hg4 : (decide (-1 ≤ so) && decide (so ≤ nI 2)) = false := by
        apply Bool.eq_false_iff.mpr
        intro q
        exact hg (by rw [hx, q]; rfl)
      refine V_iloadn1 dX10_sheet_0 ?_
      refine V_callS1 (μ' := mX10_isSheet) dX10_sheet_1 okX10_isSheet lX10_285 (Nat.le_of_ble_eq_true rfl) (Nat.le_of_ble_eq_true rfl) (by omega) ?_
      refine m_isSheet (by omega) ?_
      rw [hx]
      dsimp only [gPush]
      first | refine U_ifB_eq (tgt := 26) dX10_sheet_4 (by decide) (by with_reducible rfl) (fun c4 => ?_) (fun c4 => ?_) | refine U_if_eq (tgt := 26) dX10_sheet_4 (by decide) (by with_reducible rfl) (by omega) (fun c4 => ?_) (fun c4 => ?_) | refine V_if_eq (tgt := 26) dX10_sheet_4 (by decide) (fun c4 => ?_) (fun c4 => ?_)
      · skip
        cases c4
      · skip
        refine V_iloadn2 dX10_sheet_7 ?_
        refine V_iconst (v := -1) dX10_sheet_8 (by decide) ?_
        refine V_iconst (v := nI 2) dX10_sheet_9 (by decide) ?_
        refine V_callS3 (μ' := mX10_in) dX10_sheet_10 okX10_in lX10_104 (Nat.le_of_ble_eq_true rfl) (Nat.le_of_ble_eq_true rfl) (by omega) ?_
        refine m_in ?_
        rw [hg4]
        dsimp only [gPush]
        first | refine U_ifB_eq (tgt := 26) dX10_sheet_13 (by decide) (by with_reducible rfl) (fun c13 => ?_) (fun c13 => ?_) | refine U_if_eq (tgt := 26) dX10_sheet_13 (by decide) (by with_reducible rfl) (by omega) (fun c13 => ?_) (fun c13 => ?_) | refine V_if_eq (tgt := 26) dX10_sheet_13 (by decide) (fun c13 => ?_) (fun c13 => ?_)
        · skip
          refine V_iconst (v := -1) dX10_sheet_26 (by decide) ?_
          refine V_iret dX10_sheet_27 rfl rfl ?_
          exact hQ9
        · skip
          cases c13

set_option maxRecDepth 100000 in
set_option maxHeartbeats 4000000 in
theorem m_put {x i v : Int32} (hd : 2 ≤ d) (hR : RM h S) (hWG : WG S) (hQ : ∀ h', RM h' (f_put S x i v).2 → FrD h h' → Q (some (.int (f_put S x i v).1)) h') : V Γ mX10_put d 124 124 h 0 [some (.ref 94), some (.int x), some (.int i), some (.int v)] [] Q := by
  obtain ⟨hM, ⟨r0, r1, rT, rW⟩, rK, rK2, rB, rS⟩ := id hR
  obtain ⟨hWS, hWK, hWB, hWX⟩ := id hWG
  have hn2 := hWS.1
  have hn5 := hWS.2.1
  cases hg : inB x 4 with
  | false =>
    have eq0 : f_put S x i v = (-1, S) := if_f hg
    rw [eq0] at hQ
    refine V_iloadn1 dX10_put_0 ?_
    refine V_callS1 (μ' := mX10_isSheet) dX10_put_1 okX10_isSheet lX10_285 (Nat.le_of_ble_eq_true rfl) (Nat.le_of_ble_eq_true rfl) (by omega) ?_
    refine m_isSheet (by omega) ?_
    rw [hg]
    dsimp only [gPush]
    first | refine U_ifB_ne (tgt := 9) dX10_put_4 (by decide) (by with_reducible rfl) (fun c4 => ?_) (fun c4 => ?_) | refine U_if_ne (tgt := 9) dX10_put_4 (by decide) (by with_reducible rfl) (by omega) (fun c4 => ?_) (fun c4 => ?_) | refine V_if_ne (tgt := 9) dX10_put_4 (by decide) (fun c4 => ?_) (fun c4 => ?_)
    · skip
      cases c4
    · skip
      refine V_iconst (v := -1) dX10_put_7 (by decide) ?_
      refine V_iret dX10_put_8 rfl rfl ?_
      exact hQ h hR FrD.rf
  | true =>
    obtain ⟨s, hs, rfl⟩ := inB_t (by decide) hg
    obtain ⟨x0, x1, x2⟩ := rS s hs
    obtain ⟨b1, b2, b3⟩ := hWX s hs
    have bl := soI_lt b1
    have eq0 : f_put S (nI s) i v = _ := if_t hg
    rw [eq0, cN_nI (by omega)] at hQ
    by_cases hm : (S.2.2.2 s).1 = 0
    · rw [if_pos hm] at hQ
      refine V_iloadn1 dX10_put_0 ?_
      refine V_callS1 (μ' := mX10_isSheet) dX10_put_1 okX10_isSheet lX10_285 (Nat.le_of_ble_eq_true rfl) (Nat.le_of_ble_eq_true rfl) (by omega) ?_
      refine m_isSheet (by omega) ?_
      rw [hg]
      dsimp only [gPush]
      first | refine U_ifB_ne (tgt := 9) dX10_put_4 (by decide) (by with_reducible rfl) (fun c4 => ?_) (fun c4 => ?_) | refine U_if_ne (tgt := 9) dX10_put_4 (by decide) (by with_reducible rfl) (by omega) (fun c4 => ?_) (fun c4 => ?_) | refine V_if_ne (tgt := 9) dX10_put_4 (by decide) (fun c4 => ?_) (fun c4 => ?_)
      · skip
        refine V_aloadn0 dX10_put_9 ?_
        refine V_getR dX10_put_10 fX10_92 (by first | assumption | rfl) (by first | decide | omega) (by first | assumption | exact ML_4 (by assumption) | exact ML_5 (by assumption) | exact ML_6 (by assumption) | exact ML_7 (by assumption) | exact ML_8 (by assumption) | exact ML_9 (by assumption) | exact ML_10 (by assumption) | exact ML_11 (by assumption) | exact ML_12 (by assumption) | exact ML_13 (by assumption) | exact ML_15 (by assumption) | exact ML_16 (by assumption) | exact ML_17 (by assumption) | exact ML_20 (by assumption) | exact ML_23 (by assumption) | exact ML_24 (by assumption) | exact ML_30 (by assumption) | exact ML_31 (by assumption) | exact ML_32 (by assumption) | exact ML_33 (by assumption) | exact ML_35 (by assumption) | exact ML_36 (by assumption) | exact ML_37 (by assumption) | exact ML_38 (by assumption) | exact ML_41 (by assumption) | exact ML_42 (by assumption) | exact ML_43 (by assumption) | exact ML_44 (by assumption) | exact ML_45 (by assumption) | rfl) ?_
        refine V_iloadn1 dX10_put_13 ?_
        refine U_iald dX10_put_14 (by with_reducible rfl) (by first | assumption | rfl) (by first | decide | omega) (by omega) (by first | assumption | exact ML_4 (by assumption) | exact ML_5 (by assumption) | exact ML_6 (by assumption) | exact ML_7 (by assumption) | exact ML_8 (by assumption) | exact ML_9 (by assumption) | exact ML_10 (by assumption) | exact ML_11 (by assumption) | exact ML_12 (by assumption) | exact ML_13 (by assumption) | exact ML_15 (by assumption) | exact ML_16 (by assumption) | exact ML_17 (by assumption) | exact ML_20 (by assumption) | exact ML_23 (by assumption) | exact ML_24 (by assumption) | exact ML_30 (by assumption) | exact ML_31 (by assumption) | exact ML_32 (by assumption) | exact ML_33 (by assumption) | exact ML_35 (by assumption) | exact ML_36 (by assumption) | exact ML_37 (by assumption) | exact ML_38 (by assumption) | exact ML_41 (by assumption) | exact ML_42 (by assumption) | exact ML_43 (by assumption) | exact ML_44 (by assumption) | exact ML_45 (by assumption) | rfl) ?_
        refine V_if_ge (tgt := 21) dX10_put_15 (by decide) (fun c15 => ?_) (fun c15 => ?_)
        · skip
          exact absurd c15 (Int32.not_le.mpr (bl.1.mpr hm))
        · skip
          refine V_bipush (v := -11) dX10_put_18 (by decide) ?_
          refine V_iret dX10_put_20 rfl rfl ?_
          exact hQ h hR FrD.rf
      · skip
        cases c4
    rw [if_neg hm] at hQ
    have x0' : gI h 120 s = nI ((S.2.2.2 s).1 - 1) := by rw [x0, soI_p hm]
    cases hi : inB i (S.2.2.2 s).2.1 with
    | false =>
      rw [if_f hi] at hQ
      refine V_iloadn1 dX10_put_0 ?_
      refine V_callS1 (μ' := mX10_isSheet) dX10_put_1 okX10_isSheet lX10_285 (Nat.le_of_ble_eq_true rfl) (Nat.le_of_ble_eq_true rfl) (by omega) ?_
      refine m_isSheet (by omega) ?_
      rw [hg]
      dsimp only [gPush]
      first | refine U_ifB_ne (tgt := 9) dX10_put_4 (by decide) (by with_reducible rfl) (fun c4 => ?_) (fun c4 => ?_) | refine U_if_ne (tgt := 9) dX10_put_4 (by decide) (by with_reducible rfl) (by omega) (fun c4 => ?_) (fun c4 => ?_) | refine V_if_ne (tgt := 9) dX10_put_4 (by decide) (fun c4 => ?_) (fun c4 => ?_)
      · skip
        refine V_aloadn0 dX10_put_9 ?_
        refine V_getR dX10_put_10 fX10_92 (by first | assumption | rfl) (by first | decide | omega) (by first | assumption | exact ML_4 (by assumption) | exact ML_5 (by assumption) | exact ML_6 (by assumption) | exact ML_7 (by assumption) | exact ML_8 (by assumption) | exact ML_9 (by assumption) | exact ML_10 (by assumption) | exact ML_11 (by assumption) | exact ML_12 (by assumption) | exact ML_13 (by assumption) | exact ML_15 (by assumption) | exact ML_16 (by assumption) | exact ML_17 (by assumption) | exact ML_20 (by assumption) | exact ML_23 (by assumption) | exact ML_24 (by assumption) | exact ML_30 (by assumption) | exact ML_31 (by assumption) | exact ML_32 (by assumption) | exact ML_33 (by assumption) | exact ML_35 (by assumption) | exact ML_36 (by assumption) | exact ML_37 (by assumption) | exact ML_38 (by assumption) | exact ML_41 (by assumption) | exact ML_42 (by assumption) | exact ML_43 (by assumption) | exact ML_44 (by assumption) | exact ML_45 (by assumption) | rfl) ?_
        refine V_iloadn1 dX10_put_13 ?_
        refine U_iald dX10_put_14 (by with_reducible rfl) (by first | assumption | rfl) (by first | decide | omega) (by omega) (by first | assumption | exact ML_4 (by assumption) | exact ML_5 (by assumption) | exact ML_6 (by assumption) | exact ML_7 (by assumption) | exact ML_8 (by assumption) | exact ML_9 (by assumption) | exact ML_10 (by assumption) | exact ML_11 (by assumption) | exact ML_12 (by assumption) | exact ML_13 (by assumption) | exact ML_15 (by assumption) | exact ML_16 (by assumption) | exact ML_17 (by assumption) | exact ML_20 (by assumption) | exact ML_23 (by assumption) | exact ML_24 (by assumption) | exact ML_30 (by assumption) | exact ML_31 (by assumption) | exact ML_32 (by assumption) | exact ML_33 (by assumption) | exact ML_35 (by assumption) | exact ML_36 (by assumption) | exact ML_37 (by assumption) | exact ML_38 (by assumption) | exact ML_41 (by assumption) | exact ML_42 (by assumption) | exact ML_43 (by assumption) | exact ML_44 (by assumption) | exact ML_45 (by assumption) | rfl) ?_
        refine V_if_ge (tgt := 21) dX10_put_15 (by decide) (fun c15 => ?_) (fun c15 => ?_)
        · skip
          refine V_iloadn2 dX10_put_21 ?_
          refine V_iconst (v := nI 0) dX10_put_22 (by decide) ?_
          refine V_aloadn0 dX10_put_23 ?_
          refine V_getR dX10_put_24 fX10_95 (by first | assumption | rfl) (by first | decide | omega) (by first | assumption | exact ML_4 (by assumption) | exact ML_5 (by assumption) | exact ML_6 (by assumption) | exact ML_7 (by assumption) | exact ML_8 (by assumption) | exact ML_9 (by assumption) | exact ML_10 (by assumption) | exact ML_11 (by assumption) | exact ML_12 (by assumption) | exact ML_13 (by assumption) | exact ML_15 (by assumption) | exact ML_16 (by assumption) | exact ML_17 (by assumption) | exact ML_20 (by assumption) | exact ML_23 (by assumption) | exact ML_24 (by assumption) | exact ML_30 (by assumption) | exact ML_31 (by assumption) | exact ML_32 (by assumption) | exact ML_33 (by assumption) | exact ML_35 (by assumption) | exact ML_36 (by assumption) | exact ML_37 (by assumption) | exact ML_38 (by assumption) | exact ML_41 (by assumption) | exact ML_42 (by assumption) | exact ML_43 (by assumption) | exact ML_44 (by assumption) | exact ML_45 (by assumption) | rfl) ?_
          refine V_iloadn1 dX10_put_27 ?_
          refine U_iald dX10_put_28 (by with_reducible rfl) (by first | assumption | rfl) (by first | decide | omega) (by omega) (by first | assumption | exact ML_4 (by assumption) | exact ML_5 (by assumption) | exact ML_6 (by assumption) | exact ML_7 (by assumption) | exact ML_8 (by assumption) | exact ML_9 (by assumption) | exact ML_10 (by assumption) | exact ML_11 (by assumption) | exact ML_12 (by assumption) | exact ML_13 (by assumption) | exact ML_15 (by assumption) | exact ML_16 (by assumption) | exact ML_17 (by assumption) | exact ML_20 (by assumption) | exact ML_23 (by assumption) | exact ML_24 (by assumption) | exact ML_30 (by assumption) | exact ML_31 (by assumption) | exact ML_32 (by assumption) | exact ML_33 (by assumption) | exact ML_35 (by assumption) | exact ML_36 (by assumption) | exact ML_37 (by assumption) | exact ML_38 (by assumption) | exact ML_41 (by assumption) | exact ML_42 (by assumption) | exact ML_43 (by assumption) | exact ML_44 (by assumption) | exact ML_45 (by assumption) | rfl) ?_
          refine V_iconst (v := nI 1) dX10_put_29 (by decide) ?_
          refine V_isub dX10_put_30 ?_
          refine V_callS3 (μ' := mX10_in) dX10_put_31 okX10_in lX10_104 (Nat.le_of_ble_eq_true rfl) (Nat.le_of_ble_eq_true rfl) (by omega) ?_
          refine m_in ?_
          rw [inD_B i (by omega), hi]
          dsimp only [gPush]
          first | refine U_ifB_ne (tgt := 40) dX10_put_34 (by decide) (by with_reducible rfl) (fun c34 => ?_) (fun c34 => ?_) | refine U_if_ne (tgt := 40) dX10_put_34 (by decide) (by with_reducible rfl) (by omega) (fun c34 => ?_) (fun c34 => ?_) | refine V_if_ne (tgt := 40) dX10_put_34 (by decide) (fun c34 => ?_) (fun c34 => ?_)
          · skip
            cases c34
          · skip
            refine V_bipush (v := -12) dX10_put_37 (by decide) ?_
            refine V_iret dX10_put_39 rfl rfl ?_
            exact hQ h hR FrD.rf
        · skip
          exact absurd (nI_pos' (by omega)) c15
      · skip
        cases c4
    | true =>
      obtain ⟨j, hj, rfl⟩ := inB_t (by omega) hi
      rw [if_t hi, cN_nI (by omega)] at hQ
      have fin : Q (some (.int (nI 1))) (sI h 122 (40 * s + j) (cutS ((S.2.2.2 s).1 - 1) v)) := by
        refine hQ _ (RM_sh hR (by rw [gI_sI, if_neg (by omega)]; exact x0) (by rw [gI_sI, if_neg (by omega)]; exact x1) (fun z k hk => ?_) (fun q hq => by rw [gI_sI, if_neg (by omega)]) (fun q hq => by rw [gI_sI, if_neg (by omega)]) (fun q hq => by rw [gI_sI, if_neg (by omega)]) (fun a ha => by funext b; rw [gI_sI, if_neg (by omega)]) (fun k hk => by rw [gI_sI, if_neg (by omega)]) rfl) ⟨fun a ha => by funext b; rw [gI_sI, if_neg (by omega)], fun _ _ => rfl, rfl⟩
        rw [gI_sI]
        show _ = if k = j then cutS ((S.2.2.2 s).1 - 1) v else (S.2.2.2 s).2.2 k
        by_cases e : k = j
        · rw [if_pos ⟨rfl, by omega⟩, if_pos e]
        · rw [if_neg (by omega), if_neg e]; exact x2 z k hk
      refine V_iloadn1 dX10_put_0 ?_
      refine V_callS1 (μ' := mX10_isSheet) dX10_put_1 okX10_isSheet lX10_285 (Nat.le_of_ble_eq_true rfl) (Nat.le_of_ble_eq_true rfl) (by omega) ?_
      refine m_isSheet (by omega) ?_
      rw [hg]
      dsimp only [gPush]
      first | refine U_ifB_ne (tgt := 9) dX10_put_4 (by decide) (by with_reducible rfl) (fun c4 => ?_) (fun c4 => ?_) | refine U_if_ne (tgt := 9) dX10_put_4 (by decide) (by with_reducible rfl) (by omega) (fun c4 => ?_) (fun c4 => ?_) | refine V_if_ne (tgt := 9) dX10_put_4 (by decide) (fun c4 => ?_) (fun c4 => ?_)
      · skip
        refine V_aloadn0 dX10_put_9 ?_
        refine V_getR dX10_put_10 fX10_92 (by first | assumption | rfl) (by first | decide | omega) (by first | assumption | exact ML_4 (by assumption) | exact ML_5 (by assumption) | exact ML_6 (by assumption) | exact ML_7 (by assumption) | exact ML_8 (by assumption) | exact ML_9 (by assumption) | exact ML_10 (by assumption) | exact ML_11 (by assumption) | exact ML_12 (by assumption) | exact ML_13 (by assumption) | exact ML_15 (by assumption) | exact ML_16 (by assumption) | exact ML_17 (by assumption) | exact ML_20 (by assumption) | exact ML_23 (by assumption) | exact ML_24 (by assumption) | exact ML_30 (by assumption) | exact ML_31 (by assumption) | exact ML_32 (by assumption) | exact ML_33 (by assumption) | exact ML_35 (by assumption) | exact ML_36 (by assumption) | exact ML_37 (by assumption) | exact ML_38 (by assumption) | exact ML_41 (by assumption) | exact ML_42 (by assumption) | exact ML_43 (by assumption) | exact ML_44 (by assumption) | exact ML_45 (by assumption) | rfl) ?_
        refine V_iloadn1 dX10_put_13 ?_
        refine U_iald dX10_put_14 (by with_reducible rfl) (by first | assumption | rfl) (by first | decide | omega) (by omega) (by first | assumption | exact ML_4 (by assumption) | exact ML_5 (by assumption) | exact ML_6 (by assumption) | exact ML_7 (by assumption) | exact ML_8 (by assumption) | exact ML_9 (by assumption) | exact ML_10 (by assumption) | exact ML_11 (by assumption) | exact ML_12 (by assumption) | exact ML_13 (by assumption) | exact ML_15 (by assumption) | exact ML_16 (by assumption) | exact ML_17 (by assumption) | exact ML_20 (by assumption) | exact ML_23 (by assumption) | exact ML_24 (by assumption) | exact ML_30 (by assumption) | exact ML_31 (by assumption) | exact ML_32 (by assumption) | exact ML_33 (by assumption) | exact ML_35 (by assumption) | exact ML_36 (by assumption) | exact ML_37 (by assumption) | exact ML_38 (by assumption) | exact ML_41 (by assumption) | exact ML_42 (by assumption) | exact ML_43 (by assumption) | exact ML_44 (by assumption) | exact ML_45 (by assumption) | rfl) ?_
        refine V_if_ge (tgt := 21) dX10_put_15 (by decide) (fun c15 => ?_) (fun c15 => ?_)
        · skip
          refine V_iloadn2 dX10_put_21 ?_
          refine V_iconst (v := nI 0) dX10_put_22 (by decide) ?_
          refine V_aloadn0 dX10_put_23 ?_
          refine V_getR dX10_put_24 fX10_95 (by first | assumption | rfl) (by first | decide | omega) (by first | assumption | exact ML_4 (by assumption) | exact ML_5 (by assumption) | exact ML_6 (by assumption) | exact ML_7 (by assumption) | exact ML_8 (by assumption) | exact ML_9 (by assumption) | exact ML_10 (by assumption) | exact ML_11 (by assumption) | exact ML_12 (by assumption) | exact ML_13 (by assumption) | exact ML_15 (by assumption) | exact ML_16 (by assumption) | exact ML_17 (by assumption) | exact ML_20 (by assumption) | exact ML_23 (by assumption) | exact ML_24 (by assumption) | exact ML_30 (by assumption) | exact ML_31 (by assumption) | exact ML_32 (by assumption) | exact ML_33 (by assumption) | exact ML_35 (by assumption) | exact ML_36 (by assumption) | exact ML_37 (by assumption) | exact ML_38 (by assumption) | exact ML_41 (by assumption) | exact ML_42 (by assumption) | exact ML_43 (by assumption) | exact ML_44 (by assumption) | exact ML_45 (by assumption) | rfl) ?_
          refine V_iloadn1 dX10_put_27 ?_
          refine U_iald dX10_put_28 (by with_reducible rfl) (by first | assumption | rfl) (by first | decide | omega) (by omega) (by first | assumption | exact ML_4 (by assumption) | exact ML_5 (by assumption) | exact ML_6 (by assumption) | exact ML_7 (by assumption) | exact ML_8 (by assumption) | exact ML_9 (by assumption) | exact ML_10 (by assumption) | exact ML_11 (by assumption) | exact ML_12 (by assumption) | exact ML_13 (by assumption) | exact ML_15 (by assumption) | exact ML_16 (by assumption) | exact ML_17 (by assumption) | exact ML_20 (by assumption) | exact ML_23 (by assumption) | exact ML_24 (by assumption) | exact ML_30 (by assumption) | exact ML_31 (by assumption) | exact ML_32 (by assumption) | exact ML_33 (by assumption) | exact ML_35 (by assumption) | exact ML_36 (by assumption) | exact ML_37 (by assumption) | exact ML_38 (by assumption) | exact ML_41 (by assumption) | exact ML_42 (by assumption) | exact ML_43 (by assumption) | exact ML_44 (by assumption) | exact ML_45 (by assumption) | rfl) ?_
          refine V_iconst (v := nI 1) dX10_put_29 (by decide) ?_
          refine V_isub dX10_put_30 ?_
          refine V_callS3 (μ' := mX10_in) dX10_put_31 okX10_in lX10_104 (Nat.le_of_ble_eq_true rfl) (Nat.le_of_ble_eq_true rfl) (by omega) ?_
          refine m_in ?_
          rw [inD_B _ (by omega), hi]
          dsimp only [gPush]
          first | refine U_ifB_ne (tgt := 40) dX10_put_34 (by decide) (by with_reducible rfl) (fun c34 => ?_) (fun c34 => ?_) | refine U_if_ne (tgt := 40) dX10_put_34 (by decide) (by with_reducible rfl) (by omega) (fun c34 => ?_) (fun c34 => ?_) | refine V_if_ne (tgt := 40) dX10_put_34 (by decide) (fun c34 => ?_) (fun c34 => ?_)
          · skip
            refine V_aloadn0 dX10_put_40 ?_
            refine V_getR dX10_put_41 fX10_98 (by first | assumption | rfl) (by first | decide | omega) (by first | assumption | exact ML_4 (by assumption) | exact ML_5 (by assumption) | exact ML_6 (by assumption) | exact ML_7 (by assumption) | exact ML_8 (by assumption) | exact ML_9 (by assumption) | exact ML_10 (by assumption) | exact ML_11 (by assumption) | exact ML_12 (by assumption) | exact ML_13 (by assumption) | exact ML_15 (by assumption) | exact ML_16 (by assumption) | exact ML_17 (by assumption) | exact ML_20 (by assumption) | exact ML_23 (by assumption) | exact ML_24 (by assumption) | exact ML_30 (by assumption) | exact ML_31 (by assumption) | exact ML_32 (by assumption) | exact ML_33 (by assumption) | exact ML_35 (by assumption) | exact ML_36 (by assumption) | exact ML_37 (by assumption) | exact ML_38 (by assumption) | exact ML_41 (by assumption) | exact ML_42 (by assumption) | exact ML_43 (by assumption) | exact ML_44 (by assumption) | exact ML_45 (by assumption) | rfl) ?_
            refine V_bipush (v := nI 40) dX10_put_44 (by decide) ?_
            refine V_iloadn1 dX10_put_46 ?_
            first | refine U_imul dX10_put_47 (by with_reducible rfl) (by with_reducible rfl) ?_ | refine V_imul dX10_put_47 ?_
            refine V_iloadn2 dX10_put_48 ?_
            first | refine U_iadd dX10_put_49 (by with_reducible rfl) (by with_reducible rfl) ?_ | refine V_iadd dX10_put_49 ?_
            refine V_aloadn0 dX10_put_50 ?_
            refine V_getR dX10_put_51 fX10_92 (by first | assumption | rfl) (by first | decide | omega) (by first | assumption | exact ML_4 (by assumption) | exact ML_5 (by assumption) | exact ML_6 (by assumption) | exact ML_7 (by assumption) | exact ML_8 (by assumption) | exact ML_9 (by assumption) | exact ML_10 (by assumption) | exact ML_11 (by assumption) | exact ML_12 (by assumption) | exact ML_13 (by assumption) | exact ML_15 (by assumption) | exact ML_16 (by assumption) | exact ML_17 (by assumption) | exact ML_20 (by assumption) | exact ML_23 (by assumption) | exact ML_24 (by assumption) | exact ML_30 (by assumption) | exact ML_31 (by assumption) | exact ML_32 (by assumption) | exact ML_33 (by assumption) | exact ML_35 (by assumption) | exact ML_36 (by assumption) | exact ML_37 (by assumption) | exact ML_38 (by assumption) | exact ML_41 (by assumption) | exact ML_42 (by assumption) | exact ML_43 (by assumption) | exact ML_44 (by assumption) | exact ML_45 (by assumption) | rfl) ?_
            refine V_iloadn1 dX10_put_54 ?_
            refine U_iald dX10_put_55 (by with_reducible rfl) (by first | assumption | rfl) (by first | decide | omega) (by omega) (by first | assumption | exact ML_4 (by assumption) | exact ML_5 (by assumption) | exact ML_6 (by assumption) | exact ML_7 (by assumption) | exact ML_8 (by assumption) | exact ML_9 (by assumption) | exact ML_10 (by assumption) | exact ML_11 (by assumption) | exact ML_12 (by assumption) | exact ML_13 (by assumption) | exact ML_15 (by assumption) | exact ML_16 (by assumption) | exact ML_17 (by assumption) | exact ML_20 (by assumption) | exact ML_23 (by assumption) | exact ML_24 (by assumption) | exact ML_30 (by assumption) | exact ML_31 (by assumption) | exact ML_32 (by assumption) | exact ML_33 (by assumption) | exact ML_35 (by assumption) | exact ML_36 (by assumption) | exact ML_37 (by assumption) | exact ML_38 (by assumption) | exact ML_41 (by assumption) | exact ML_42 (by assumption) | exact ML_43 (by assumption) | exact ML_44 (by assumption) | exact ML_45 (by assumption) | rfl) ?_
            refine V_iloadn3 dX10_put_56 ?_
            refine V_callS2 (μ' := mX10_cut) dX10_put_57 okX10_cut lX10_288 (Nat.le_of_ble_eq_true rfl) (Nat.le_of_ble_eq_true rfl) (by omega) ?_
            refine m_cut (by omega) ?_
            dsimp only [gPush]
            refine U_iast dX10_put_60 (by with_reducible rfl) (by first | assumption | rfl) (by first | decide | omega) (by omega) ?_
            refine V_iconst (v := nI 1) dX10_put_61 (by decide) ?_
            refine V_iret dX10_put_62 rfl rfl ?_
            exact fin
          · skip
            cases c34
        · skip
          exact absurd (nI_pos' (by omega)) c15
      · skip
        cases c4

set_option maxRecDepth 100000 in
set_option maxHeartbeats 4000000 in
theorem m_item {x so i : Int32} (hd : 2 ≤ d) (hR : RM h S) (hWG : WG S) (hQ : ∀ h', RM h' S → FrD h h' → Q (some (.int (g_item S x so i))) h') : V Γ mX10_item d 124 124 h 0 [some (.ref 94), some (.int x), some (.int so), some (.int i)] [] Q := by
  obtain ⟨hM, ⟨r0, r1, rT, rW⟩, rK, rK2, rB, rS⟩ := id hR
  obtain ⟨hWS, hWK, hWB, hWX⟩ := id hWG
  have hn2 := hWS.1
  have hn5 := hWS.2.1
  by_cases hg : (inB x 4 && inR so 0 2) = true
  · have hg2 := hg
    rw [Bool.and_eq_true] at hg2
    obtain ⟨s, hs, rfl⟩ := inB_t (by decide) hg2.1
    obtain ⟨o, o0, o2, rfl⟩ := inR_t (by decide) (by decide) hg2.2
    obtain ⟨x0, x1, x2⟩ := rS s hs
    obtain ⟨b1, b2, b3⟩ := hWX s hs
    have bl := soI_lt b1
    have eq0 : g_item S (nI s) (nI o) i = _ := if_t hg
    rw [eq0, cN_nI (by omega)] at hQ
    have hQ9 := hQ h hR FrD.rf
    by_cases hm : (S.2.2.2 s).1 = 0
    · rw [if_pos hm] at hQ9
      refine V_iloadn1 dX10_item_0 ?_
      refine V_callS1 (μ' := mX10_isSheet) dX10_item_1 okX10_isSheet lX10_285 (Nat.le_of_ble_eq_true rfl) (Nat.le_of_ble_eq_true rfl) (by omega) ?_
      refine m_isSheet (by omega) ?_
      rw [hg2.1]
      dsimp only [gPush]
      first | refine U_ifB_eq (tgt := 16) dX10_item_4 (by decide) (by with_reducible rfl) (fun c4 => ?_) (fun c4 => ?_) | refine U_if_eq (tgt := 16) dX10_item_4 (by decide) (by with_reducible rfl) (by omega) (fun c4 => ?_) (fun c4 => ?_) | refine V_if_eq (tgt := 16) dX10_item_4 (by decide) (fun c4 => ?_) (fun c4 => ?_)
      · skip
        cases c4
      · skip
        refine V_iloadn2 dX10_item_7 ?_
        refine V_iconst (v := nI 0) dX10_item_8 (by decide) ?_
        refine V_iconst (v := nI 2) dX10_item_9 (by decide) ?_
        refine V_callS3 (μ' := mX10_in) dX10_item_10 okX10_in lX10_104 (Nat.le_of_ble_eq_true rfl) (Nat.le_of_ble_eq_true rfl) (by omega) ?_
        refine m_inR ?_
        rw [hg2.2]
        dsimp only [gPush]
        first | refine U_ifB_ne (tgt := 18) dX10_item_13 (by decide) (by with_reducible rfl) (fun c13 => ?_) (fun c13 => ?_) | refine U_if_ne (tgt := 18) dX10_item_13 (by decide) (by with_reducible rfl) (by omega) (fun c13 => ?_) (fun c13 => ?_) | refine V_if_ne (tgt := 18) dX10_item_13 (by decide) (fun c13 => ?_) (fun c13 => ?_)
        · skip
          refine V_aloadn0 dX10_item_18 ?_
          refine V_getR dX10_item_19 fX10_92 (by first | assumption | rfl) (by first | decide | omega) (by first | assumption | exact ML_4 (by assumption) | exact ML_5 (by assumption) | exact ML_6 (by assumption) | exact ML_7 (by assumption) | exact ML_8 (by assumption) | exact ML_9 (by assumption) | exact ML_10 (by assumption) | exact ML_11 (by assumption) | exact ML_12 (by assumption) | exact ML_13 (by assumption) | exact ML_15 (by assumption) | exact ML_16 (by assumption) | exact ML_17 (by assumption) | exact ML_20 (by assumption) | exact ML_23 (by assumption) | exact ML_24 (by assumption) | exact ML_30 (by assumption) | exact ML_31 (by assumption) | exact ML_32 (by assumption) | exact ML_33 (by assumption) | exact ML_35 (by assumption) | exact ML_36 (by assumption) | exact ML_37 (by assumption) | exact ML_38 (by assumption) | exact ML_41 (by assumption) | exact ML_42 (by assumption) | exact ML_43 (by assumption) | exact ML_44 (by assumption) | exact ML_45 (by assumption) | rfl) ?_
          refine V_iloadn1 dX10_item_22 ?_
          refine U_iald dX10_item_23 (by with_reducible rfl) (by first | assumption | rfl) (by first | decide | omega) (by omega) (by first | assumption | exact ML_4 (by assumption) | exact ML_5 (by assumption) | exact ML_6 (by assumption) | exact ML_7 (by assumption) | exact ML_8 (by assumption) | exact ML_9 (by assumption) | exact ML_10 (by assumption) | exact ML_11 (by assumption) | exact ML_12 (by assumption) | exact ML_13 (by assumption) | exact ML_15 (by assumption) | exact ML_16 (by assumption) | exact ML_17 (by assumption) | exact ML_20 (by assumption) | exact ML_23 (by assumption) | exact ML_24 (by assumption) | exact ML_30 (by assumption) | exact ML_31 (by assumption) | exact ML_32 (by assumption) | exact ML_33 (by assumption) | exact ML_35 (by assumption) | exact ML_36 (by assumption) | exact ML_37 (by assumption) | exact ML_38 (by assumption) | exact ML_41 (by assumption) | exact ML_42 (by assumption) | exact ML_43 (by assumption) | exact ML_44 (by assumption) | exact ML_45 (by assumption) | rfl) ?_
          refine V_iloadn2 dX10_item_24 ?_
          first | refine U_icmp_eq (tgt := 45) dX10_item_25 (by decide) (by with_reducible rfl) (by with_reducible rfl) (by omega) (by omega) (fun c25 => ?_) (fun c25 => ?_) | refine V_icmp_eq (tgt := 45) dX10_item_25 (by decide) (fun c25 => ?_) (fun c25 => ?_)
          · skip
            exact absurd (bl.1.mpr hm) (by rw [c25]; exact nI_pos (by omega))
          · skip
            refine V_aloadn0 dX10_item_28 ?_
            refine V_getR dX10_item_29 fX10_92 (by first | assumption | rfl) (by first | decide | omega) (by first | assumption | exact ML_4 (by assumption) | exact ML_5 (by assumption) | exact ML_6 (by assumption) | exact ML_7 (by assumption) | exact ML_8 (by assumption) | exact ML_9 (by assumption) | exact ML_10 (by assumption) | exact ML_11 (by assumption) | exact ML_12 (by assumption) | exact ML_13 (by assumption) | exact ML_15 (by assumption) | exact ML_16 (by assumption) | exact ML_17 (by assumption) | exact ML_20 (by assumption) | exact ML_23 (by assumption) | exact ML_24 (by assumption) | exact ML_30 (by assumption) | exact ML_31 (by assumption) | exact ML_32 (by assumption) | exact ML_33 (by assumption) | exact ML_35 (by assumption) | exact ML_36 (by assumption) | exact ML_37 (by assumption) | exact ML_38 (by assumption) | exact ML_41 (by assumption) | exact ML_42 (by assumption) | exact ML_43 (by assumption) | exact ML_44 (by assumption) | exact ML_45 (by assumption) | rfl) ?_
            refine V_iloadn1 dX10_item_32 ?_
            refine U_iald dX10_item_33 (by with_reducible rfl) (by first | assumption | rfl) (by first | decide | omega) (by omega) (by first | assumption | exact ML_4 (by assumption) | exact ML_5 (by assumption) | exact ML_6 (by assumption) | exact ML_7 (by assumption) | exact ML_8 (by assumption) | exact ML_9 (by assumption) | exact ML_10 (by assumption) | exact ML_11 (by assumption) | exact ML_12 (by assumption) | exact ML_13 (by assumption) | exact ML_15 (by assumption) | exact ML_16 (by assumption) | exact ML_17 (by assumption) | exact ML_20 (by assumption) | exact ML_23 (by assumption) | exact ML_24 (by assumption) | exact ML_30 (by assumption) | exact ML_31 (by assumption) | exact ML_32 (by assumption) | exact ML_33 (by assumption) | exact ML_35 (by assumption) | exact ML_36 (by assumption) | exact ML_37 (by assumption) | exact ML_38 (by assumption) | exact ML_41 (by assumption) | exact ML_42 (by assumption) | exact ML_43 (by assumption) | exact ML_44 (by assumption) | exact ML_45 (by assumption) | rfl) ?_
            refine V_if_ge (tgt := 42) dX10_item_34 (by decide) (fun c34 => ?_) (fun c34 => ?_)
            · skip
              exact absurd c34 (Int32.not_le.mpr (bl.1.mpr hm))
            · skip
              refine V_bipush (v := -11) dX10_item_37 (by decide) ?_
              refine V_goto (tgt := 44) dX10_item_39 (by decide) ?_
              refine V_iret dX10_item_44 rfl rfl ?_
              exact hQ9
        · skip
          cases c13
    rw [if_neg hm] at hQ9
    have x0' : gI h 120 s = nI ((S.2.2.2 s).1 - 1) := by rw [x0, soI_p hm]
    by_cases ho : nI o = nI ((S.2.2.2 s).1 - 1)
    · rw [if_neg (fun q => q ho)] at hQ9
      have ho2 := (nI_eq (by omega) (by omega)).mp ho
      cases hi : inB i (S.2.2.2 s).2.1 with
      | false =>
        rw [if_f hi] at hQ9
        refine V_iloadn1 dX10_item_0 ?_
        refine V_callS1 (μ' := mX10_isSheet) dX10_item_1 okX10_isSheet lX10_285 (Nat.le_of_ble_eq_true rfl) (Nat.le_of_ble_eq_true rfl) (by omega) ?_
        refine m_isSheet (by omega) ?_
        rw [hg2.1]
        dsimp only [gPush]
        first | refine U_ifB_eq (tgt := 16) dX10_item_4 (by decide) (by with_reducible rfl) (fun c4 => ?_) (fun c4 => ?_) | refine U_if_eq (tgt := 16) dX10_item_4 (by decide) (by with_reducible rfl) (by omega) (fun c4 => ?_) (fun c4 => ?_) | refine V_if_eq (tgt := 16) dX10_item_4 (by decide) (fun c4 => ?_) (fun c4 => ?_)
        · skip
          cases c4
        · skip
          refine V_iloadn2 dX10_item_7 ?_
          refine V_iconst (v := nI 0) dX10_item_8 (by decide) ?_
          refine V_iconst (v := nI 2) dX10_item_9 (by decide) ?_
          refine V_callS3 (μ' := mX10_in) dX10_item_10 okX10_in lX10_104 (Nat.le_of_ble_eq_true rfl) (Nat.le_of_ble_eq_true rfl) (by omega) ?_
          refine m_inR ?_
          rw [hg2.2]
          dsimp only [gPush]
          first | refine U_ifB_ne (tgt := 18) dX10_item_13 (by decide) (by with_reducible rfl) (fun c13 => ?_) (fun c13 => ?_) | refine U_if_ne (tgt := 18) dX10_item_13 (by decide) (by with_reducible rfl) (by omega) (fun c13 => ?_) (fun c13 => ?_) | refine V_if_ne (tgt := 18) dX10_item_13 (by decide) (fun c13 => ?_) (fun c13 => ?_)
          · skip
            refine V_aloadn0 dX10_item_18 ?_
            refine V_getR dX10_item_19 fX10_92 (by first | assumption | rfl) (by first | decide | omega) (by first | assumption | exact ML_4 (by assumption) | exact ML_5 (by assumption) | exact ML_6 (by assumption) | exact ML_7 (by assumption) | exact ML_8 (by assumption) | exact ML_9 (by assumption) | exact ML_10 (by assumption) | exact ML_11 (by assumption) | exact ML_12 (by assumption) | exact ML_13 (by assumption) | exact ML_15 (by assumption) | exact ML_16 (by assumption) | exact ML_17 (by assumption) | exact ML_20 (by assumption) | exact ML_23 (by assumption) | exact ML_24 (by assumption) | exact ML_30 (by assumption) | exact ML_31 (by assumption) | exact ML_32 (by assumption) | exact ML_33 (by assumption) | exact ML_35 (by assumption) | exact ML_36 (by assumption) | exact ML_37 (by assumption) | exact ML_38 (by assumption) | exact ML_41 (by assumption) | exact ML_42 (by assumption) | exact ML_43 (by assumption) | exact ML_44 (by assumption) | exact ML_45 (by assumption) | rfl) ?_
            refine V_iloadn1 dX10_item_22 ?_
            refine U_iald dX10_item_23 (by with_reducible rfl) (by first | assumption | rfl) (by first | decide | omega) (by omega) (by first | assumption | exact ML_4 (by assumption) | exact ML_5 (by assumption) | exact ML_6 (by assumption) | exact ML_7 (by assumption) | exact ML_8 (by assumption) | exact ML_9 (by assumption) | exact ML_10 (by assumption) | exact ML_11 (by assumption) | exact ML_12 (by assumption) | exact ML_13 (by assumption) | exact ML_15 (by assumption) | exact ML_16 (by assumption) | exact ML_17 (by assumption) | exact ML_20 (by assumption) | exact ML_23 (by assumption) | exact ML_24 (by assumption) | exact ML_30 (by assumption) | exact ML_31 (by assumption) | exact ML_32 (by assumption) | exact ML_33 (by assumption) | exact ML_35 (by assumption) | exact ML_36 (by assumption) | exact ML_37 (by assumption) | exact ML_38 (by assumption) | exact ML_41 (by assumption) | exact ML_42 (by assumption) | exact ML_43 (by assumption) | exact ML_44 (by assumption) | exact ML_45 (by assumption) | rfl) ?_
            refine V_iloadn2 dX10_item_24 ?_
            first | refine U_icmp_eq (tgt := 45) dX10_item_25 (by decide) (by with_reducible rfl) (by with_reducible rfl) (by omega) (by omega) (fun c25 => ?_) (fun c25 => ?_) | refine V_icmp_eq (tgt := 45) dX10_item_25 (by decide) (fun c25 => ?_) (fun c25 => ?_)
            · skip
              refine V_iloadn3 dX10_item_45 ?_
              refine V_iconst (v := nI 0) dX10_item_46 (by decide) ?_
              refine V_aloadn0 dX10_item_47 ?_
              refine V_getR dX10_item_48 fX10_95 (by first | assumption | rfl) (by first | decide | omega) (by first | assumption | exact ML_4 (by assumption) | exact ML_5 (by assumption) | exact ML_6 (by assumption) | exact ML_7 (by assumption) | exact ML_8 (by assumption) | exact ML_9 (by assumption) | exact ML_10 (by assumption) | exact ML_11 (by assumption) | exact ML_12 (by assumption) | exact ML_13 (by assumption) | exact ML_15 (by assumption) | exact ML_16 (by assumption) | exact ML_17 (by assumption) | exact ML_20 (by assumption) | exact ML_23 (by assumption) | exact ML_24 (by assumption) | exact ML_30 (by assumption) | exact ML_31 (by assumption) | exact ML_32 (by assumption) | exact ML_33 (by assumption) | exact ML_35 (by assumption) | exact ML_36 (by assumption) | exact ML_37 (by assumption) | exact ML_38 (by assumption) | exact ML_41 (by assumption) | exact ML_42 (by assumption) | exact ML_43 (by assumption) | exact ML_44 (by assumption) | exact ML_45 (by assumption) | rfl) ?_
              refine V_iloadn1 dX10_item_51 ?_
              refine U_iald dX10_item_52 (by with_reducible rfl) (by first | assumption | rfl) (by first | decide | omega) (by omega) (by first | assumption | exact ML_4 (by assumption) | exact ML_5 (by assumption) | exact ML_6 (by assumption) | exact ML_7 (by assumption) | exact ML_8 (by assumption) | exact ML_9 (by assumption) | exact ML_10 (by assumption) | exact ML_11 (by assumption) | exact ML_12 (by assumption) | exact ML_13 (by assumption) | exact ML_15 (by assumption) | exact ML_16 (by assumption) | exact ML_17 (by assumption) | exact ML_20 (by assumption) | exact ML_23 (by assumption) | exact ML_24 (by assumption) | exact ML_30 (by assumption) | exact ML_31 (by assumption) | exact ML_32 (by assumption) | exact ML_33 (by assumption) | exact ML_35 (by assumption) | exact ML_36 (by assumption) | exact ML_37 (by assumption) | exact ML_38 (by assumption) | exact ML_41 (by assumption) | exact ML_42 (by assumption) | exact ML_43 (by assumption) | exact ML_44 (by assumption) | exact ML_45 (by assumption) | rfl) ?_
              refine V_iconst (v := nI 1) dX10_item_53 (by decide) ?_
              refine V_isub dX10_item_54 ?_
              refine V_callS3 (μ' := mX10_in) dX10_item_55 okX10_in lX10_104 (Nat.le_of_ble_eq_true rfl) (Nat.le_of_ble_eq_true rfl) (by omega) ?_
              refine m_in ?_
              rw [inD_B i (by omega), hi]
              dsimp only [gPush]
              first | refine U_ifB_eq (tgt := 75) dX10_item_58 (by decide) (by with_reducible rfl) (fun c58 => ?_) (fun c58 => ?_) | refine U_if_eq (tgt := 75) dX10_item_58 (by decide) (by with_reducible rfl) (by omega) (fun c58 => ?_) (fun c58 => ?_) | refine V_if_eq (tgt := 75) dX10_item_58 (by decide) (fun c58 => ?_) (fun c58 => ?_)
              · skip
                refine V_bipush (v := -12) dX10_item_75 (by decide) ?_
                refine V_iret dX10_item_77 rfl rfl ?_
                exact hQ9
              · skip
                cases c58
            · skip
              omega
          · skip
            cases c13
      | true =>
        obtain ⟨j, hj, rfl⟩ := inB_t (by omega) hi
        rw [if_t hi, cN_nI (by omega)] at hQ9
        have z := x2 hm j (by omega)
        refine V_iloadn1 dX10_item_0 ?_
        refine V_callS1 (μ' := mX10_isSheet) dX10_item_1 okX10_isSheet lX10_285 (Nat.le_of_ble_eq_true rfl) (Nat.le_of_ble_eq_true rfl) (by omega) ?_
        refine m_isSheet (by omega) ?_
        rw [hg2.1]
        dsimp only [gPush]
        first | refine U_ifB_eq (tgt := 16) dX10_item_4 (by decide) (by with_reducible rfl) (fun c4 => ?_) (fun c4 => ?_) | refine U_if_eq (tgt := 16) dX10_item_4 (by decide) (by with_reducible rfl) (by omega) (fun c4 => ?_) (fun c4 => ?_) | refine V_if_eq (tgt := 16) dX10_item_4 (by decide) (fun c4 => ?_) (fun c4 => ?_)
        · skip
          cases c4
        · skip
          refine V_iloadn2 dX10_item_7 ?_
          refine V_iconst (v := nI 0) dX10_item_8 (by decide) ?_
          refine V_iconst (v := nI 2) dX10_item_9 (by decide) ?_
          refine V_callS3 (μ' := mX10_in) dX10_item_10 okX10_in lX10_104 (Nat.le_of_ble_eq_true rfl) (Nat.le_of_ble_eq_true rfl) (by omega) ?_
          refine m_inR ?_
          rw [hg2.2]
          dsimp only [gPush]
          first | refine U_ifB_ne (tgt := 18) dX10_item_13 (by decide) (by with_reducible rfl) (fun c13 => ?_) (fun c13 => ?_) | refine U_if_ne (tgt := 18) dX10_item_13 (by decide) (by with_reducible rfl) (by omega) (fun c13 => ?_) (fun c13 => ?_) | refine V_if_ne (tgt := 18) dX10_item_13 (by decide) (fun c13 => ?_) (fun c13 => ?_)
          · skip
            refine V_aloadn0 dX10_item_18 ?_
            refine V_getR dX10_item_19 fX10_92 (by first | assumption | rfl) (by first | decide | omega) (by first | assumption | exact ML_4 (by assumption) | exact ML_5 (by assumption) | exact ML_6 (by assumption) | exact ML_7 (by assumption) | exact ML_8 (by assumption) | exact ML_9 (by assumption) | exact ML_10 (by assumption) | exact ML_11 (by assumption) | exact ML_12 (by assumption) | exact ML_13 (by assumption) | exact ML_15 (by assumption) | exact ML_16 (by assumption) | exact ML_17 (by assumption) | exact ML_20 (by assumption) | exact ML_23 (by assumption) | exact ML_24 (by assumption) | exact ML_30 (by assumption) | exact ML_31 (by assumption) | exact ML_32 (by assumption) | exact ML_33 (by assumption) | exact ML_35 (by assumption) | exact ML_36 (by assumption) | exact ML_37 (by assumption) | exact ML_38 (by assumption) | exact ML_41 (by assumption) | exact ML_42 (by assumption) | exact ML_43 (by assumption) | exact ML_44 (by assumption) | exact ML_45 (by assumption) | rfl) ?_
            refine V_iloadn1 dX10_item_22 ?_
            refine U_iald dX10_item_23 (by with_reducible rfl) (by first | assumption | rfl) (by first | decide | omega) (by omega) (by first | assumption | exact ML_4 (by assumption) | exact ML_5 (by assumption) | exact ML_6 (by assumption) | exact ML_7 (by assumption) | exact ML_8 (by assumption) | exact ML_9 (by assumption) | exact ML_10 (by assumption) | exact ML_11 (by assumption) | exact ML_12 (by assumption) | exact ML_13 (by assumption) | exact ML_15 (by assumption) | exact ML_16 (by assumption) | exact ML_17 (by assumption) | exact ML_20 (by assumption) | exact ML_23 (by assumption) | exact ML_24 (by assumption) | exact ML_30 (by assumption) | exact ML_31 (by assumption) | exact ML_32 (by assumption) | exact ML_33 (by assumption) | exact ML_35 (by assumption) | exact ML_36 (by assumption) | exact ML_37 (by assumption) | exact ML_38 (by assumption) | exact ML_41 (by assumption) | exact ML_42 (by assumption) | exact ML_43 (by assumption) | exact ML_44 (by assumption) | exact ML_45 (by assumption) | rfl) ?_
            refine V_iloadn2 dX10_item_24 ?_
            first | refine U_icmp_eq (tgt := 45) dX10_item_25 (by decide) (by with_reducible rfl) (by with_reducible rfl) (by omega) (by omega) (fun c25 => ?_) (fun c25 => ?_) | refine V_icmp_eq (tgt := 45) dX10_item_25 (by decide) (fun c25 => ?_) (fun c25 => ?_)
            · skip
              refine V_iloadn3 dX10_item_45 ?_
              refine V_iconst (v := nI 0) dX10_item_46 (by decide) ?_
              refine V_aloadn0 dX10_item_47 ?_
              refine V_getR dX10_item_48 fX10_95 (by first | assumption | rfl) (by first | decide | omega) (by first | assumption | exact ML_4 (by assumption) | exact ML_5 (by assumption) | exact ML_6 (by assumption) | exact ML_7 (by assumption) | exact ML_8 (by assumption) | exact ML_9 (by assumption) | exact ML_10 (by assumption) | exact ML_11 (by assumption) | exact ML_12 (by assumption) | exact ML_13 (by assumption) | exact ML_15 (by assumption) | exact ML_16 (by assumption) | exact ML_17 (by assumption) | exact ML_20 (by assumption) | exact ML_23 (by assumption) | exact ML_24 (by assumption) | exact ML_30 (by assumption) | exact ML_31 (by assumption) | exact ML_32 (by assumption) | exact ML_33 (by assumption) | exact ML_35 (by assumption) | exact ML_36 (by assumption) | exact ML_37 (by assumption) | exact ML_38 (by assumption) | exact ML_41 (by assumption) | exact ML_42 (by assumption) | exact ML_43 (by assumption) | exact ML_44 (by assumption) | exact ML_45 (by assumption) | rfl) ?_
              refine V_iloadn1 dX10_item_51 ?_
              refine U_iald dX10_item_52 (by with_reducible rfl) (by first | assumption | rfl) (by first | decide | omega) (by omega) (by first | assumption | exact ML_4 (by assumption) | exact ML_5 (by assumption) | exact ML_6 (by assumption) | exact ML_7 (by assumption) | exact ML_8 (by assumption) | exact ML_9 (by assumption) | exact ML_10 (by assumption) | exact ML_11 (by assumption) | exact ML_12 (by assumption) | exact ML_13 (by assumption) | exact ML_15 (by assumption) | exact ML_16 (by assumption) | exact ML_17 (by assumption) | exact ML_20 (by assumption) | exact ML_23 (by assumption) | exact ML_24 (by assumption) | exact ML_30 (by assumption) | exact ML_31 (by assumption) | exact ML_32 (by assumption) | exact ML_33 (by assumption) | exact ML_35 (by assumption) | exact ML_36 (by assumption) | exact ML_37 (by assumption) | exact ML_38 (by assumption) | exact ML_41 (by assumption) | exact ML_42 (by assumption) | exact ML_43 (by assumption) | exact ML_44 (by assumption) | exact ML_45 (by assumption) | rfl) ?_
              refine V_iconst (v := nI 1) dX10_item_53 (by decide) ?_
              refine V_isub dX10_item_54 ?_
              refine V_callS3 (μ' := mX10_in) dX10_item_55 okX10_in lX10_104 (Nat.le_of_ble_eq_true rfl) (Nat.le_of_ble_eq_true rfl) (by omega) ?_
              refine m_in ?_
              rw [inD_B _ (by omega), hi]
              dsimp only [gPush]
              first | refine U_ifB_eq (tgt := 75) dX10_item_58 (by decide) (by with_reducible rfl) (fun c58 => ?_) (fun c58 => ?_) | refine U_if_eq (tgt := 75) dX10_item_58 (by decide) (by with_reducible rfl) (by omega) (fun c58 => ?_) (fun c58 => ?_) | refine V_if_eq (tgt := 75) dX10_item_58 (by decide) (fun c58 => ?_) (fun c58 => ?_)
              · skip
                cases c58
              · skip
                refine V_aloadn0 dX10_item_61 ?_
                refine V_getR dX10_item_62 fX10_98 (by first | assumption | rfl) (by first | decide | omega) (by first | assumption | exact ML_4 (by assumption) | exact ML_5 (by assumption) | exact ML_6 (by assumption) | exact ML_7 (by assumption) | exact ML_8 (by assumption) | exact ML_9 (by assumption) | exact ML_10 (by assumption) | exact ML_11 (by assumption) | exact ML_12 (by assumption) | exact ML_13 (by assumption) | exact ML_15 (by assumption) | exact ML_16 (by assumption) | exact ML_17 (by assumption) | exact ML_20 (by assumption) | exact ML_23 (by assumption) | exact ML_24 (by assumption) | exact ML_30 (by assumption) | exact ML_31 (by assumption) | exact ML_32 (by assumption) | exact ML_33 (by assumption) | exact ML_35 (by assumption) | exact ML_36 (by assumption) | exact ML_37 (by assumption) | exact ML_38 (by assumption) | exact ML_41 (by assumption) | exact ML_42 (by assumption) | exact ML_43 (by assumption) | exact ML_44 (by assumption) | exact ML_45 (by assumption) | rfl) ?_
                refine V_bipush (v := nI 40) dX10_item_65 (by decide) ?_
                refine V_iloadn1 dX10_item_67 ?_
                first | refine U_imul dX10_item_68 (by with_reducible rfl) (by with_reducible rfl) ?_ | refine V_imul dX10_item_68 ?_
                refine V_iloadn3 dX10_item_69 ?_
                first | refine U_iadd dX10_item_70 (by with_reducible rfl) (by with_reducible rfl) ?_ | refine V_iadd dX10_item_70 ?_
                refine U_iald dX10_item_71 (by with_reducible rfl) (by first | assumption | rfl) (by first | decide | omega) (by omega) (by first | assumption | exact ML_4 (by assumption) | exact ML_5 (by assumption) | exact ML_6 (by assumption) | exact ML_7 (by assumption) | exact ML_8 (by assumption) | exact ML_9 (by assumption) | exact ML_10 (by assumption) | exact ML_11 (by assumption) | exact ML_12 (by assumption) | exact ML_13 (by assumption) | exact ML_15 (by assumption) | exact ML_16 (by assumption) | exact ML_17 (by assumption) | exact ML_20 (by assumption) | exact ML_23 (by assumption) | exact ML_24 (by assumption) | exact ML_30 (by assumption) | exact ML_31 (by assumption) | exact ML_32 (by assumption) | exact ML_33 (by assumption) | exact ML_35 (by assumption) | exact ML_36 (by assumption) | exact ML_37 (by assumption) | exact ML_38 (by assumption) | exact ML_41 (by assumption) | exact ML_42 (by assumption) | exact ML_43 (by assumption) | exact ML_44 (by assumption) | exact ML_45 (by assumption) | rfl) ?_
                refine V_goto (tgt := 77) dX10_item_72 (by decide) ?_
                refine V_iret dX10_item_77 rfl rfl ?_
                exact hQ9
            · skip
              omega
          · skip
            cases c13
    · rw [if_pos ho] at hQ9
      have ho2 : ¬ o = (S.2.2.2 s).1 - 1 := fun q => ho (by rw [q])
      refine V_iloadn1 dX10_item_0 ?_
      refine V_callS1 (μ' := mX10_isSheet) dX10_item_1 okX10_isSheet lX10_285 (Nat.le_of_ble_eq_true rfl) (Nat.le_of_ble_eq_true rfl) (by omega) ?_
      refine m_isSheet (by omega) ?_
      rw [hg2.1]
      dsimp only [gPush]
      first | refine U_ifB_eq (tgt := 16) dX10_item_4 (by decide) (by with_reducible rfl) (fun c4 => ?_) (fun c4 => ?_) | refine U_if_eq (tgt := 16) dX10_item_4 (by decide) (by with_reducible rfl) (by omega) (fun c4 => ?_) (fun c4 => ?_) | refine V_if_eq (tgt := 16) dX10_item_4 (by decide) (fun c4 => ?_) (fun c4 => ?_)
      · skip
        cases c4
      · skip
        refine V_iloadn2 dX10_item_7 ?_
        refine V_iconst (v := nI 0) dX10_item_8 (by decide) ?_
        refine V_iconst (v := nI 2) dX10_item_9 (by decide) ?_
        refine V_callS3 (μ' := mX10_in) dX10_item_10 okX10_in lX10_104 (Nat.le_of_ble_eq_true rfl) (Nat.le_of_ble_eq_true rfl) (by omega) ?_
        refine m_inR ?_
        rw [hg2.2]
        dsimp only [gPush]
        first | refine U_ifB_ne (tgt := 18) dX10_item_13 (by decide) (by with_reducible rfl) (fun c13 => ?_) (fun c13 => ?_) | refine U_if_ne (tgt := 18) dX10_item_13 (by decide) (by with_reducible rfl) (by omega) (fun c13 => ?_) (fun c13 => ?_) | refine V_if_ne (tgt := 18) dX10_item_13 (by decide) (fun c13 => ?_) (fun c13 => ?_)
        · skip
          refine V_aloadn0 dX10_item_18 ?_
          refine V_getR dX10_item_19 fX10_92 (by first | assumption | rfl) (by first | decide | omega) (by first | assumption | exact ML_4 (by assumption) | exact ML_5 (by assumption) | exact ML_6 (by assumption) | exact ML_7 (by assumption) | exact ML_8 (by assumption) | exact ML_9 (by assumption) | exact ML_10 (by assumption) | exact ML_11 (by assumption) | exact ML_12 (by assumption) | exact ML_13 (by assumption) | exact ML_15 (by assumption) | exact ML_16 (by assumption) | exact ML_17 (by assumption) | exact ML_20 (by assumption) | exact ML_23 (by assumption) | exact ML_24 (by assumption) | exact ML_30 (by assumption) | exact ML_31 (by assumption) | exact ML_32 (by assumption) | exact ML_33 (by assumption) | exact ML_35 (by assumption) | exact ML_36 (by assumption) | exact ML_37 (by assumption) | exact ML_38 (by assumption) | exact ML_41 (by assumption) | exact ML_42 (by assumption) | exact ML_43 (by assumption) | exact ML_44 (by assumption) | exact ML_45 (by assumption) | rfl) ?_
          refine V_iloadn1 dX10_item_22 ?_
          refine U_iald dX10_item_23 (by with_reducible rfl) (by first | assumption | rfl) (by first | decide | omega) (by omega) (by first | assumption | exact ML_4 (by assumption) | exact ML_5 (by assumption) | exact ML_6 (by assumption) | exact ML_7 (by assumption) | exact ML_8 (by assumption) | exact ML_9 (by assumption) | exact ML_10 (by assumption) | exact ML_11 (by assumption) | exact ML_12 (by assumption) | exact ML_13 (by assumption) | exact ML_15 (by assumption) | exact ML_16 (by assumption) | exact ML_17 (by assumption) | exact ML_20 (by assumption) | exact ML_23 (by assumption) | exact ML_24 (by assumption) | exact ML_30 (by assumption) | exact ML_31 (by assumption) | exact ML_32 (by assumption) | exact ML_33 (by assumption) | exact ML_35 (by assumption) | exact ML_36 (by assumption) | exact ML_37 (by assumption) | exact ML_38 (by assumption) | exact ML_41 (by assumption) | exact ML_42 (by assumption) | exact ML_43 (by assumption) | exact ML_44 (by assumption) | exact ML_45 (by assumption) | rfl) ?_
          refine V_iloadn2 dX10_item_24 ?_
          first | refine U_icmp_eq (tgt := 45) dX10_item_25 (by decide) (by with_reducible rfl) (by with_reducible rfl) (by omega) (by omega) (fun c25 => ?_) (fun c25 => ?_) | refine V_icmp_eq (tgt := 45) dX10_item_25 (by decide) (fun c25 => ?_) (fun c25 => ?_)
          · skip
            omega
          · skip
            refine V_aloadn0 dX10_item_28 ?_
            refine V_getR dX10_item_29 fX10_92 (by first | assumption | rfl) (by first | decide | omega) (by first | assumption | exact ML_4 (by assumption) | exact ML_5 (by assumption) | exact ML_6 (by assumption) | exact ML_7 (by assumption) | exact ML_8 (by assumption) | exact ML_9 (by assumption) | exact ML_10 (by assumption) | exact ML_11 (by assumption) | exact ML_12 (by assumption) | exact ML_13 (by assumption) | exact ML_15 (by assumption) | exact ML_16 (by assumption) | exact ML_17 (by assumption) | exact ML_20 (by assumption) | exact ML_23 (by assumption) | exact ML_24 (by assumption) | exact ML_30 (by assumption) | exact ML_31 (by assumption) | exact ML_32 (by assumption) | exact ML_33 (by assumption) | exact ML_35 (by assumption) | exact ML_36 (by assumption) | exact ML_37 (by assumption) | exact ML_38 (by assumption) | exact ML_41 (by assumption) | exact ML_42 (by assumption) | exact ML_43 (by assumption) | exact ML_44 (by assumption) | exact ML_45 (by assumption) | rfl) ?_
            refine V_iloadn1 dX10_item_32 ?_
            refine U_iald dX10_item_33 (by with_reducible rfl) (by first | assumption | rfl) (by first | decide | omega) (by omega) (by first | assumption | exact ML_4 (by assumption) | exact ML_5 (by assumption) | exact ML_6 (by assumption) | exact ML_7 (by assumption) | exact ML_8 (by assumption) | exact ML_9 (by assumption) | exact ML_10 (by assumption) | exact ML_11 (by assumption) | exact ML_12 (by assumption) | exact ML_13 (by assumption) | exact ML_15 (by assumption) | exact ML_16 (by assumption) | exact ML_17 (by assumption) | exact ML_20 (by assumption) | exact ML_23 (by assumption) | exact ML_24 (by assumption) | exact ML_30 (by assumption) | exact ML_31 (by assumption) | exact ML_32 (by assumption) | exact ML_33 (by assumption) | exact ML_35 (by assumption) | exact ML_36 (by assumption) | exact ML_37 (by assumption) | exact ML_38 (by assumption) | exact ML_41 (by assumption) | exact ML_42 (by assumption) | exact ML_43 (by assumption) | exact ML_44 (by assumption) | exact ML_45 (by assumption) | rfl) ?_
            refine V_if_ge (tgt := 42) dX10_item_34 (by decide) (fun c34 => ?_) (fun c34 => ?_)
            · skip
              refine V_bipush (v := -13) dX10_item_42 (by decide) ?_
              refine V_iret dX10_item_44 rfl rfl ?_
              exact hQ9
            · skip
              exact absurd (nI_pos' (by omega)) c34
        · skip
          cases c13
  · have hQ9 := hQ h hR FrD.rf
    have eq0 : g_item S x so i = -1 := if_neg hg
    rw [eq0] at hQ9
    refine V_iloadn1 dX10_item_0 ?_
    refine V_callS1 (μ' := mX10_isSheet) dX10_item_1 okX10_isSheet lX10_285 (Nat.le_of_ble_eq_true rfl) (Nat.le_of_ble_eq_true rfl) (by omega) ?_
    refine m_isSheet (by omega) ?_
    dsimp only [gPush]
    first | refine U_ifB_eq (tgt := 16) dX10_item_4 (by decide) (by with_reducible rfl) (fun c4 => ?_) (fun c4 => ?_) | refine U_if_eq (tgt := 16) dX10_item_4 (by decide) (by with_reducible rfl) (by omega) (fun c4 => ?_) (fun c4 => ?_) | refine V_if_eq (tgt := 16) dX10_item_4 (by decide) (fun c4 => ?_) (fun c4 => ?_)
    · skip
      refine V_iconst (v := -1) dX10_item_16 (by decide) ?_
      refine V_iret dX10_item_17 rfl rfl ?_
      exact hQ9
    · skip
      refine V_iloadn2 dX10_item_7 ?_
      refine V_iconst (v := nI 0) dX10_item_8 (by decide) ?_
      refine V_iconst (v := nI 2) dX10_item_9 (by decide) ?_
      refine V_callS3 (μ' := mX10_in) dX10_item_10 okX10_in lX10_104 (Nat.le_of_ble_eq_true rfl) (Nat.le_of_ble_eq_true rfl) (by omega) ?_
      refine m_inR ?_
      dsimp only [gPush]
      first | refine U_ifB_ne (tgt := 18) dX10_item_13 (by decide) (by with_reducible rfl) (fun c13 => ?_) (fun c13 => ?_) | refine U_if_ne (tgt := 18) dX10_item_13 (by decide) (by with_reducible rfl) (by omega) (fun c13 => ?_) (fun c13 => ?_) | refine V_if_ne (tgt := 18) dX10_item_13 (by decide) (fun c13 => ?_) (fun c13 => ?_)
      · skip
        exact absurd (by rw [c4, c13]; rfl) hg
      · skip
        refine V_iconst (v := -1) dX10_item_16 (by decide) ?_
        refine V_iret dX10_item_17 rfl rfl ?_
        exact hQ9

set_option maxRecDepth 100000 in
set_option maxHeartbeats 4000000 in
theorem m_copy {x i y j n : Int32} (hd : 2 ≤ d) (hR : RM h S) (hWG : WG S) (hQ : ∀ h', RM h' (f_copy S x i y j n).2 → FrD h h' → Q (some (.int (f_copy S x i y j n).1)) h') : V Γ mX10_copy d 124 124 h 0 [some (.ref 94), some (.int x), some (.int i), some (.int y), some (.int j), some (.int n), none] [] Q := by
  obtain ⟨hM, ⟨r0, r1, rT, rW⟩, rK, rK2, rB, rS⟩ := id hR
  obtain ⟨hWS, hWK, hWB, hWX⟩ := id hWG
  have hn2 := hWS.1
  have hn5 := hWS.2.1
  by_cases hg : (inB x 4 && inB y 4) = true
  · have hg2 := hg
    rw [Bool.and_eq_true] at hg2
    obtain ⟨s, hs, rfl⟩ := inB_t (by decide) hg2.1
    obtain ⟨q, hq, rfl⟩ := inB_t (by decide) hg2.2
    obtain ⟨x0, x1, x2⟩ := rS s hs
    obtain ⟨b1, b2, b3⟩ := hWX s hs
    have bl := soI_lt b1
    obtain ⟨z0, z1, z2⟩ := rS q hq
    obtain ⟨a1, a2, a3⟩ := hWX q hq
    have al := soI_lt a1
    have eq0 : f_copy S (nI s) i (nI q) j n = _ := if_t hg
    rw [eq0, cN_nI (by omega), cN_nI (by omega)] at hQ
    by_cases hm : (S.2.2.2 s).1 = 0 ∨ (S.2.2.2 q).1 = 0
    · rw [if_pos hm] at hQ
      have hQ9 := hQ h hR FrD.rf
      refine V_iloadn1 dX10_copy_0 ?_
      refine V_callS1 (μ' := mX10_isSheet) dX10_copy_1 okX10_isSheet lX10_285 (Nat.le_of_ble_eq_true rfl) (Nat.le_of_ble_eq_true rfl) (by omega) ?_
      refine m_isSheet (by omega) ?_
      rw [hg2.1]
      dsimp only [gPush]
      first | refine U_ifB_eq (tgt := 14) dX10_copy_4 (by decide) (by with_reducible rfl) (fun c4 => ?_) (fun c4 => ?_) | refine U_if_eq (tgt := 14) dX10_copy_4 (by decide) (by with_reducible rfl) (by omega) (fun c4 => ?_) (fun c4 => ?_) | refine V_if_eq (tgt := 14) dX10_copy_4 (by decide) (fun c4 => ?_) (fun c4 => ?_)
      · skip
        cases c4
      · skip
        refine V_iloadn3 dX10_copy_7 ?_
        refine V_callS1 (μ' := mX10_isSheet) dX10_copy_8 okX10_isSheet lX10_285 (Nat.le_of_ble_eq_true rfl) (Nat.le_of_ble_eq_true rfl) (by omega) ?_
        refine m_isSheet (by omega) ?_
        rw [hg2.2]
        dsimp only [gPush]
        first | refine U_ifB_ne (tgt := 16) dX10_copy_11 (by decide) (by with_reducible rfl) (fun c11 => ?_) (fun c11 => ?_) | refine U_if_ne (tgt := 16) dX10_copy_11 (by decide) (by with_reducible rfl) (by omega) (fun c11 => ?_) (fun c11 => ?_) | refine V_if_ne (tgt := 16) dX10_copy_11 (by decide) (fun c11 => ?_) (fun c11 => ?_)
        · skip
          refine V_aloadn0 dX10_copy_16 ?_
          refine V_getR dX10_copy_17 fX10_92 (by first | assumption | rfl) (by first | decide | omega) (by first | assumption | exact ML_4 (by assumption) | exact ML_5 (by assumption) | exact ML_6 (by assumption) | exact ML_7 (by assumption) | exact ML_8 (by assumption) | exact ML_9 (by assumption) | exact ML_10 (by assumption) | exact ML_11 (by assumption) | exact ML_12 (by assumption) | exact ML_13 (by assumption) | exact ML_15 (by assumption) | exact ML_16 (by assumption) | exact ML_17 (by assumption) | exact ML_20 (by assumption) | exact ML_23 (by assumption) | exact ML_24 (by assumption) | exact ML_30 (by assumption) | exact ML_31 (by assumption) | exact ML_32 (by assumption) | exact ML_33 (by assumption) | exact ML_35 (by assumption) | exact ML_36 (by assumption) | exact ML_37 (by assumption) | exact ML_38 (by assumption) | exact ML_41 (by assumption) | exact ML_42 (by assumption) | exact ML_43 (by assumption) | exact ML_44 (by assumption) | exact ML_45 (by assumption) | rfl) ?_
          refine V_iloadn1 dX10_copy_20 ?_
          refine U_iald dX10_copy_21 (by with_reducible rfl) (by first | assumption | rfl) (by first | decide | omega) (by omega) (by first | assumption | exact ML_4 (by assumption) | exact ML_5 (by assumption) | exact ML_6 (by assumption) | exact ML_7 (by assumption) | exact ML_8 (by assumption) | exact ML_9 (by assumption) | exact ML_10 (by assumption) | exact ML_11 (by assumption) | exact ML_12 (by assumption) | exact ML_13 (by assumption) | exact ML_15 (by assumption) | exact ML_16 (by assumption) | exact ML_17 (by assumption) | exact ML_20 (by assumption) | exact ML_23 (by assumption) | exact ML_24 (by assumption) | exact ML_30 (by assumption) | exact ML_31 (by assumption) | exact ML_32 (by assumption) | exact ML_33 (by assumption) | exact ML_35 (by assumption) | exact ML_36 (by assumption) | exact ML_37 (by assumption) | exact ML_38 (by assumption) | exact ML_41 (by assumption) | exact ML_42 (by assumption) | exact ML_43 (by assumption) | exact ML_44 (by assumption) | exact ML_45 (by assumption) | rfl) ?_
          refine V_if_lt (tgt := 34) dX10_copy_22 (by decide) (fun c22 => ?_) (fun c22 => ?_)
          · skip
            refine V_bipush (v := -11) dX10_copy_34 (by decide) ?_
            refine V_iret dX10_copy_36 rfl rfl ?_
            exact hQ9
          · skip
            refine V_aloadn0 dX10_copy_25 ?_
            refine V_getR dX10_copy_26 fX10_92 (by first | assumption | rfl) (by first | decide | omega) (by first | assumption | exact ML_4 (by assumption) | exact ML_5 (by assumption) | exact ML_6 (by assumption) | exact ML_7 (by assumption) | exact ML_8 (by assumption) | exact ML_9 (by assumption) | exact ML_10 (by assumption) | exact ML_11 (by assumption) | exact ML_12 (by assumption) | exact ML_13 (by assumption) | exact ML_15 (by assumption) | exact ML_16 (by assumption) | exact ML_17 (by assumption) | exact ML_20 (by assumption) | exact ML_23 (by assumption) | exact ML_24 (by assumption) | exact ML_30 (by assumption) | exact ML_31 (by assumption) | exact ML_32 (by assumption) | exact ML_33 (by assumption) | exact ML_35 (by assumption) | exact ML_36 (by assumption) | exact ML_37 (by assumption) | exact ML_38 (by assumption) | exact ML_41 (by assumption) | exact ML_42 (by assumption) | exact ML_43 (by assumption) | exact ML_44 (by assumption) | exact ML_45 (by assumption) | rfl) ?_
            refine V_iloadn3 dX10_copy_29 ?_
            refine U_iald dX10_copy_30 (by with_reducible rfl) (by first | assumption | rfl) (by first | decide | omega) (by omega) (by first | assumption | exact ML_4 (by assumption) | exact ML_5 (by assumption) | exact ML_6 (by assumption) | exact ML_7 (by assumption) | exact ML_8 (by assumption) | exact ML_9 (by assumption) | exact ML_10 (by assumption) | exact ML_11 (by assumption) | exact ML_12 (by assumption) | exact ML_13 (by assumption) | exact ML_15 (by assumption) | exact ML_16 (by assumption) | exact ML_17 (by assumption) | exact ML_20 (by assumption) | exact ML_23 (by assumption) | exact ML_24 (by assumption) | exact ML_30 (by assumption) | exact ML_31 (by assumption) | exact ML_32 (by assumption) | exact ML_33 (by assumption) | exact ML_35 (by assumption) | exact ML_36 (by assumption) | exact ML_37 (by assumption) | exact ML_38 (by assumption) | exact ML_41 (by assumption) | exact ML_42 (by assumption) | exact ML_43 (by assumption) | exact ML_44 (by assumption) | exact ML_45 (by assumption) | rfl) ?_
            refine V_if_ge (tgt := 37) dX10_copy_31 (by decide) (fun c31 => ?_) (fun c31 => ?_)
            · skip
              exact absurd hm (fun z => z.elim (fun e => c22 (bl.1.mpr e)) (fun e => al.2.mp c31 e))
            · skip
              refine V_bipush (v := -11) dX10_copy_34 (by decide) ?_
              refine V_iret dX10_copy_36 rfl rfl ?_
              exact hQ9
        · skip
          cases c11
    rw [if_neg hm] at hQ
    have m1 : ¬ (S.2.2.2 s).1 = 0 := fun z => hm (Or.inl z)
    have m2 : ¬ (S.2.2.2 q).1 = 0 := fun z => hm (Or.inr z)
    have x0' : gI h 120 s = nI ((S.2.2.2 s).1 - 1) := by rw [x0, soI_p m1]
    have z0' : gI h 120 q = nI ((S.2.2.2 q).1 - 1) := by rw [z0, soI_p m2]
    by_cases ho : (S.2.2.2 s).1 ≠ (S.2.2.2 q).1
    · rw [if_pos ho] at hQ
      have hQ9 := hQ h hR FrD.rf
      refine V_iloadn1 dX10_copy_0 ?_
      refine V_callS1 (μ' := mX10_isSheet) dX10_copy_1 okX10_isSheet lX10_285 (Nat.le_of_ble_eq_true rfl) (Nat.le_of_ble_eq_true rfl) (by omega) ?_
      refine m_isSheet (by omega) ?_
      rw [hg2.1]
      dsimp only [gPush]
      first | refine U_ifB_eq (tgt := 14) dX10_copy_4 (by decide) (by with_reducible rfl) (fun c4 => ?_) (fun c4 => ?_) | refine U_if_eq (tgt := 14) dX10_copy_4 (by decide) (by with_reducible rfl) (by omega) (fun c4 => ?_) (fun c4 => ?_) | refine V_if_eq (tgt := 14) dX10_copy_4 (by decide) (fun c4 => ?_) (fun c4 => ?_)
      · skip
        cases c4
      · skip
        refine V_iloadn3 dX10_copy_7 ?_
        refine V_callS1 (μ' := mX10_isSheet) dX10_copy_8 okX10_isSheet lX10_285 (Nat.le_of_ble_eq_true rfl) (Nat.le_of_ble_eq_true rfl) (by omega) ?_
        refine m_isSheet (by omega) ?_
        rw [hg2.2]
        dsimp only [gPush]
        first | refine U_ifB_ne (tgt := 16) dX10_copy_11 (by decide) (by with_reducible rfl) (fun c11 => ?_) (fun c11 => ?_) | refine U_if_ne (tgt := 16) dX10_copy_11 (by decide) (by with_reducible rfl) (by omega) (fun c11 => ?_) (fun c11 => ?_) | refine V_if_ne (tgt := 16) dX10_copy_11 (by decide) (fun c11 => ?_) (fun c11 => ?_)
        · skip
          refine V_aloadn0 dX10_copy_16 ?_
          refine V_getR dX10_copy_17 fX10_92 (by first | assumption | rfl) (by first | decide | omega) (by first | assumption | exact ML_4 (by assumption) | exact ML_5 (by assumption) | exact ML_6 (by assumption) | exact ML_7 (by assumption) | exact ML_8 (by assumption) | exact ML_9 (by assumption) | exact ML_10 (by assumption) | exact ML_11 (by assumption) | exact ML_12 (by assumption) | exact ML_13 (by assumption) | exact ML_15 (by assumption) | exact ML_16 (by assumption) | exact ML_17 (by assumption) | exact ML_20 (by assumption) | exact ML_23 (by assumption) | exact ML_24 (by assumption) | exact ML_30 (by assumption) | exact ML_31 (by assumption) | exact ML_32 (by assumption) | exact ML_33 (by assumption) | exact ML_35 (by assumption) | exact ML_36 (by assumption) | exact ML_37 (by assumption) | exact ML_38 (by assumption) | exact ML_41 (by assumption) | exact ML_42 (by assumption) | exact ML_43 (by assumption) | exact ML_44 (by assumption) | exact ML_45 (by assumption) | rfl) ?_
          refine V_iloadn1 dX10_copy_20 ?_
          refine U_iald dX10_copy_21 (by with_reducible rfl) (by first | assumption | rfl) (by first | decide | omega) (by omega) (by first | assumption | exact ML_4 (by assumption) | exact ML_5 (by assumption) | exact ML_6 (by assumption) | exact ML_7 (by assumption) | exact ML_8 (by assumption) | exact ML_9 (by assumption) | exact ML_10 (by assumption) | exact ML_11 (by assumption) | exact ML_12 (by assumption) | exact ML_13 (by assumption) | exact ML_15 (by assumption) | exact ML_16 (by assumption) | exact ML_17 (by assumption) | exact ML_20 (by assumption) | exact ML_23 (by assumption) | exact ML_24 (by assumption) | exact ML_30 (by assumption) | exact ML_31 (by assumption) | exact ML_32 (by assumption) | exact ML_33 (by assumption) | exact ML_35 (by assumption) | exact ML_36 (by assumption) | exact ML_37 (by assumption) | exact ML_38 (by assumption) | exact ML_41 (by assumption) | exact ML_42 (by assumption) | exact ML_43 (by assumption) | exact ML_44 (by assumption) | exact ML_45 (by assumption) | rfl) ?_
          refine V_if_lt (tgt := 34) dX10_copy_22 (by decide) (fun c22 => ?_) (fun c22 => ?_)
          · skip
            exact absurd c22 (nI_pos (by omega))
          · skip
            refine V_aloadn0 dX10_copy_25 ?_
            refine V_getR dX10_copy_26 fX10_92 (by first | assumption | rfl) (by first | decide | omega) (by first | assumption | exact ML_4 (by assumption) | exact ML_5 (by assumption) | exact ML_6 (by assumption) | exact ML_7 (by assumption) | exact ML_8 (by assumption) | exact ML_9 (by assumption) | exact ML_10 (by assumption) | exact ML_11 (by assumption) | exact ML_12 (by assumption) | exact ML_13 (by assumption) | exact ML_15 (by assumption) | exact ML_16 (by assumption) | exact ML_17 (by assumption) | exact ML_20 (by assumption) | exact ML_23 (by assumption) | exact ML_24 (by assumption) | exact ML_30 (by assumption) | exact ML_31 (by assumption) | exact ML_32 (by assumption) | exact ML_33 (by assumption) | exact ML_35 (by assumption) | exact ML_36 (by assumption) | exact ML_37 (by assumption) | exact ML_38 (by assumption) | exact ML_41 (by assumption) | exact ML_42 (by assumption) | exact ML_43 (by assumption) | exact ML_44 (by assumption) | exact ML_45 (by assumption) | rfl) ?_
            refine V_iloadn3 dX10_copy_29 ?_
            refine U_iald dX10_copy_30 (by with_reducible rfl) (by first | assumption | rfl) (by first | decide | omega) (by omega) (by first | assumption | exact ML_4 (by assumption) | exact ML_5 (by assumption) | exact ML_6 (by assumption) | exact ML_7 (by assumption) | exact ML_8 (by assumption) | exact ML_9 (by assumption) | exact ML_10 (by assumption) | exact ML_11 (by assumption) | exact ML_12 (by assumption) | exact ML_13 (by assumption) | exact ML_15 (by assumption) | exact ML_16 (by assumption) | exact ML_17 (by assumption) | exact ML_20 (by assumption) | exact ML_23 (by assumption) | exact ML_24 (by assumption) | exact ML_30 (by assumption) | exact ML_31 (by assumption) | exact ML_32 (by assumption) | exact ML_33 (by assumption) | exact ML_35 (by assumption) | exact ML_36 (by assumption) | exact ML_37 (by assumption) | exact ML_38 (by assumption) | exact ML_41 (by assumption) | exact ML_42 (by assumption) | exact ML_43 (by assumption) | exact ML_44 (by assumption) | exact ML_45 (by assumption) | rfl) ?_
            refine V_if_ge (tgt := 37) dX10_copy_31 (by decide) (fun c31 => ?_) (fun c31 => ?_)
            · skip
              refine V_aloadn0 dX10_copy_37 ?_
              refine V_getR dX10_copy_38 fX10_92 (by first | assumption | rfl) (by first | decide | omega) (by first | assumption | exact ML_4 (by assumption) | exact ML_5 (by assumption) | exact ML_6 (by assumption) | exact ML_7 (by assumption) | exact ML_8 (by assumption) | exact ML_9 (by assumption) | exact ML_10 (by assumption) | exact ML_11 (by assumption) | exact ML_12 (by assumption) | exact ML_13 (by assumption) | exact ML_15 (by assumption) | exact ML_16 (by assumption) | exact ML_17 (by assumption) | exact ML_20 (by assumption) | exact ML_23 (by assumption) | exact ML_24 (by assumption) | exact ML_30 (by assumption) | exact ML_31 (by assumption) | exact ML_32 (by assumption) | exact ML_33 (by assumption) | exact ML_35 (by assumption) | exact ML_36 (by assumption) | exact ML_37 (by assumption) | exact ML_38 (by assumption) | exact ML_41 (by assumption) | exact ML_42 (by assumption) | exact ML_43 (by assumption) | exact ML_44 (by assumption) | exact ML_45 (by assumption) | rfl) ?_
              refine V_iloadn1 dX10_copy_41 ?_
              refine U_iald dX10_copy_42 (by with_reducible rfl) (by first | assumption | rfl) (by first | decide | omega) (by omega) (by first | assumption | exact ML_4 (by assumption) | exact ML_5 (by assumption) | exact ML_6 (by assumption) | exact ML_7 (by assumption) | exact ML_8 (by assumption) | exact ML_9 (by assumption) | exact ML_10 (by assumption) | exact ML_11 (by assumption) | exact ML_12 (by assumption) | exact ML_13 (by assumption) | exact ML_15 (by assumption) | exact ML_16 (by assumption) | exact ML_17 (by assumption) | exact ML_20 (by assumption) | exact ML_23 (by assumption) | exact ML_24 (by assumption) | exact ML_30 (by assumption) | exact ML_31 (by assumption) | exact ML_32 (by assumption) | exact ML_33 (by assumption) | exact ML_35 (by assumption) | exact ML_36 (by assumption) | exact ML_37 (by assumption) | exact ML_38 (by assumption) | exact ML_41 (by assumption) | exact ML_42 (by assumption) | exact ML_43 (by assumption) | exact ML_44 (by assumption) | exact ML_45 (by assumption) | rfl) ?_
              refine V_aloadn0 dX10_copy_43 ?_
              refine V_getR dX10_copy_44 fX10_92 (by first | assumption | rfl) (by first | decide | omega) (by first | assumption | exact ML_4 (by assumption) | exact ML_5 (by assumption) | exact ML_6 (by assumption) | exact ML_7 (by assumption) | exact ML_8 (by assumption) | exact ML_9 (by assumption) | exact ML_10 (by assumption) | exact ML_11 (by assumption) | exact ML_12 (by assumption) | exact ML_13 (by assumption) | exact ML_15 (by assumption) | exact ML_16 (by assumption) | exact ML_17 (by assumption) | exact ML_20 (by assumption) | exact ML_23 (by assumption) | exact ML_24 (by assumption) | exact ML_30 (by assumption) | exact ML_31 (by assumption) | exact ML_32 (by assumption) | exact ML_33 (by assumption) | exact ML_35 (by assumption) | exact ML_36 (by assumption) | exact ML_37 (by assumption) | exact ML_38 (by assumption) | exact ML_41 (by assumption) | exact ML_42 (by assumption) | exact ML_43 (by assumption) | exact ML_44 (by assumption) | exact ML_45 (by assumption) | rfl) ?_
              refine V_iloadn3 dX10_copy_47 ?_
              refine U_iald dX10_copy_48 (by with_reducible rfl) (by first | assumption | rfl) (by first | decide | omega) (by omega) (by first | assumption | exact ML_4 (by assumption) | exact ML_5 (by assumption) | exact ML_6 (by assumption) | exact ML_7 (by assumption) | exact ML_8 (by assumption) | exact ML_9 (by assumption) | exact ML_10 (by assumption) | exact ML_11 (by assumption) | exact ML_12 (by assumption) | exact ML_13 (by assumption) | exact ML_15 (by assumption) | exact ML_16 (by assumption) | exact ML_17 (by assumption) | exact ML_20 (by assumption) | exact ML_23 (by assumption) | exact ML_24 (by assumption) | exact ML_30 (by assumption) | exact ML_31 (by assumption) | exact ML_32 (by assumption) | exact ML_33 (by assumption) | exact ML_35 (by assumption) | exact ML_36 (by assumption) | exact ML_37 (by assumption) | exact ML_38 (by assumption) | exact ML_41 (by assumption) | exact ML_42 (by assumption) | exact ML_43 (by assumption) | exact ML_44 (by assumption) | exact ML_45 (by assumption) | rfl) ?_
              first | refine U_icmp_eq (tgt := 55) dX10_copy_49 (by decide) (by with_reducible rfl) (by with_reducible rfl) (by omega) (by omega) (fun c49 => ?_) (fun c49 => ?_) | refine V_icmp_eq (tgt := 55) dX10_copy_49 (by decide) (fun c49 => ?_) (fun c49 => ?_)
              · skip
                omega
              · skip
                refine V_bipush (v := -13) dX10_copy_52 (by decide) ?_
                refine V_iret dX10_copy_54 rfl rfl ?_
                exact hQ9
            · skip
              exact absurd (nI_pos' (by omega)) c31
        · skip
          cases c11
    rw [if_neg ho] at hQ
    by_cases hp : (hpB i n (S.2.2.2 s).2.1 && hpB j n (S.2.2.2 q).2.1) = true
    · rw [if_t hp] at hQ
      have hp2 := hp
      rw [Bool.and_eq_true] at hp2
      obtain ⟨i', n', i1, n1, rfl, rfl, in1⟩ := hp_t (by omega) hp2.1
      obtain ⟨j', n'', j1, n2, rfl, en, jn1⟩ := hp_t (by omega) hp2.2
      have en' := (nI_eq n1 n2).mp en
      subst en'
      rw [cN_nI i1, cN_nI j1, cN_nI n1] at hQ
      have loop2 : ∀ f k h1, k + f = n' → (∀ p, p < n' → gI h1 123 p = (S.2.2.2 s).2.2 (i' + p)) → (∀ p, p < 40 → gI h1 122 (40 * q + p) = if j' ≤ p ∧ p < j' + k then (S.2.2.2 s).2.2 (i' + (p - j')) else (S.2.2.2 q).2.2 p) → (∀ p, p < 40 * q ∨ 40 * q + 40 ≤ p → gI h1 122 p = gI h 122 p) → (∀ a, a ≠ 122 → a ≠ 123 → gI h1 a = gI h a) → gL h1 = gL h → gR h1 = gR h → V Γ mX10_copy d 124 124 h1 121 [some (.ref 94), some (.int (nI s)), some (.int (nI i')), some (.int (nI q)), some (.int (nI j')), some (.int (nI n')), some (.int (nI k))] [] Q := by
        intro f
        induction f with
        | zero =>
          intro k h1 hk g123 g122 o2 e l r
          have ek : k = n' := by omega
          subst ek
          have hQ9 := hQ h1 (RM_sh hR (by rw [e 120 (by omega) (by omega)]; exact z0) (by rw [e 121 (by omega) (by omega)]; exact z1) (fun _ p hp => g122 p hp) (fun p hp => by rw [e 120 (by omega) (by omega)]) (fun p hp => by rw [e 121 (by omega) (by omega)]) o2 (fun a ha => e a (by omega) (by omega)) (fun p hp => by rw [e 94 (by omega) (by omega)]) r) ⟨fun a ha => e a (by omega) (by omega), fun a ha => by rw [l], r⟩
          refine V_iloadw6 dX10_copy_121 ?_
          refine V_iloadw5 dX10_copy_123 ?_
          first | refine U_icmp_ge (tgt := 156) dX10_copy_125 (by decide) (by with_reducible rfl) (by with_reducible rfl) (by omega) (by omega) (fun c125 => ?_) (fun c125 => ?_) | refine V_icmp_ge (tgt := 156) dX10_copy_125 (by decide) (fun c125 => ?_) (fun c125 => ?_)
          · skip
            refine V_iloadw5 dX10_copy_156 ?_
            refine V_iret dX10_copy_158 rfl rfl ?_
            exact hQ9
          · skip
            omega
        | succ f ih =>
          intro k h1 hk g123 g122 o2 e l r
          have hM1 := MLay_eq hM r
          have gk := g123 k (by omega)
          refine V_iloadw6 dX10_copy_121 ?_
          refine V_iloadw5 dX10_copy_123 ?_
          first | refine U_icmp_ge (tgt := 156) dX10_copy_125 (by decide) (by with_reducible rfl) (by with_reducible rfl) (by omega) (by omega) (fun c125 => ?_) (fun c125 => ?_) | refine V_icmp_ge (tgt := 156) dX10_copy_125 (by decide) (fun c125 => ?_) (fun c125 => ?_)
          · skip
            omega
          · skip
            refine V_aloadn0 dX10_copy_128 ?_
            refine V_getR dX10_copy_129 fX10_98 (by first | assumption | rfl) (by first | decide | omega) (by first | assumption | exact ML_4 (by assumption) | exact ML_5 (by assumption) | exact ML_6 (by assumption) | exact ML_7 (by assumption) | exact ML_8 (by assumption) | exact ML_9 (by assumption) | exact ML_10 (by assumption) | exact ML_11 (by assumption) | exact ML_12 (by assumption) | exact ML_13 (by assumption) | exact ML_15 (by assumption) | exact ML_16 (by assumption) | exact ML_17 (by assumption) | exact ML_20 (by assumption) | exact ML_23 (by assumption) | exact ML_24 (by assumption) | exact ML_30 (by assumption) | exact ML_31 (by assumption) | exact ML_32 (by assumption) | exact ML_33 (by assumption) | exact ML_35 (by assumption) | exact ML_36 (by assumption) | exact ML_37 (by assumption) | exact ML_38 (by assumption) | exact ML_41 (by assumption) | exact ML_42 (by assumption) | exact ML_43 (by assumption) | exact ML_44 (by assumption) | exact ML_45 (by assumption) | rfl) ?_
            refine V_bipush (v := nI 40) dX10_copy_132 (by decide) ?_
            refine V_iloadn3 dX10_copy_134 ?_
            first | refine U_imul dX10_copy_135 (by with_reducible rfl) (by with_reducible rfl) ?_ | refine V_imul dX10_copy_135 ?_
            refine V_iloadw4 dX10_copy_136 ?_
            first | refine U_iadd dX10_copy_138 (by with_reducible rfl) (by with_reducible rfl) ?_ | refine V_iadd dX10_copy_138 ?_
            refine V_iloadw6 dX10_copy_139 ?_
            first | refine U_iadd dX10_copy_141 (by with_reducible rfl) (by with_reducible rfl) ?_ | refine V_iadd dX10_copy_141 ?_
            refine V_aloadn0 dX10_copy_142 ?_
            refine V_getR dX10_copy_143 fX10_101 (by first | assumption | rfl) (by first | decide | omega) (by first | assumption | exact ML_4 (by assumption) | exact ML_5 (by assumption) | exact ML_6 (by assumption) | exact ML_7 (by assumption) | exact ML_8 (by assumption) | exact ML_9 (by assumption) | exact ML_10 (by assumption) | exact ML_11 (by assumption) | exact ML_12 (by assumption) | exact ML_13 (by assumption) | exact ML_15 (by assumption) | exact ML_16 (by assumption) | exact ML_17 (by assumption) | exact ML_20 (by assumption) | exact ML_23 (by assumption) | exact ML_24 (by assumption) | exact ML_30 (by assumption) | exact ML_31 (by assumption) | exact ML_32 (by assumption) | exact ML_33 (by assumption) | exact ML_35 (by assumption) | exact ML_36 (by assumption) | exact ML_37 (by assumption) | exact ML_38 (by assumption) | exact ML_41 (by assumption) | exact ML_42 (by assumption) | exact ML_43 (by assumption) | exact ML_44 (by assumption) | exact ML_45 (by assumption) | rfl) ?_
            refine V_iloadw6 dX10_copy_146 ?_
            refine U_iald dX10_copy_148 (by with_reducible rfl) (by first | assumption | rfl) (by first | decide | omega) (by omega) (by first | assumption | exact ML_4 (by assumption) | exact ML_5 (by assumption) | exact ML_6 (by assumption) | exact ML_7 (by assumption) | exact ML_8 (by assumption) | exact ML_9 (by assumption) | exact ML_10 (by assumption) | exact ML_11 (by assumption) | exact ML_12 (by assumption) | exact ML_13 (by assumption) | exact ML_15 (by assumption) | exact ML_16 (by assumption) | exact ML_17 (by assumption) | exact ML_20 (by assumption) | exact ML_23 (by assumption) | exact ML_24 (by assumption) | exact ML_30 (by assumption) | exact ML_31 (by assumption) | exact ML_32 (by assumption) | exact ML_33 (by assumption) | exact ML_35 (by assumption) | exact ML_36 (by assumption) | exact ML_37 (by assumption) | exact ML_38 (by assumption) | exact ML_41 (by assumption) | exact ML_42 (by assumption) | exact ML_43 (by assumption) | exact ML_44 (by assumption) | exact ML_45 (by assumption) | rfl) ?_
            refine U_iast dX10_copy_149 (by with_reducible rfl) (by first | assumption | rfl) (by first | decide | omega) (by omega) ?_
            refine V_iinc6 dX10_copy_150 (by first | exact ginc1 _ | rfl) (by decide) rfl ?_
            refine V_goto (tgt := 121) dX10_copy_153 (by decide) ?_
            refine ih (k + 1) _ (by omega) (fun p hp => by rw [gI_sI, if_neg (by omega)]; exact g123 p hp) (fun p hp => ?_) (fun p hp => by rw [gI_sI, if_neg (by omega)]; exact o2 p hp) (fun a n1 n2 => by funext b; rw [gI_sI, if_neg (fun z => n1 z.1), e a n1 n2]) l r
            rw [gI_sI]
            by_cases ep : p = j' + k
            · rw [if_pos ⟨rfl, by omega⟩, if_pos (by omega), show p - j' = k by omega]
            · rw [if_neg (by omega), g122 p hp]
              by_cases e2 : j' ≤ p ∧ p < j' + k
              · rw [if_pos e2, if_pos (by omega)]
              · rw [if_neg e2, if_neg (by omega)]
      have loop1 : ∀ f k h1, k + f = n' → (∀ p, p < k → gI h1 123 p = (S.2.2.2 s).2.2 (i' + p)) → (∀ a, a ≠ 123 → gI h1 a = gI h a) → gL h1 = gL h → gR h1 = gR h → V Γ mX10_copy d 124 124 h1 84 [some (.ref 94), some (.int (nI s)), some (.int (nI i')), some (.int (nI q)), some (.int (nI j')), some (.int (nI n')), some (.int (nI k))] [] Q := by
        intro f
        induction f with
        | zero =>
          intro k h1 hk g123 e l r
          refine V_iloadw6 dX10_copy_84 ?_
          refine V_iloadw5 dX10_copy_86 ?_
          first | refine U_icmp_ge (tgt := 118) dX10_copy_88 (by decide) (by with_reducible rfl) (by with_reducible rfl) (by omega) (by omega) (fun c88 => ?_) (fun c88 => ?_) | refine V_icmp_ge (tgt := 118) dX10_copy_88 (by decide) (fun c88 => ?_) (fun c88 => ?_)
          · skip
            refine V_iconst (v := nI 0) dX10_copy_118 (by decide) ?_
            refine V_istorew6 dX10_copy_119 (by decide) rfl ?_
            refine loop2 n' 0 h1 (Nat.zero_add _) (fun p hp => g123 p (by omega)) (fun p hp => ?_) (fun p hp => by rw [e 122 (by omega)]) (fun a n1 n2 => e a n2) l r
            rw [if_neg (by omega), e 122 (by omega)]; exact z2 m2 p hp
          · skip
            omega
        | succ f ih =>
          intro k h1 hk g123 e l r
          have hM1 := MLay_eq hM r
          have gk : gI h1 122 (40 * s + i' + k) = (S.2.2.2 s).2.2 (i' + k) := by rw [e 122 (by omega), show 40 * s + i' + k = 40 * s + (i' + k) by omega]; exact x2 m1 (i' + k) (by omega)
          refine V_iloadw6 dX10_copy_84 ?_
          refine V_iloadw5 dX10_copy_86 ?_
          first | refine U_icmp_ge (tgt := 118) dX10_copy_88 (by decide) (by with_reducible rfl) (by with_reducible rfl) (by omega) (by omega) (fun c88 => ?_) (fun c88 => ?_) | refine V_icmp_ge (tgt := 118) dX10_copy_88 (by decide) (fun c88 => ?_) (fun c88 => ?_)
          · skip
            omega
          · skip
            refine V_aloadn0 dX10_copy_91 ?_
            refine V_getR dX10_copy_92 fX10_101 (by first | assumption | rfl) (by first | decide | omega) (by first | assumption | exact ML_4 (by assumption) | exact ML_5 (by assumption) | exact ML_6 (by assumption) | exact ML_7 (by assumption) | exact ML_8 (by assumption) | exact ML_9 (by assumption) | exact ML_10 (by assumption) | exact ML_11 (by assumption) | exact ML_12 (by assumption) | exact ML_13 (by assumption) | exact ML_15 (by assumption) | exact ML_16 (by assumption) | exact ML_17 (by assumption) | exact ML_20 (by assumption) | exact ML_23 (by assumption) | exact ML_24 (by assumption) | exact ML_30 (by assumption) | exact ML_31 (by assumption) | exact ML_32 (by assumption) | exact ML_33 (by assumption) | exact ML_35 (by assumption) | exact ML_36 (by assumption) | exact ML_37 (by assumption) | exact ML_38 (by assumption) | exact ML_41 (by assumption) | exact ML_42 (by assumption) | exact ML_43 (by assumption) | exact ML_44 (by assumption) | exact ML_45 (by assumption) | rfl) ?_
            refine V_iloadw6 dX10_copy_95 ?_
            refine V_aloadn0 dX10_copy_97 ?_
            refine V_getR dX10_copy_98 fX10_98 (by first | assumption | rfl) (by first | decide | omega) (by first | assumption | exact ML_4 (by assumption) | exact ML_5 (by assumption) | exact ML_6 (by assumption) | exact ML_7 (by assumption) | exact ML_8 (by assumption) | exact ML_9 (by assumption) | exact ML_10 (by assumption) | exact ML_11 (by assumption) | exact ML_12 (by assumption) | exact ML_13 (by assumption) | exact ML_15 (by assumption) | exact ML_16 (by assumption) | exact ML_17 (by assumption) | exact ML_20 (by assumption) | exact ML_23 (by assumption) | exact ML_24 (by assumption) | exact ML_30 (by assumption) | exact ML_31 (by assumption) | exact ML_32 (by assumption) | exact ML_33 (by assumption) | exact ML_35 (by assumption) | exact ML_36 (by assumption) | exact ML_37 (by assumption) | exact ML_38 (by assumption) | exact ML_41 (by assumption) | exact ML_42 (by assumption) | exact ML_43 (by assumption) | exact ML_44 (by assumption) | exact ML_45 (by assumption) | rfl) ?_
            refine V_bipush (v := nI 40) dX10_copy_101 (by decide) ?_
            refine V_iloadn1 dX10_copy_103 ?_
            first | refine U_imul dX10_copy_104 (by with_reducible rfl) (by with_reducible rfl) ?_ | refine V_imul dX10_copy_104 ?_
            refine V_iloadn2 dX10_copy_105 ?_
            first | refine U_iadd dX10_copy_106 (by with_reducible rfl) (by with_reducible rfl) ?_ | refine V_iadd dX10_copy_106 ?_
            refine V_iloadw6 dX10_copy_107 ?_
            first | refine U_iadd dX10_copy_109 (by with_reducible rfl) (by with_reducible rfl) ?_ | refine V_iadd dX10_copy_109 ?_
            refine U_iald dX10_copy_110 (by with_reducible rfl) (by first | assumption | rfl) (by first | decide | omega) (by omega) (by first | assumption | exact ML_4 (by assumption) | exact ML_5 (by assumption) | exact ML_6 (by assumption) | exact ML_7 (by assumption) | exact ML_8 (by assumption) | exact ML_9 (by assumption) | exact ML_10 (by assumption) | exact ML_11 (by assumption) | exact ML_12 (by assumption) | exact ML_13 (by assumption) | exact ML_15 (by assumption) | exact ML_16 (by assumption) | exact ML_17 (by assumption) | exact ML_20 (by assumption) | exact ML_23 (by assumption) | exact ML_24 (by assumption) | exact ML_30 (by assumption) | exact ML_31 (by assumption) | exact ML_32 (by assumption) | exact ML_33 (by assumption) | exact ML_35 (by assumption) | exact ML_36 (by assumption) | exact ML_37 (by assumption) | exact ML_38 (by assumption) | exact ML_41 (by assumption) | exact ML_42 (by assumption) | exact ML_43 (by assumption) | exact ML_44 (by assumption) | exact ML_45 (by assumption) | rfl) ?_
            refine U_iast dX10_copy_111 (by with_reducible rfl) (by first | assumption | rfl) (by first | decide | omega) (by omega) ?_
            refine V_iinc6 dX10_copy_112 (by first | exact ginc1 _ | rfl) (by decide) rfl ?_
            refine V_goto (tgt := 84) dX10_copy_115 (by decide) ?_
            refine ih (k + 1) _ (by omega) (fun p hp => ?_) (fun a n1 => by funext b; rw [gI_sI, if_neg (fun z => n1 z.1), e a n1]) l r
            rw [gI_sI]
            by_cases ep : p = k
            · rw [if_pos ⟨rfl, ep⟩, ep]
            · rw [if_neg (fun z => ep z.2)]; exact g123 p (by omega)
      refine V_iloadn1 dX10_copy_0 ?_
      refine V_callS1 (μ' := mX10_isSheet) dX10_copy_1 okX10_isSheet lX10_285 (Nat.le_of_ble_eq_true rfl) (Nat.le_of_ble_eq_true rfl) (by omega) ?_
      refine m_isSheet (by omega) ?_
      rw [hg2.1]
      dsimp only [gPush]
      first | refine U_ifB_eq (tgt := 14) dX10_copy_4 (by decide) (by with_reducible rfl) (fun c4 => ?_) (fun c4 => ?_) | refine U_if_eq (tgt := 14) dX10_copy_4 (by decide) (by with_reducible rfl) (by omega) (fun c4 => ?_) (fun c4 => ?_) | refine V_if_eq (tgt := 14) dX10_copy_4 (by decide) (fun c4 => ?_) (fun c4 => ?_)
      · skip
        cases c4
      · skip
        refine V_iloadn3 dX10_copy_7 ?_
        refine V_callS1 (μ' := mX10_isSheet) dX10_copy_8 okX10_isSheet lX10_285 (Nat.le_of_ble_eq_true rfl) (Nat.le_of_ble_eq_true rfl) (by omega) ?_
        refine m_isSheet (by omega) ?_
        rw [hg2.2]
        dsimp only [gPush]
        first | refine U_ifB_ne (tgt := 16) dX10_copy_11 (by decide) (by with_reducible rfl) (fun c11 => ?_) (fun c11 => ?_) | refine U_if_ne (tgt := 16) dX10_copy_11 (by decide) (by with_reducible rfl) (by omega) (fun c11 => ?_) (fun c11 => ?_) | refine V_if_ne (tgt := 16) dX10_copy_11 (by decide) (fun c11 => ?_) (fun c11 => ?_)
        · skip
          refine V_aloadn0 dX10_copy_16 ?_
          refine V_getR dX10_copy_17 fX10_92 (by first | assumption | rfl) (by first | decide | omega) (by first | assumption | exact ML_4 (by assumption) | exact ML_5 (by assumption) | exact ML_6 (by assumption) | exact ML_7 (by assumption) | exact ML_8 (by assumption) | exact ML_9 (by assumption) | exact ML_10 (by assumption) | exact ML_11 (by assumption) | exact ML_12 (by assumption) | exact ML_13 (by assumption) | exact ML_15 (by assumption) | exact ML_16 (by assumption) | exact ML_17 (by assumption) | exact ML_20 (by assumption) | exact ML_23 (by assumption) | exact ML_24 (by assumption) | exact ML_30 (by assumption) | exact ML_31 (by assumption) | exact ML_32 (by assumption) | exact ML_33 (by assumption) | exact ML_35 (by assumption) | exact ML_36 (by assumption) | exact ML_37 (by assumption) | exact ML_38 (by assumption) | exact ML_41 (by assumption) | exact ML_42 (by assumption) | exact ML_43 (by assumption) | exact ML_44 (by assumption) | exact ML_45 (by assumption) | rfl) ?_
          refine V_iloadn1 dX10_copy_20 ?_
          refine U_iald dX10_copy_21 (by with_reducible rfl) (by first | assumption | rfl) (by first | decide | omega) (by omega) (by first | assumption | exact ML_4 (by assumption) | exact ML_5 (by assumption) | exact ML_6 (by assumption) | exact ML_7 (by assumption) | exact ML_8 (by assumption) | exact ML_9 (by assumption) | exact ML_10 (by assumption) | exact ML_11 (by assumption) | exact ML_12 (by assumption) | exact ML_13 (by assumption) | exact ML_15 (by assumption) | exact ML_16 (by assumption) | exact ML_17 (by assumption) | exact ML_20 (by assumption) | exact ML_23 (by assumption) | exact ML_24 (by assumption) | exact ML_30 (by assumption) | exact ML_31 (by assumption) | exact ML_32 (by assumption) | exact ML_33 (by assumption) | exact ML_35 (by assumption) | exact ML_36 (by assumption) | exact ML_37 (by assumption) | exact ML_38 (by assumption) | exact ML_41 (by assumption) | exact ML_42 (by assumption) | exact ML_43 (by assumption) | exact ML_44 (by assumption) | exact ML_45 (by assumption) | rfl) ?_
          refine V_if_lt (tgt := 34) dX10_copy_22 (by decide) (fun c22 => ?_) (fun c22 => ?_)
          · skip
            exact absurd c22 (nI_pos (by omega))
          · skip
            refine V_aloadn0 dX10_copy_25 ?_
            refine V_getR dX10_copy_26 fX10_92 (by first | assumption | rfl) (by first | decide | omega) (by first | assumption | exact ML_4 (by assumption) | exact ML_5 (by assumption) | exact ML_6 (by assumption) | exact ML_7 (by assumption) | exact ML_8 (by assumption) | exact ML_9 (by assumption) | exact ML_10 (by assumption) | exact ML_11 (by assumption) | exact ML_12 (by assumption) | exact ML_13 (by assumption) | exact ML_15 (by assumption) | exact ML_16 (by assumption) | exact ML_17 (by assumption) | exact ML_20 (by assumption) | exact ML_23 (by assumption) | exact ML_24 (by assumption) | exact ML_30 (by assumption) | exact ML_31 (by assumption) | exact ML_32 (by assumption) | exact ML_33 (by assumption) | exact ML_35 (by assumption) | exact ML_36 (by assumption) | exact ML_37 (by assumption) | exact ML_38 (by assumption) | exact ML_41 (by assumption) | exact ML_42 (by assumption) | exact ML_43 (by assumption) | exact ML_44 (by assumption) | exact ML_45 (by assumption) | rfl) ?_
            refine V_iloadn3 dX10_copy_29 ?_
            refine U_iald dX10_copy_30 (by with_reducible rfl) (by first | assumption | rfl) (by first | decide | omega) (by omega) (by first | assumption | exact ML_4 (by assumption) | exact ML_5 (by assumption) | exact ML_6 (by assumption) | exact ML_7 (by assumption) | exact ML_8 (by assumption) | exact ML_9 (by assumption) | exact ML_10 (by assumption) | exact ML_11 (by assumption) | exact ML_12 (by assumption) | exact ML_13 (by assumption) | exact ML_15 (by assumption) | exact ML_16 (by assumption) | exact ML_17 (by assumption) | exact ML_20 (by assumption) | exact ML_23 (by assumption) | exact ML_24 (by assumption) | exact ML_30 (by assumption) | exact ML_31 (by assumption) | exact ML_32 (by assumption) | exact ML_33 (by assumption) | exact ML_35 (by assumption) | exact ML_36 (by assumption) | exact ML_37 (by assumption) | exact ML_38 (by assumption) | exact ML_41 (by assumption) | exact ML_42 (by assumption) | exact ML_43 (by assumption) | exact ML_44 (by assumption) | exact ML_45 (by assumption) | rfl) ?_
            refine V_if_ge (tgt := 37) dX10_copy_31 (by decide) (fun c31 => ?_) (fun c31 => ?_)
            · skip
              refine V_aloadn0 dX10_copy_37 ?_
              refine V_getR dX10_copy_38 fX10_92 (by first | assumption | rfl) (by first | decide | omega) (by first | assumption | exact ML_4 (by assumption) | exact ML_5 (by assumption) | exact ML_6 (by assumption) | exact ML_7 (by assumption) | exact ML_8 (by assumption) | exact ML_9 (by assumption) | exact ML_10 (by assumption) | exact ML_11 (by assumption) | exact ML_12 (by assumption) | exact ML_13 (by assumption) | exact ML_15 (by assumption) | exact ML_16 (by assumption) | exact ML_17 (by assumption) | exact ML_20 (by assumption) | exact ML_23 (by assumption) | exact ML_24 (by assumption) | exact ML_30 (by assumption) | exact ML_31 (by assumption) | exact ML_32 (by assumption) | exact ML_33 (by assumption) | exact ML_35 (by assumption) | exact ML_36 (by assumption) | exact ML_37 (by assumption) | exact ML_38 (by assumption) | exact ML_41 (by assumption) | exact ML_42 (by assumption) | exact ML_43 (by assumption) | exact ML_44 (by assumption) | exact ML_45 (by assumption) | rfl) ?_
              refine V_iloadn1 dX10_copy_41 ?_
              refine U_iald dX10_copy_42 (by with_reducible rfl) (by first | assumption | rfl) (by first | decide | omega) (by omega) (by first | assumption | exact ML_4 (by assumption) | exact ML_5 (by assumption) | exact ML_6 (by assumption) | exact ML_7 (by assumption) | exact ML_8 (by assumption) | exact ML_9 (by assumption) | exact ML_10 (by assumption) | exact ML_11 (by assumption) | exact ML_12 (by assumption) | exact ML_13 (by assumption) | exact ML_15 (by assumption) | exact ML_16 (by assumption) | exact ML_17 (by assumption) | exact ML_20 (by assumption) | exact ML_23 (by assumption) | exact ML_24 (by assumption) | exact ML_30 (by assumption) | exact ML_31 (by assumption) | exact ML_32 (by assumption) | exact ML_33 (by assumption) | exact ML_35 (by assumption) | exact ML_36 (by assumption) | exact ML_37 (by assumption) | exact ML_38 (by assumption) | exact ML_41 (by assumption) | exact ML_42 (by assumption) | exact ML_43 (by assumption) | exact ML_44 (by assumption) | exact ML_45 (by assumption) | rfl) ?_
              refine V_aloadn0 dX10_copy_43 ?_
              refine V_getR dX10_copy_44 fX10_92 (by first | assumption | rfl) (by first | decide | omega) (by first | assumption | exact ML_4 (by assumption) | exact ML_5 (by assumption) | exact ML_6 (by assumption) | exact ML_7 (by assumption) | exact ML_8 (by assumption) | exact ML_9 (by assumption) | exact ML_10 (by assumption) | exact ML_11 (by assumption) | exact ML_12 (by assumption) | exact ML_13 (by assumption) | exact ML_15 (by assumption) | exact ML_16 (by assumption) | exact ML_17 (by assumption) | exact ML_20 (by assumption) | exact ML_23 (by assumption) | exact ML_24 (by assumption) | exact ML_30 (by assumption) | exact ML_31 (by assumption) | exact ML_32 (by assumption) | exact ML_33 (by assumption) | exact ML_35 (by assumption) | exact ML_36 (by assumption) | exact ML_37 (by assumption) | exact ML_38 (by assumption) | exact ML_41 (by assumption) | exact ML_42 (by assumption) | exact ML_43 (by assumption) | exact ML_44 (by assumption) | exact ML_45 (by assumption) | rfl) ?_
              refine V_iloadn3 dX10_copy_47 ?_
              refine U_iald dX10_copy_48 (by with_reducible rfl) (by first | assumption | rfl) (by first | decide | omega) (by omega) (by first | assumption | exact ML_4 (by assumption) | exact ML_5 (by assumption) | exact ML_6 (by assumption) | exact ML_7 (by assumption) | exact ML_8 (by assumption) | exact ML_9 (by assumption) | exact ML_10 (by assumption) | exact ML_11 (by assumption) | exact ML_12 (by assumption) | exact ML_13 (by assumption) | exact ML_15 (by assumption) | exact ML_16 (by assumption) | exact ML_17 (by assumption) | exact ML_20 (by assumption) | exact ML_23 (by assumption) | exact ML_24 (by assumption) | exact ML_30 (by assumption) | exact ML_31 (by assumption) | exact ML_32 (by assumption) | exact ML_33 (by assumption) | exact ML_35 (by assumption) | exact ML_36 (by assumption) | exact ML_37 (by assumption) | exact ML_38 (by assumption) | exact ML_41 (by assumption) | exact ML_42 (by assumption) | exact ML_43 (by assumption) | exact ML_44 (by assumption) | exact ML_45 (by assumption) | rfl) ?_
              first | refine U_icmp_eq (tgt := 55) dX10_copy_49 (by decide) (by with_reducible rfl) (by with_reducible rfl) (by omega) (by omega) (fun c49 => ?_) (fun c49 => ?_) | refine V_icmp_eq (tgt := 55) dX10_copy_49 (by decide) (fun c49 => ?_) (fun c49 => ?_)
              · skip
                refine V_aloadn0 dX10_copy_55 ?_
                refine V_iloadn1 dX10_copy_56 ?_
                refine V_iloadn2 dX10_copy_57 ?_
                refine V_iloadw5 dX10_copy_58 ?_
                refine V_callV3 (μ' := mX10_isOutside) dX10_copy_60 okX10_isOutside lX10_292 rfl (by first | assumption | rfl) (by first | decide | omega) (Nat.le_of_ble_eq_true rfl) (Nat.le_of_ble_eq_true rfl) (by omega) ?_
                refine m_isOutside hM hs x1 ?_
                rw [hp2.1]
                dsimp only [gPush]
                first | refine U_ifB_ne (tgt := 78) dX10_copy_63 (by decide) (by with_reducible rfl) (fun c63 => ?_) (fun c63 => ?_) | refine U_if_ne (tgt := 78) dX10_copy_63 (by decide) (by with_reducible rfl) (by omega) (fun c63 => ?_) (fun c63 => ?_) | refine V_if_ne (tgt := 78) dX10_copy_63 (by decide) (fun c63 => ?_) (fun c63 => ?_)
                · skip
                  cases c63
                · skip
                  refine V_aloadn0 dX10_copy_66 ?_
                  refine V_iloadn3 dX10_copy_67 ?_
                  refine V_iloadw4 dX10_copy_68 ?_
                  refine V_iloadw5 dX10_copy_70 ?_
                  refine V_callV3 (μ' := mX10_isOutside) dX10_copy_72 okX10_isOutside lX10_292 rfl (by first | assumption | rfl) (by first | decide | omega) (Nat.le_of_ble_eq_true rfl) (Nat.le_of_ble_eq_true rfl) (by omega) ?_
                  refine m_isOutside hM hq z1 ?_
                  rw [hp2.2]
                  dsimp only [gPush]
                  first | refine U_ifB_eq (tgt := 81) dX10_copy_75 (by decide) (by with_reducible rfl) (fun c75 => ?_) (fun c75 => ?_) | refine U_if_eq (tgt := 81) dX10_copy_75 (by decide) (by with_reducible rfl) (by omega) (fun c75 => ?_) (fun c75 => ?_) | refine V_if_eq (tgt := 81) dX10_copy_75 (by decide) (fun c75 => ?_) (fun c75 => ?_)
                  · skip
                    refine V_iconst (v := nI 0) dX10_copy_81 (by decide) ?_
                    refine V_istorew6 dX10_copy_82 (by decide) rfl ?_
                    exact loop1 n' 0 h (Nat.zero_add _) (fun p hp => absurd hp (Nat.not_lt_zero _)) (fun _ _ => rfl) rfl rfl
                  · skip
                    cases c75
              · skip
                omega
            · skip
              exact absurd (nI_pos' (by omega)) c31
        · skip
          cases c11
    · rw [if_neg hp] at hQ
      have hQ9 := hQ h hR FrD.rf
      refine V_iloadn1 dX10_copy_0 ?_
      refine V_callS1 (μ' := mX10_isSheet) dX10_copy_1 okX10_isSheet lX10_285 (Nat.le_of_ble_eq_true rfl) (Nat.le_of_ble_eq_true rfl) (by omega) ?_
      refine m_isSheet (by omega) ?_
      rw [hg2.1]
      dsimp only [gPush]
      first | refine U_ifB_eq (tgt := 14) dX10_copy_4 (by decide) (by with_reducible rfl) (fun c4 => ?_) (fun c4 => ?_) | refine U_if_eq (tgt := 14) dX10_copy_4 (by decide) (by with_reducible rfl) (by omega) (fun c4 => ?_) (fun c4 => ?_) | refine V_if_eq (tgt := 14) dX10_copy_4 (by decide) (fun c4 => ?_) (fun c4 => ?_)
      · skip
        cases c4
      · skip
        refine V_iloadn3 dX10_copy_7 ?_
        refine V_callS1 (μ' := mX10_isSheet) dX10_copy_8 okX10_isSheet lX10_285 (Nat.le_of_ble_eq_true rfl) (Nat.le_of_ble_eq_true rfl) (by omega) ?_
        refine m_isSheet (by omega) ?_
        rw [hg2.2]
        dsimp only [gPush]
        first | refine U_ifB_ne (tgt := 16) dX10_copy_11 (by decide) (by with_reducible rfl) (fun c11 => ?_) (fun c11 => ?_) | refine U_if_ne (tgt := 16) dX10_copy_11 (by decide) (by with_reducible rfl) (by omega) (fun c11 => ?_) (fun c11 => ?_) | refine V_if_ne (tgt := 16) dX10_copy_11 (by decide) (fun c11 => ?_) (fun c11 => ?_)
        · skip
          refine V_aloadn0 dX10_copy_16 ?_
          refine V_getR dX10_copy_17 fX10_92 (by first | assumption | rfl) (by first | decide | omega) (by first | assumption | exact ML_4 (by assumption) | exact ML_5 (by assumption) | exact ML_6 (by assumption) | exact ML_7 (by assumption) | exact ML_8 (by assumption) | exact ML_9 (by assumption) | exact ML_10 (by assumption) | exact ML_11 (by assumption) | exact ML_12 (by assumption) | exact ML_13 (by assumption) | exact ML_15 (by assumption) | exact ML_16 (by assumption) | exact ML_17 (by assumption) | exact ML_20 (by assumption) | exact ML_23 (by assumption) | exact ML_24 (by assumption) | exact ML_30 (by assumption) | exact ML_31 (by assumption) | exact ML_32 (by assumption) | exact ML_33 (by assumption) | exact ML_35 (by assumption) | exact ML_36 (by assumption) | exact ML_37 (by assumption) | exact ML_38 (by assumption) | exact ML_41 (by assumption) | exact ML_42 (by assumption) | exact ML_43 (by assumption) | exact ML_44 (by assumption) | exact ML_45 (by assumption) | rfl) ?_
          refine V_iloadn1 dX10_copy_20 ?_
          refine U_iald dX10_copy_21 (by with_reducible rfl) (by first | assumption | rfl) (by first | decide | omega) (by omega) (by first | assumption | exact ML_4 (by assumption) | exact ML_5 (by assumption) | exact ML_6 (by assumption) | exact ML_7 (by assumption) | exact ML_8 (by assumption) | exact ML_9 (by assumption) | exact ML_10 (by assumption) | exact ML_11 (by assumption) | exact ML_12 (by assumption) | exact ML_13 (by assumption) | exact ML_15 (by assumption) | exact ML_16 (by assumption) | exact ML_17 (by assumption) | exact ML_20 (by assumption) | exact ML_23 (by assumption) | exact ML_24 (by assumption) | exact ML_30 (by assumption) | exact ML_31 (by assumption) | exact ML_32 (by assumption) | exact ML_33 (by assumption) | exact ML_35 (by assumption) | exact ML_36 (by assumption) | exact ML_37 (by assumption) | exact ML_38 (by assumption) | exact ML_41 (by assumption) | exact ML_42 (by assumption) | exact ML_43 (by assumption) | exact ML_44 (by assumption) | exact ML_45 (by assumption) | rfl) ?_
          refine V_if_lt (tgt := 34) dX10_copy_22 (by decide) (fun c22 => ?_) (fun c22 => ?_)
          · skip
            exact absurd c22 (nI_pos (by omega))
          · skip
            refine V_aloadn0 dX10_copy_25 ?_
            refine V_getR dX10_copy_26 fX10_92 (by first | assumption | rfl) (by first | decide | omega) (by first | assumption | exact ML_4 (by assumption) | exact ML_5 (by assumption) | exact ML_6 (by assumption) | exact ML_7 (by assumption) | exact ML_8 (by assumption) | exact ML_9 (by assumption) | exact ML_10 (by assumption) | exact ML_11 (by assumption) | exact ML_12 (by assumption) | exact ML_13 (by assumption) | exact ML_15 (by assumption) | exact ML_16 (by assumption) | exact ML_17 (by assumption) | exact ML_20 (by assumption) | exact ML_23 (by assumption) | exact ML_24 (by assumption) | exact ML_30 (by assumption) | exact ML_31 (by assumption) | exact ML_32 (by assumption) | exact ML_33 (by assumption) | exact ML_35 (by assumption) | exact ML_36 (by assumption) | exact ML_37 (by assumption) | exact ML_38 (by assumption) | exact ML_41 (by assumption) | exact ML_42 (by assumption) | exact ML_43 (by assumption) | exact ML_44 (by assumption) | exact ML_45 (by assumption) | rfl) ?_
            refine V_iloadn3 dX10_copy_29 ?_
            refine U_iald dX10_copy_30 (by with_reducible rfl) (by first | assumption | rfl) (by first | decide | omega) (by omega) (by first | assumption | exact ML_4 (by assumption) | exact ML_5 (by assumption) | exact ML_6 (by assumption) | exact ML_7 (by assumption) | exact ML_8 (by assumption) | exact ML_9 (by assumption) | exact ML_10 (by assumption) | exact ML_11 (by assumption) | exact ML_12 (by assumption) | exact ML_13 (by assumption) | exact ML_15 (by assumption) | exact ML_16 (by assumption) | exact ML_17 (by assumption) | exact ML_20 (by assumption) | exact ML_23 (by assumption) | exact ML_24 (by assumption) | exact ML_30 (by assumption) | exact ML_31 (by assumption) | exact ML_32 (by assumption) | exact ML_33 (by assumption) | exact ML_35 (by assumption) | exact ML_36 (by assumption) | exact ML_37 (by assumption) | exact ML_38 (by assumption) | exact ML_41 (by assumption) | exact ML_42 (by assumption) | exact ML_43 (by assumption) | exact ML_44 (by assumption) | exact ML_45 (by assumption) | rfl) ?_
            refine V_if_ge (tgt := 37) dX10_copy_31 (by decide) (fun c31 => ?_) (fun c31 => ?_)
            · skip
              refine V_aloadn0 dX10_copy_37 ?_
              refine V_getR dX10_copy_38 fX10_92 (by first | assumption | rfl) (by first | decide | omega) (by first | assumption | exact ML_4 (by assumption) | exact ML_5 (by assumption) | exact ML_6 (by assumption) | exact ML_7 (by assumption) | exact ML_8 (by assumption) | exact ML_9 (by assumption) | exact ML_10 (by assumption) | exact ML_11 (by assumption) | exact ML_12 (by assumption) | exact ML_13 (by assumption) | exact ML_15 (by assumption) | exact ML_16 (by assumption) | exact ML_17 (by assumption) | exact ML_20 (by assumption) | exact ML_23 (by assumption) | exact ML_24 (by assumption) | exact ML_30 (by assumption) | exact ML_31 (by assumption) | exact ML_32 (by assumption) | exact ML_33 (by assumption) | exact ML_35 (by assumption) | exact ML_36 (by assumption) | exact ML_37 (by assumption) | exact ML_38 (by assumption) | exact ML_41 (by assumption) | exact ML_42 (by assumption) | exact ML_43 (by assumption) | exact ML_44 (by assumption) | exact ML_45 (by assumption) | rfl) ?_
              refine V_iloadn1 dX10_copy_41 ?_
              refine U_iald dX10_copy_42 (by with_reducible rfl) (by first | assumption | rfl) (by first | decide | omega) (by omega) (by first | assumption | exact ML_4 (by assumption) | exact ML_5 (by assumption) | exact ML_6 (by assumption) | exact ML_7 (by assumption) | exact ML_8 (by assumption) | exact ML_9 (by assumption) | exact ML_10 (by assumption) | exact ML_11 (by assumption) | exact ML_12 (by assumption) | exact ML_13 (by assumption) | exact ML_15 (by assumption) | exact ML_16 (by assumption) | exact ML_17 (by assumption) | exact ML_20 (by assumption) | exact ML_23 (by assumption) | exact ML_24 (by assumption) | exact ML_30 (by assumption) | exact ML_31 (by assumption) | exact ML_32 (by assumption) | exact ML_33 (by assumption) | exact ML_35 (by assumption) | exact ML_36 (by assumption) | exact ML_37 (by assumption) | exact ML_38 (by assumption) | exact ML_41 (by assumption) | exact ML_42 (by assumption) | exact ML_43 (by assumption) | exact ML_44 (by assumption) | exact ML_45 (by assumption) | rfl) ?_
              refine V_aloadn0 dX10_copy_43 ?_
              refine V_getR dX10_copy_44 fX10_92 (by first | assumption | rfl) (by first | decide | omega) (by first | assumption | exact ML_4 (by assumption) | exact ML_5 (by assumption) | exact ML_6 (by assumption) | exact ML_7 (by assumption) | exact ML_8 (by assumption) | exact ML_9 (by assumption) | exact ML_10 (by assumption) | exact ML_11 (by assumption) | exact ML_12 (by assumption) | exact ML_13 (by assumption) | exact ML_15 (by assumption) | exact ML_16 (by assumption) | exact ML_17 (by assumption) | exact ML_20 (by assumption) | exact ML_23 (by assumption) | exact ML_24 (by assumption) | exact ML_30 (by assumption) | exact ML_31 (by assumption) | exact ML_32 (by assumption) | exact ML_33 (by assumption) | exact ML_35 (by assumption) | exact ML_36 (by assumption) | exact ML_37 (by assumption) | exact ML_38 (by assumption) | exact ML_41 (by assumption) | exact ML_42 (by assumption) | exact ML_43 (by assumption) | exact ML_44 (by assumption) | exact ML_45 (by assumption) | rfl) ?_
              refine V_iloadn3 dX10_copy_47 ?_
              refine U_iald dX10_copy_48 (by with_reducible rfl) (by first | assumption | rfl) (by first | decide | omega) (by omega) (by first | assumption | exact ML_4 (by assumption) | exact ML_5 (by assumption) | exact ML_6 (by assumption) | exact ML_7 (by assumption) | exact ML_8 (by assumption) | exact ML_9 (by assumption) | exact ML_10 (by assumption) | exact ML_11 (by assumption) | exact ML_12 (by assumption) | exact ML_13 (by assumption) | exact ML_15 (by assumption) | exact ML_16 (by assumption) | exact ML_17 (by assumption) | exact ML_20 (by assumption) | exact ML_23 (by assumption) | exact ML_24 (by assumption) | exact ML_30 (by assumption) | exact ML_31 (by assumption) | exact ML_32 (by assumption) | exact ML_33 (by assumption) | exact ML_35 (by assumption) | exact ML_36 (by assumption) | exact ML_37 (by assumption) | exact ML_38 (by assumption) | exact ML_41 (by assumption) | exact ML_42 (by assumption) | exact ML_43 (by assumption) | exact ML_44 (by assumption) | exact ML_45 (by assumption) | rfl) ?_
              first | refine U_icmp_eq (tgt := 55) dX10_copy_49 (by decide) (by with_reducible rfl) (by with_reducible rfl) (by omega) (by omega) (fun c49 => ?_) (fun c49 => ?_) | refine V_icmp_eq (tgt := 55) dX10_copy_49 (by decide) (fun c49 => ?_) (fun c49 => ?_)
              · skip
                refine V_aloadn0 dX10_copy_55 ?_
                refine V_iloadn1 dX10_copy_56 ?_
                refine V_iloadn2 dX10_copy_57 ?_
                refine V_iloadw5 dX10_copy_58 ?_
                refine V_callV3 (μ' := mX10_isOutside) dX10_copy_60 okX10_isOutside lX10_292 rfl (by first | assumption | rfl) (by first | decide | omega) (Nat.le_of_ble_eq_true rfl) (Nat.le_of_ble_eq_true rfl) (by omega) ?_
                refine m_isOutside hM hs x1 ?_
                dsimp only [gPush]
                first | refine U_ifB_ne (tgt := 78) dX10_copy_63 (by decide) (by with_reducible rfl) (fun c63 => ?_) (fun c63 => ?_) | refine U_if_ne (tgt := 78) dX10_copy_63 (by decide) (by with_reducible rfl) (by omega) (fun c63 => ?_) (fun c63 => ?_) | refine V_if_ne (tgt := 78) dX10_copy_63 (by decide) (fun c63 => ?_) (fun c63 => ?_)
                · skip
                  refine V_bipush (v := -12) dX10_copy_78 (by decide) ?_
                  refine V_iret dX10_copy_80 rfl rfl ?_
                  exact hQ9
                · skip
                  refine V_aloadn0 dX10_copy_66 ?_
                  refine V_iloadn3 dX10_copy_67 ?_
                  refine V_iloadw4 dX10_copy_68 ?_
                  refine V_iloadw5 dX10_copy_70 ?_
                  refine V_callV3 (μ' := mX10_isOutside) dX10_copy_72 okX10_isOutside lX10_292 rfl (by first | assumption | rfl) (by first | decide | omega) (Nat.le_of_ble_eq_true rfl) (Nat.le_of_ble_eq_true rfl) (by omega) ?_
                  refine m_isOutside hM hq z1 ?_
                  dsimp only [gPush]
                  first | refine U_ifB_eq (tgt := 81) dX10_copy_75 (by decide) (by with_reducible rfl) (fun c75 => ?_) (fun c75 => ?_) | refine U_if_eq (tgt := 81) dX10_copy_75 (by decide) (by with_reducible rfl) (by omega) (fun c75 => ?_) (fun c75 => ?_) | refine V_if_eq (tgt := 81) dX10_copy_75 (by decide) (fun c75 => ?_) (fun c75 => ?_)
                  · skip
                    have e1 : hpB i n (S.2.2.2 s).2.1 = true := by simpa using c63
                    have e2 : hpB j n (S.2.2.2 q).2.1 = true := by simpa using c75
                    exact absurd (by rw [e1, e2]; rfl) hp
                  · skip
                    refine V_bipush (v := -12) dX10_copy_78 (by decide) ?_
                    refine V_iret dX10_copy_80 rfl rfl ?_
                    exact hQ9
              · skip
                omega
            · skip
              exact absurd (nI_pos' (by omega)) c31
        · skip
          cases c11
  · have eq0 : f_copy S x i y j n = (-1, S) := if_neg hg
    rw [eq0] at hQ
    have hQ9 := hQ h hR FrD.rf
    refine V_iloadn1 dX10_copy_0 ?_
    refine V_callS1 (μ' := mX10_isSheet) dX10_copy_1 okX10_isSheet lX10_285 (Nat.le_of_ble_eq_true rfl) (Nat.le_of_ble_eq_true rfl) (by omega) ?_
    refine m_isSheet (by omega) ?_
    dsimp only [gPush]
    first | refine U_ifB_eq (tgt := 14) dX10_copy_4 (by decide) (by with_reducible rfl) (fun c4 => ?_) (fun c4 => ?_) | refine U_if_eq (tgt := 14) dX10_copy_4 (by decide) (by with_reducible rfl) (by omega) (fun c4 => ?_) (fun c4 => ?_) | refine V_if_eq (tgt := 14) dX10_copy_4 (by decide) (fun c4 => ?_) (fun c4 => ?_)
    · skip
      refine V_iconst (v := -1) dX10_copy_14 (by decide) ?_
      refine V_iret dX10_copy_15 rfl rfl ?_
      exact hQ9
    · skip
      refine V_iloadn3 dX10_copy_7 ?_
      refine V_callS1 (μ' := mX10_isSheet) dX10_copy_8 okX10_isSheet lX10_285 (Nat.le_of_ble_eq_true rfl) (Nat.le_of_ble_eq_true rfl) (by omega) ?_
      refine m_isSheet (by omega) ?_
      dsimp only [gPush]
      first | refine U_ifB_ne (tgt := 16) dX10_copy_11 (by decide) (by with_reducible rfl) (fun c11 => ?_) (fun c11 => ?_) | refine U_if_ne (tgt := 16) dX10_copy_11 (by decide) (by with_reducible rfl) (by omega) (fun c11 => ?_) (fun c11 => ?_) | refine V_if_ne (tgt := 16) dX10_copy_11 (by decide) (fun c11 => ?_) (fun c11 => ?_)
      · skip
        exact absurd (by rw [c4, c11]; rfl) hg
      · skip
        refine V_iconst (v := -1) dX10_copy_14 (by decide) ?_
        refine V_iret dX10_copy_15 rfl rfl ?_
        exact hQ9

set_option maxRecDepth 100000 in
set_option maxHeartbeats 4000000 in
theorem m_lay {x y i : Int32} (hd : 2 ≤ d) (hR : RM h S) (hWG : WG S) (hQ : ∀ h', RM h' (f_lay S x y i).2 → FrD h h' → Q (some (.int (f_lay S x y i).1)) h') : V Γ mX10_lay d 124 124 h 0 [some (.ref 94), some (.int x), some (.int y), some (.int i), none] [] Q := by
  obtain ⟨hM, ⟨r0, r1, rT, rW⟩, rK, rK2, rB, rS⟩ := id hR
  obtain ⟨hWS, hWK, hWB, hWX⟩ := id hWG
  have hn2 := hWS.1
  have hn5 := hWS.2.1
  by_cases hg : (inB x 6 && inB y 4) = true
  · have hg2 := hg
    rw [Bool.and_eq_true] at hg2
    obtain ⟨q, hq, rfl⟩ := inB_t (by decide) hg2.1
    obtain ⟨s, hs, rfl⟩ := inB_t (by decide) hg2.2
    have hWT := hWS.2.2.1 q hq
    obtain ⟨t0, tz⟩ := rT q hq
    have kd2 := hWT.1
    have hwl := hWT.2.1
    obtain ⟨x0, x1, x2⟩ := rS s hs
    obtain ⟨b1, b2, b3⟩ := hWX s hs
    have bl := soI_lt b1
    have eS : tS S (nI q) = S.1.2.2.1 q := by unfold tS; rw [cN_nI (by omega)]
    have eq0 : f_lay S (nI q) (nI s) i = _ := if_t hg
    rw [eq0, eS, cN_nI (by omega)] at hQ
    by_cases hm : (S.1.2.2.1 q).1 = 0 ∨ (S.2.2.2 s).1 = 0
    · rw [if_pos hm] at hQ
      have hQ9 := hQ h hR FrD.rf
      refine V_iloadn1 dX10_lay_0 ?_
      refine V_callS1 (μ' := mX10_isSlot) dX10_lay_1 okX10_isSlot lX10_114 (Nat.le_of_ble_eq_true rfl) (Nat.le_of_ble_eq_true rfl) (by omega) ?_
      refine m_isSlot (by omega) ?_
      rw [hg2.1]
      dsimp only [gPush]
      first | refine U_ifB_eq (tgt := 14) dX10_lay_4 (by decide) (by with_reducible rfl) (fun c4 => ?_) (fun c4 => ?_) | refine U_if_eq (tgt := 14) dX10_lay_4 (by decide) (by with_reducible rfl) (by omega) (fun c4 => ?_) (fun c4 => ?_) | refine V_if_eq (tgt := 14) dX10_lay_4 (by decide) (fun c4 => ?_) (fun c4 => ?_)
      · skip
        cases c4
      · skip
        refine V_iloadn2 dX10_lay_7 ?_
        refine V_callS1 (μ' := mX10_isSheet) dX10_lay_8 okX10_isSheet lX10_285 (Nat.le_of_ble_eq_true rfl) (Nat.le_of_ble_eq_true rfl) (by omega) ?_
        refine m_isSheet (by omega) ?_
        rw [hg2.2]
        dsimp only [gPush]
        first | refine U_ifB_ne (tgt := 16) dX10_lay_11 (by decide) (by with_reducible rfl) (fun c11 => ?_) (fun c11 => ?_) | refine U_if_ne (tgt := 16) dX10_lay_11 (by decide) (by with_reducible rfl) (by omega) (fun c11 => ?_) (fun c11 => ?_) | refine V_if_ne (tgt := 16) dX10_lay_11 (by decide) (fun c11 => ?_) (fun c11 => ?_)
        · skip
          refine V_aloadn0 dX10_lay_16 ?_
          refine V_getR dX10_lay_17 fX10_16 (by first | assumption | rfl) (by first | decide | omega) (by first | assumption | exact ML_4 (by assumption) | exact ML_5 (by assumption) | exact ML_6 (by assumption) | exact ML_7 (by assumption) | exact ML_8 (by assumption) | exact ML_9 (by assumption) | exact ML_10 (by assumption) | exact ML_11 (by assumption) | exact ML_12 (by assumption) | exact ML_13 (by assumption) | exact ML_15 (by assumption) | exact ML_16 (by assumption) | exact ML_17 (by assumption) | exact ML_20 (by assumption) | exact ML_23 (by assumption) | exact ML_24 (by assumption) | exact ML_30 (by assumption) | exact ML_31 (by assumption) | exact ML_32 (by assumption) | exact ML_33 (by assumption) | exact ML_35 (by assumption) | exact ML_36 (by assumption) | exact ML_37 (by assumption) | exact ML_38 (by assumption) | exact ML_41 (by assumption) | exact ML_42 (by assumption) | exact ML_43 (by assumption) | exact ML_44 (by assumption) | exact ML_45 (by assumption) | rfl) ?_
          refine V_iloadn1 dX10_lay_20 ?_
          refine U_iald dX10_lay_21 (by with_reducible rfl) (by first | assumption | rfl) (by first | decide | omega) (by omega) (by first | assumption | exact ML_4 (by assumption) | exact ML_5 (by assumption) | exact ML_6 (by assumption) | exact ML_7 (by assumption) | exact ML_8 (by assumption) | exact ML_9 (by assumption) | exact ML_10 (by assumption) | exact ML_11 (by assumption) | exact ML_12 (by assumption) | exact ML_13 (by assumption) | exact ML_15 (by assumption) | exact ML_16 (by assumption) | exact ML_17 (by assumption) | exact ML_20 (by assumption) | exact ML_23 (by assumption) | exact ML_24 (by assumption) | exact ML_30 (by assumption) | exact ML_31 (by assumption) | exact ML_32 (by assumption) | exact ML_33 (by assumption) | exact ML_35 (by assumption) | exact ML_36 (by assumption) | exact ML_37 (by assumption) | exact ML_38 (by assumption) | exact ML_41 (by assumption) | exact ML_42 (by assumption) | exact ML_43 (by assumption) | exact ML_44 (by assumption) | exact ML_45 (by assumption) | rfl) ?_
          first | refine U_ifB_eq (tgt := 34) dX10_lay_22 (by decide) (by with_reducible rfl) (fun c22 => ?_) (fun c22 => ?_) | refine U_if_eq (tgt := 34) dX10_lay_22 (by decide) (by with_reducible rfl) (by omega) (fun c22 => ?_) (fun c22 => ?_) | refine V_if_eq (tgt := 34) dX10_lay_22 (by decide) (fun c22 => ?_) (fun c22 => ?_)
          · skip
            refine V_bipush (v := -11) dX10_lay_34 (by decide) ?_
            refine V_iret dX10_lay_36 rfl rfl ?_
            exact hQ9
          · skip
            refine V_aloadn0 dX10_lay_25 ?_
            refine V_getR dX10_lay_26 fX10_92 (by first | assumption | rfl) (by first | decide | omega) (by first | assumption | exact ML_4 (by assumption) | exact ML_5 (by assumption) | exact ML_6 (by assumption) | exact ML_7 (by assumption) | exact ML_8 (by assumption) | exact ML_9 (by assumption) | exact ML_10 (by assumption) | exact ML_11 (by assumption) | exact ML_12 (by assumption) | exact ML_13 (by assumption) | exact ML_15 (by assumption) | exact ML_16 (by assumption) | exact ML_17 (by assumption) | exact ML_20 (by assumption) | exact ML_23 (by assumption) | exact ML_24 (by assumption) | exact ML_30 (by assumption) | exact ML_31 (by assumption) | exact ML_32 (by assumption) | exact ML_33 (by assumption) | exact ML_35 (by assumption) | exact ML_36 (by assumption) | exact ML_37 (by assumption) | exact ML_38 (by assumption) | exact ML_41 (by assumption) | exact ML_42 (by assumption) | exact ML_43 (by assumption) | exact ML_44 (by assumption) | exact ML_45 (by assumption) | rfl) ?_
            refine V_iloadn2 dX10_lay_29 ?_
            refine U_iald dX10_lay_30 (by with_reducible rfl) (by first | assumption | rfl) (by first | decide | omega) (by omega) (by first | assumption | exact ML_4 (by assumption) | exact ML_5 (by assumption) | exact ML_6 (by assumption) | exact ML_7 (by assumption) | exact ML_8 (by assumption) | exact ML_9 (by assumption) | exact ML_10 (by assumption) | exact ML_11 (by assumption) | exact ML_12 (by assumption) | exact ML_13 (by assumption) | exact ML_15 (by assumption) | exact ML_16 (by assumption) | exact ML_17 (by assumption) | exact ML_20 (by assumption) | exact ML_23 (by assumption) | exact ML_24 (by assumption) | exact ML_30 (by assumption) | exact ML_31 (by assumption) | exact ML_32 (by assumption) | exact ML_33 (by assumption) | exact ML_35 (by assumption) | exact ML_36 (by assumption) | exact ML_37 (by assumption) | exact ML_38 (by assumption) | exact ML_41 (by assumption) | exact ML_42 (by assumption) | exact ML_43 (by assumption) | exact ML_44 (by assumption) | exact ML_45 (by assumption) | rfl) ?_
            refine V_if_ge (tgt := 37) dX10_lay_31 (by decide) (fun c31 => ?_) (fun c31 => ?_)
            · skip
              exact absurd hm (fun z => z.elim c22 (fun e => bl.2.mp c31 e))
            · skip
              refine V_bipush (v := -11) dX10_lay_34 (by decide) ?_
              refine V_iret dX10_lay_36 rfl rfl ?_
              exact hQ9
        · skip
          cases c11
    rw [if_neg hm] at hQ
    have m1 : (S.1.2.2.1 q).1 ≠ 0 := fun z => hm (Or.inl z)
    have m2 : ¬ (S.2.2.2 s).1 = 0 := fun z => hm (Or.inr z)
    have x0' : gI h 120 s = nI ((S.2.2.2 s).1 - 1) := by rw [x0, soI_p m2]
    obtain ⟨u1, u2, u3⟩ := tz m1
    have u1' : gI h 96 q = nI (S.1.2.2.1 q).2.1.length := u1
    by_cases h3 : (S.2.2.2 s).1 = 3
    · rw [if_pos h3] at hQ
      have hQ9 := hQ h hR FrD.rf
      refine V_iloadn1 dX10_lay_0 ?_
      refine V_callS1 (μ' := mX10_isSlot) dX10_lay_1 okX10_isSlot lX10_114 (Nat.le_of_ble_eq_true rfl) (Nat.le_of_ble_eq_true rfl) (by omega) ?_
      refine m_isSlot (by omega) ?_
      rw [hg2.1]
      dsimp only [gPush]
      first | refine U_ifB_eq (tgt := 14) dX10_lay_4 (by decide) (by with_reducible rfl) (fun c4 => ?_) (fun c4 => ?_) | refine U_if_eq (tgt := 14) dX10_lay_4 (by decide) (by with_reducible rfl) (by omega) (fun c4 => ?_) (fun c4 => ?_) | refine V_if_eq (tgt := 14) dX10_lay_4 (by decide) (fun c4 => ?_) (fun c4 => ?_)
      · skip
        cases c4
      · skip
        refine V_iloadn2 dX10_lay_7 ?_
        refine V_callS1 (μ' := mX10_isSheet) dX10_lay_8 okX10_isSheet lX10_285 (Nat.le_of_ble_eq_true rfl) (Nat.le_of_ble_eq_true rfl) (by omega) ?_
        refine m_isSheet (by omega) ?_
        rw [hg2.2]
        dsimp only [gPush]
        first | refine U_ifB_ne (tgt := 16) dX10_lay_11 (by decide) (by with_reducible rfl) (fun c11 => ?_) (fun c11 => ?_) | refine U_if_ne (tgt := 16) dX10_lay_11 (by decide) (by with_reducible rfl) (by omega) (fun c11 => ?_) (fun c11 => ?_) | refine V_if_ne (tgt := 16) dX10_lay_11 (by decide) (fun c11 => ?_) (fun c11 => ?_)
        · skip
          refine V_aloadn0 dX10_lay_16 ?_
          refine V_getR dX10_lay_17 fX10_16 (by first | assumption | rfl) (by first | decide | omega) (by first | assumption | exact ML_4 (by assumption) | exact ML_5 (by assumption) | exact ML_6 (by assumption) | exact ML_7 (by assumption) | exact ML_8 (by assumption) | exact ML_9 (by assumption) | exact ML_10 (by assumption) | exact ML_11 (by assumption) | exact ML_12 (by assumption) | exact ML_13 (by assumption) | exact ML_15 (by assumption) | exact ML_16 (by assumption) | exact ML_17 (by assumption) | exact ML_20 (by assumption) | exact ML_23 (by assumption) | exact ML_24 (by assumption) | exact ML_30 (by assumption) | exact ML_31 (by assumption) | exact ML_32 (by assumption) | exact ML_33 (by assumption) | exact ML_35 (by assumption) | exact ML_36 (by assumption) | exact ML_37 (by assumption) | exact ML_38 (by assumption) | exact ML_41 (by assumption) | exact ML_42 (by assumption) | exact ML_43 (by assumption) | exact ML_44 (by assumption) | exact ML_45 (by assumption) | rfl) ?_
          refine V_iloadn1 dX10_lay_20 ?_
          refine U_iald dX10_lay_21 (by with_reducible rfl) (by first | assumption | rfl) (by first | decide | omega) (by omega) (by first | assumption | exact ML_4 (by assumption) | exact ML_5 (by assumption) | exact ML_6 (by assumption) | exact ML_7 (by assumption) | exact ML_8 (by assumption) | exact ML_9 (by assumption) | exact ML_10 (by assumption) | exact ML_11 (by assumption) | exact ML_12 (by assumption) | exact ML_13 (by assumption) | exact ML_15 (by assumption) | exact ML_16 (by assumption) | exact ML_17 (by assumption) | exact ML_20 (by assumption) | exact ML_23 (by assumption) | exact ML_24 (by assumption) | exact ML_30 (by assumption) | exact ML_31 (by assumption) | exact ML_32 (by assumption) | exact ML_33 (by assumption) | exact ML_35 (by assumption) | exact ML_36 (by assumption) | exact ML_37 (by assumption) | exact ML_38 (by assumption) | exact ML_41 (by assumption) | exact ML_42 (by assumption) | exact ML_43 (by assumption) | exact ML_44 (by assumption) | exact ML_45 (by assumption) | rfl) ?_
          first | refine U_ifB_eq (tgt := 34) dX10_lay_22 (by decide) (by with_reducible rfl) (fun c22 => ?_) (fun c22 => ?_) | refine U_if_eq (tgt := 34) dX10_lay_22 (by decide) (by with_reducible rfl) (by omega) (fun c22 => ?_) (fun c22 => ?_) | refine V_if_eq (tgt := 34) dX10_lay_22 (by decide) (fun c22 => ?_) (fun c22 => ?_)
          · skip
            omega
          · skip
            refine V_aloadn0 dX10_lay_25 ?_
            refine V_getR dX10_lay_26 fX10_92 (by first | assumption | rfl) (by first | decide | omega) (by first | assumption | exact ML_4 (by assumption) | exact ML_5 (by assumption) | exact ML_6 (by assumption) | exact ML_7 (by assumption) | exact ML_8 (by assumption) | exact ML_9 (by assumption) | exact ML_10 (by assumption) | exact ML_11 (by assumption) | exact ML_12 (by assumption) | exact ML_13 (by assumption) | exact ML_15 (by assumption) | exact ML_16 (by assumption) | exact ML_17 (by assumption) | exact ML_20 (by assumption) | exact ML_23 (by assumption) | exact ML_24 (by assumption) | exact ML_30 (by assumption) | exact ML_31 (by assumption) | exact ML_32 (by assumption) | exact ML_33 (by assumption) | exact ML_35 (by assumption) | exact ML_36 (by assumption) | exact ML_37 (by assumption) | exact ML_38 (by assumption) | exact ML_41 (by assumption) | exact ML_42 (by assumption) | exact ML_43 (by assumption) | exact ML_44 (by assumption) | exact ML_45 (by assumption) | rfl) ?_
            refine V_iloadn2 dX10_lay_29 ?_
            refine U_iald dX10_lay_30 (by with_reducible rfl) (by first | assumption | rfl) (by first | decide | omega) (by omega) (by first | assumption | exact ML_4 (by assumption) | exact ML_5 (by assumption) | exact ML_6 (by assumption) | exact ML_7 (by assumption) | exact ML_8 (by assumption) | exact ML_9 (by assumption) | exact ML_10 (by assumption) | exact ML_11 (by assumption) | exact ML_12 (by assumption) | exact ML_13 (by assumption) | exact ML_15 (by assumption) | exact ML_16 (by assumption) | exact ML_17 (by assumption) | exact ML_20 (by assumption) | exact ML_23 (by assumption) | exact ML_24 (by assumption) | exact ML_30 (by assumption) | exact ML_31 (by assumption) | exact ML_32 (by assumption) | exact ML_33 (by assumption) | exact ML_35 (by assumption) | exact ML_36 (by assumption) | exact ML_37 (by assumption) | exact ML_38 (by assumption) | exact ML_41 (by assumption) | exact ML_42 (by assumption) | exact ML_43 (by assumption) | exact ML_44 (by assumption) | exact ML_45 (by assumption) | rfl) ?_
            refine V_if_ge (tgt := 37) dX10_lay_31 (by decide) (fun c31 => ?_) (fun c31 => ?_)
            · skip
              refine V_aloadn0 dX10_lay_37 ?_
              refine V_getR dX10_lay_38 fX10_92 (by first | assumption | rfl) (by first | decide | omega) (by first | assumption | exact ML_4 (by assumption) | exact ML_5 (by assumption) | exact ML_6 (by assumption) | exact ML_7 (by assumption) | exact ML_8 (by assumption) | exact ML_9 (by assumption) | exact ML_10 (by assumption) | exact ML_11 (by assumption) | exact ML_12 (by assumption) | exact ML_13 (by assumption) | exact ML_15 (by assumption) | exact ML_16 (by assumption) | exact ML_17 (by assumption) | exact ML_20 (by assumption) | exact ML_23 (by assumption) | exact ML_24 (by assumption) | exact ML_30 (by assumption) | exact ML_31 (by assumption) | exact ML_32 (by assumption) | exact ML_33 (by assumption) | exact ML_35 (by assumption) | exact ML_36 (by assumption) | exact ML_37 (by assumption) | exact ML_38 (by assumption) | exact ML_41 (by assumption) | exact ML_42 (by assumption) | exact ML_43 (by assumption) | exact ML_44 (by assumption) | exact ML_45 (by assumption) | rfl) ?_
              refine V_iloadn2 dX10_lay_41 ?_
              refine U_iald dX10_lay_42 (by with_reducible rfl) (by first | assumption | rfl) (by first | decide | omega) (by omega) (by first | assumption | exact ML_4 (by assumption) | exact ML_5 (by assumption) | exact ML_6 (by assumption) | exact ML_7 (by assumption) | exact ML_8 (by assumption) | exact ML_9 (by assumption) | exact ML_10 (by assumption) | exact ML_11 (by assumption) | exact ML_12 (by assumption) | exact ML_13 (by assumption) | exact ML_15 (by assumption) | exact ML_16 (by assumption) | exact ML_17 (by assumption) | exact ML_20 (by assumption) | exact ML_23 (by assumption) | exact ML_24 (by assumption) | exact ML_30 (by assumption) | exact ML_31 (by assumption) | exact ML_32 (by assumption) | exact ML_33 (by assumption) | exact ML_35 (by assumption) | exact ML_36 (by assumption) | exact ML_37 (by assumption) | exact ML_38 (by assumption) | exact ML_41 (by assumption) | exact ML_42 (by assumption) | exact ML_43 (by assumption) | exact ML_44 (by assumption) | exact ML_45 (by assumption) | rfl) ?_
              refine V_iconst (v := nI 2) dX10_lay_43 (by decide) ?_
              first | refine U_icmp_ne (tgt := 50) dX10_lay_44 (by decide) (by with_reducible rfl) (by with_reducible rfl) (by omega) (by omega) (fun c44 => ?_) (fun c44 => ?_) | refine V_icmp_ne (tgt := 50) dX10_lay_44 (by decide) (fun c44 => ?_) (fun c44 => ?_)
              · skip
                omega
              · skip
                refine V_bipush (v := -13) dX10_lay_47 (by decide) ?_
                refine V_iret dX10_lay_49 rfl rfl ?_
                exact hQ9
            · skip
              exact absurd (nI_pos' (by omega)) c31
        · skip
          cases c11
    rw [if_neg h3] at hQ
    cases hp : hpB i (nI (S.1.2.2.1 q).2.1.length) (S.2.2.2 s).2.1 with
    | false =>
      rw [if_f hp] at hQ
      have hQ9 := hQ h hR FrD.rf
      refine V_iloadn1 dX10_lay_0 ?_
      refine V_callS1 (μ' := mX10_isSlot) dX10_lay_1 okX10_isSlot lX10_114 (Nat.le_of_ble_eq_true rfl) (Nat.le_of_ble_eq_true rfl) (by omega) ?_
      refine m_isSlot (by omega) ?_
      rw [hg2.1]
      dsimp only [gPush]
      first | refine U_ifB_eq (tgt := 14) dX10_lay_4 (by decide) (by with_reducible rfl) (fun c4 => ?_) (fun c4 => ?_) | refine U_if_eq (tgt := 14) dX10_lay_4 (by decide) (by with_reducible rfl) (by omega) (fun c4 => ?_) (fun c4 => ?_) | refine V_if_eq (tgt := 14) dX10_lay_4 (by decide) (fun c4 => ?_) (fun c4 => ?_)
      · skip
        cases c4
      · skip
        refine V_iloadn2 dX10_lay_7 ?_
        refine V_callS1 (μ' := mX10_isSheet) dX10_lay_8 okX10_isSheet lX10_285 (Nat.le_of_ble_eq_true rfl) (Nat.le_of_ble_eq_true rfl) (by omega) ?_
        refine m_isSheet (by omega) ?_
        rw [hg2.2]
        dsimp only [gPush]
        first | refine U_ifB_ne (tgt := 16) dX10_lay_11 (by decide) (by with_reducible rfl) (fun c11 => ?_) (fun c11 => ?_) | refine U_if_ne (tgt := 16) dX10_lay_11 (by decide) (by with_reducible rfl) (by omega) (fun c11 => ?_) (fun c11 => ?_) | refine V_if_ne (tgt := 16) dX10_lay_11 (by decide) (fun c11 => ?_) (fun c11 => ?_)
        · skip
          refine V_aloadn0 dX10_lay_16 ?_
          refine V_getR dX10_lay_17 fX10_16 (by first | assumption | rfl) (by first | decide | omega) (by first | assumption | exact ML_4 (by assumption) | exact ML_5 (by assumption) | exact ML_6 (by assumption) | exact ML_7 (by assumption) | exact ML_8 (by assumption) | exact ML_9 (by assumption) | exact ML_10 (by assumption) | exact ML_11 (by assumption) | exact ML_12 (by assumption) | exact ML_13 (by assumption) | exact ML_15 (by assumption) | exact ML_16 (by assumption) | exact ML_17 (by assumption) | exact ML_20 (by assumption) | exact ML_23 (by assumption) | exact ML_24 (by assumption) | exact ML_30 (by assumption) | exact ML_31 (by assumption) | exact ML_32 (by assumption) | exact ML_33 (by assumption) | exact ML_35 (by assumption) | exact ML_36 (by assumption) | exact ML_37 (by assumption) | exact ML_38 (by assumption) | exact ML_41 (by assumption) | exact ML_42 (by assumption) | exact ML_43 (by assumption) | exact ML_44 (by assumption) | exact ML_45 (by assumption) | rfl) ?_
          refine V_iloadn1 dX10_lay_20 ?_
          refine U_iald dX10_lay_21 (by with_reducible rfl) (by first | assumption | rfl) (by first | decide | omega) (by omega) (by first | assumption | exact ML_4 (by assumption) | exact ML_5 (by assumption) | exact ML_6 (by assumption) | exact ML_7 (by assumption) | exact ML_8 (by assumption) | exact ML_9 (by assumption) | exact ML_10 (by assumption) | exact ML_11 (by assumption) | exact ML_12 (by assumption) | exact ML_13 (by assumption) | exact ML_15 (by assumption) | exact ML_16 (by assumption) | exact ML_17 (by assumption) | exact ML_20 (by assumption) | exact ML_23 (by assumption) | exact ML_24 (by assumption) | exact ML_30 (by assumption) | exact ML_31 (by assumption) | exact ML_32 (by assumption) | exact ML_33 (by assumption) | exact ML_35 (by assumption) | exact ML_36 (by assumption) | exact ML_37 (by assumption) | exact ML_38 (by assumption) | exact ML_41 (by assumption) | exact ML_42 (by assumption) | exact ML_43 (by assumption) | exact ML_44 (by assumption) | exact ML_45 (by assumption) | rfl) ?_
          first | refine U_ifB_eq (tgt := 34) dX10_lay_22 (by decide) (by with_reducible rfl) (fun c22 => ?_) (fun c22 => ?_) | refine U_if_eq (tgt := 34) dX10_lay_22 (by decide) (by with_reducible rfl) (by omega) (fun c22 => ?_) (fun c22 => ?_) | refine V_if_eq (tgt := 34) dX10_lay_22 (by decide) (fun c22 => ?_) (fun c22 => ?_)
          · skip
            omega
          · skip
            refine V_aloadn0 dX10_lay_25 ?_
            refine V_getR dX10_lay_26 fX10_92 (by first | assumption | rfl) (by first | decide | omega) (by first | assumption | exact ML_4 (by assumption) | exact ML_5 (by assumption) | exact ML_6 (by assumption) | exact ML_7 (by assumption) | exact ML_8 (by assumption) | exact ML_9 (by assumption) | exact ML_10 (by assumption) | exact ML_11 (by assumption) | exact ML_12 (by assumption) | exact ML_13 (by assumption) | exact ML_15 (by assumption) | exact ML_16 (by assumption) | exact ML_17 (by assumption) | exact ML_20 (by assumption) | exact ML_23 (by assumption) | exact ML_24 (by assumption) | exact ML_30 (by assumption) | exact ML_31 (by assumption) | exact ML_32 (by assumption) | exact ML_33 (by assumption) | exact ML_35 (by assumption) | exact ML_36 (by assumption) | exact ML_37 (by assumption) | exact ML_38 (by assumption) | exact ML_41 (by assumption) | exact ML_42 (by assumption) | exact ML_43 (by assumption) | exact ML_44 (by assumption) | exact ML_45 (by assumption) | rfl) ?_
            refine V_iloadn2 dX10_lay_29 ?_
            refine U_iald dX10_lay_30 (by with_reducible rfl) (by first | assumption | rfl) (by first | decide | omega) (by omega) (by first | assumption | exact ML_4 (by assumption) | exact ML_5 (by assumption) | exact ML_6 (by assumption) | exact ML_7 (by assumption) | exact ML_8 (by assumption) | exact ML_9 (by assumption) | exact ML_10 (by assumption) | exact ML_11 (by assumption) | exact ML_12 (by assumption) | exact ML_13 (by assumption) | exact ML_15 (by assumption) | exact ML_16 (by assumption) | exact ML_17 (by assumption) | exact ML_20 (by assumption) | exact ML_23 (by assumption) | exact ML_24 (by assumption) | exact ML_30 (by assumption) | exact ML_31 (by assumption) | exact ML_32 (by assumption) | exact ML_33 (by assumption) | exact ML_35 (by assumption) | exact ML_36 (by assumption) | exact ML_37 (by assumption) | exact ML_38 (by assumption) | exact ML_41 (by assumption) | exact ML_42 (by assumption) | exact ML_43 (by assumption) | exact ML_44 (by assumption) | exact ML_45 (by assumption) | rfl) ?_
            refine V_if_ge (tgt := 37) dX10_lay_31 (by decide) (fun c31 => ?_) (fun c31 => ?_)
            · skip
              refine V_aloadn0 dX10_lay_37 ?_
              refine V_getR dX10_lay_38 fX10_92 (by first | assumption | rfl) (by first | decide | omega) (by first | assumption | exact ML_4 (by assumption) | exact ML_5 (by assumption) | exact ML_6 (by assumption) | exact ML_7 (by assumption) | exact ML_8 (by assumption) | exact ML_9 (by assumption) | exact ML_10 (by assumption) | exact ML_11 (by assumption) | exact ML_12 (by assumption) | exact ML_13 (by assumption) | exact ML_15 (by assumption) | exact ML_16 (by assumption) | exact ML_17 (by assumption) | exact ML_20 (by assumption) | exact ML_23 (by assumption) | exact ML_24 (by assumption) | exact ML_30 (by assumption) | exact ML_31 (by assumption) | exact ML_32 (by assumption) | exact ML_33 (by assumption) | exact ML_35 (by assumption) | exact ML_36 (by assumption) | exact ML_37 (by assumption) | exact ML_38 (by assumption) | exact ML_41 (by assumption) | exact ML_42 (by assumption) | exact ML_43 (by assumption) | exact ML_44 (by assumption) | exact ML_45 (by assumption) | rfl) ?_
              refine V_iloadn2 dX10_lay_41 ?_
              refine U_iald dX10_lay_42 (by with_reducible rfl) (by first | assumption | rfl) (by first | decide | omega) (by omega) (by first | assumption | exact ML_4 (by assumption) | exact ML_5 (by assumption) | exact ML_6 (by assumption) | exact ML_7 (by assumption) | exact ML_8 (by assumption) | exact ML_9 (by assumption) | exact ML_10 (by assumption) | exact ML_11 (by assumption) | exact ML_12 (by assumption) | exact ML_13 (by assumption) | exact ML_15 (by assumption) | exact ML_16 (by assumption) | exact ML_17 (by assumption) | exact ML_20 (by assumption) | exact ML_23 (by assumption) | exact ML_24 (by assumption) | exact ML_30 (by assumption) | exact ML_31 (by assumption) | exact ML_32 (by assumption) | exact ML_33 (by assumption) | exact ML_35 (by assumption) | exact ML_36 (by assumption) | exact ML_37 (by assumption) | exact ML_38 (by assumption) | exact ML_41 (by assumption) | exact ML_42 (by assumption) | exact ML_43 (by assumption) | exact ML_44 (by assumption) | exact ML_45 (by assumption) | rfl) ?_
              refine V_iconst (v := nI 2) dX10_lay_43 (by decide) ?_
              first | refine U_icmp_ne (tgt := 50) dX10_lay_44 (by decide) (by with_reducible rfl) (by with_reducible rfl) (by omega) (by omega) (fun c44 => ?_) (fun c44 => ?_) | refine V_icmp_ne (tgt := 50) dX10_lay_44 (by decide) (fun c44 => ?_) (fun c44 => ?_)
              · skip
                refine V_aloadn0 dX10_lay_50 ?_
                refine V_iloadn2 dX10_lay_51 ?_
                refine V_iloadn3 dX10_lay_52 ?_
                refine V_aloadn0 dX10_lay_53 ?_
                refine V_getR dX10_lay_54 fX10_20 (by first | assumption | rfl) (by first | decide | omega) (by first | assumption | exact ML_4 (by assumption) | exact ML_5 (by assumption) | exact ML_6 (by assumption) | exact ML_7 (by assumption) | exact ML_8 (by assumption) | exact ML_9 (by assumption) | exact ML_10 (by assumption) | exact ML_11 (by assumption) | exact ML_12 (by assumption) | exact ML_13 (by assumption) | exact ML_15 (by assumption) | exact ML_16 (by assumption) | exact ML_17 (by assumption) | exact ML_20 (by assumption) | exact ML_23 (by assumption) | exact ML_24 (by assumption) | exact ML_30 (by assumption) | exact ML_31 (by assumption) | exact ML_32 (by assumption) | exact ML_33 (by assumption) | exact ML_35 (by assumption) | exact ML_36 (by assumption) | exact ML_37 (by assumption) | exact ML_38 (by assumption) | exact ML_41 (by assumption) | exact ML_42 (by assumption) | exact ML_43 (by assumption) | exact ML_44 (by assumption) | exact ML_45 (by assumption) | rfl) ?_
                refine V_iloadn1 dX10_lay_57 ?_
                refine U_iald dX10_lay_58 (by with_reducible rfl) (by first | assumption | rfl) (by first | decide | omega) (by omega) (by first | assumption | exact ML_4 (by assumption) | exact ML_5 (by assumption) | exact ML_6 (by assumption) | exact ML_7 (by assumption) | exact ML_8 (by assumption) | exact ML_9 (by assumption) | exact ML_10 (by assumption) | exact ML_11 (by assumption) | exact ML_12 (by assumption) | exact ML_13 (by assumption) | exact ML_15 (by assumption) | exact ML_16 (by assumption) | exact ML_17 (by assumption) | exact ML_20 (by assumption) | exact ML_23 (by assumption) | exact ML_24 (by assumption) | exact ML_30 (by assumption) | exact ML_31 (by assumption) | exact ML_32 (by assumption) | exact ML_33 (by assumption) | exact ML_35 (by assumption) | exact ML_36 (by assumption) | exact ML_37 (by assumption) | exact ML_38 (by assumption) | exact ML_41 (by assumption) | exact ML_42 (by assumption) | exact ML_43 (by assumption) | exact ML_44 (by assumption) | exact ML_45 (by assumption) | rfl) ?_
                refine V_callV3 (μ' := mX10_isOutside) dX10_lay_59 okX10_isOutside lX10_292 rfl (by first | assumption | rfl) (by first | decide | omega) (Nat.le_of_ble_eq_true rfl) (Nat.le_of_ble_eq_true rfl) (by omega) ?_
                refine m_isOutside hM hs x1 ?_
                rw [hp]
                dsimp only [gPush]
                first | refine U_ifB_eq (tgt := 68) dX10_lay_62 (by decide) (by with_reducible rfl) (fun c62 => ?_) (fun c62 => ?_) | refine U_if_eq (tgt := 68) dX10_lay_62 (by decide) (by with_reducible rfl) (by omega) (fun c62 => ?_) (fun c62 => ?_) | refine V_if_eq (tgt := 68) dX10_lay_62 (by decide) (fun c62 => ?_) (fun c62 => ?_)
                · skip
                  cases c62
                · skip
                  refine V_bipush (v := -12) dX10_lay_65 (by decide) ?_
                  refine V_iret dX10_lay_67 rfl rfl ?_
                  exact hQ9
              · skip
                omega
            · skip
              exact absurd (nI_pos' (by omega)) c31
        · skip
          cases c11
    | true =>
      rw [if_t hp] at hQ
      obtain ⟨i', m', i1, m1', rfl, em, im⟩ := hp_t (by omega) hp
      have em' := (nI_eq (by omega) m1').mp em
      rw [← em'] at im
      rw [cN_nI i1] at hQ
      have loop : ∀ f p h1, p + f = (S.1.2.2.1 q).2.1.length → (∀ k, k < 40 → gI h1 122 (40 * s + k) = if i' ≤ k ∧ k < i' + p then nI ((S.1.2.2.1 q).2.1.getD (k - i') 0) else (S.2.2.2 s).2.2 k) → (∀ k, k < 40 * s ∨ 40 * s + 40 ≤ k → gI h1 122 k = gI h 122 k) → (∀ a, a ≠ 122 → gI h1 a = gI h a) → gL h1 = gL h → gR h1 = gR h → V Γ mX10_lay d 124 124 h1 71 [some (.ref 94), some (.int (nI q)), some (.int (nI s)), some (.int (nI i')), some (.int (nI p))] [] Q := by
        intro f
        induction f with
        | zero =>
          intro p h1 hpf hX o2 e l r
          have ep : p = (S.1.2.2.1 q).2.1.length := by omega
          subst ep
          have hM1 := MLay_eq hM r
          have u1'' : gI h1 96 q = nI (S.1.2.2.1 q).2.1.length := by rw [e 96 (by omega)]; exact u1'
          have fin := hQ h1 (RM_sh hR (by rw [e 120 (by omega)]; exact x0) (by rw [e 121 (by omega)]; exact x1) (fun _ k hk => hX k hk) (fun p hp => by rw [e 120 (by omega)]) (fun p hp => by rw [e 121 (by omega)]) o2 (fun a ha => e a (by omega)) (fun p hp => by rw [e 94 (by omega)]) r) ⟨fun a ha => e a (by omega), fun a ha => by rw [l], r⟩
          refine V_iloadw4 dX10_lay_71 ?_
          refine V_aloadn0 dX10_lay_73 ?_
          refine V_getR dX10_lay_74 fX10_20 (by first | assumption | rfl) (by first | decide | omega) (by first | assumption | exact ML_4 (by assumption) | exact ML_5 (by assumption) | exact ML_6 (by assumption) | exact ML_7 (by assumption) | exact ML_8 (by assumption) | exact ML_9 (by assumption) | exact ML_10 (by assumption) | exact ML_11 (by assumption) | exact ML_12 (by assumption) | exact ML_13 (by assumption) | exact ML_15 (by assumption) | exact ML_16 (by assumption) | exact ML_17 (by assumption) | exact ML_20 (by assumption) | exact ML_23 (by assumption) | exact ML_24 (by assumption) | exact ML_30 (by assumption) | exact ML_31 (by assumption) | exact ML_32 (by assumption) | exact ML_33 (by assumption) | exact ML_35 (by assumption) | exact ML_36 (by assumption) | exact ML_37 (by assumption) | exact ML_38 (by assumption) | exact ML_41 (by assumption) | exact ML_42 (by assumption) | exact ML_43 (by assumption) | exact ML_44 (by assumption) | exact ML_45 (by assumption) | rfl) ?_
          refine V_iloadn1 dX10_lay_77 ?_
          refine U_iald dX10_lay_78 (by with_reducible rfl) (by first | assumption | rfl) (by first | decide | omega) (by omega) (by first | assumption | exact ML_4 (by assumption) | exact ML_5 (by assumption) | exact ML_6 (by assumption) | exact ML_7 (by assumption) | exact ML_8 (by assumption) | exact ML_9 (by assumption) | exact ML_10 (by assumption) | exact ML_11 (by assumption) | exact ML_12 (by assumption) | exact ML_13 (by assumption) | exact ML_15 (by assumption) | exact ML_16 (by assumption) | exact ML_17 (by assumption) | exact ML_20 (by assumption) | exact ML_23 (by assumption) | exact ML_24 (by assumption) | exact ML_30 (by assumption) | exact ML_31 (by assumption) | exact ML_32 (by assumption) | exact ML_33 (by assumption) | exact ML_35 (by assumption) | exact ML_36 (by assumption) | exact ML_37 (by assumption) | exact ML_38 (by assumption) | exact ML_41 (by assumption) | exact ML_42 (by assumption) | exact ML_43 (by assumption) | exact ML_44 (by assumption) | exact ML_45 (by assumption) | rfl) ?_
          first | refine U_icmp_ge (tgt := 114) dX10_lay_79 (by decide) (by with_reducible rfl) (by with_reducible rfl) (by omega) (by omega) (fun c79 => ?_) (fun c79 => ?_) | refine V_icmp_ge (tgt := 114) dX10_lay_79 (by decide) (fun c79 => ?_) (fun c79 => ?_)
          · skip
            refine V_aloadn0 dX10_lay_114 ?_
            refine V_getR dX10_lay_115 fX10_20 (by first | assumption | rfl) (by first | decide | omega) (by first | assumption | exact ML_4 (by assumption) | exact ML_5 (by assumption) | exact ML_6 (by assumption) | exact ML_7 (by assumption) | exact ML_8 (by assumption) | exact ML_9 (by assumption) | exact ML_10 (by assumption) | exact ML_11 (by assumption) | exact ML_12 (by assumption) | exact ML_13 (by assumption) | exact ML_15 (by assumption) | exact ML_16 (by assumption) | exact ML_17 (by assumption) | exact ML_20 (by assumption) | exact ML_23 (by assumption) | exact ML_24 (by assumption) | exact ML_30 (by assumption) | exact ML_31 (by assumption) | exact ML_32 (by assumption) | exact ML_33 (by assumption) | exact ML_35 (by assumption) | exact ML_36 (by assumption) | exact ML_37 (by assumption) | exact ML_38 (by assumption) | exact ML_41 (by assumption) | exact ML_42 (by assumption) | exact ML_43 (by assumption) | exact ML_44 (by assumption) | exact ML_45 (by assumption) | rfl) ?_
            refine V_iloadn1 dX10_lay_118 ?_
            refine U_iald dX10_lay_119 (by with_reducible rfl) (by first | assumption | rfl) (by first | decide | omega) (by omega) (by first | assumption | exact ML_4 (by assumption) | exact ML_5 (by assumption) | exact ML_6 (by assumption) | exact ML_7 (by assumption) | exact ML_8 (by assumption) | exact ML_9 (by assumption) | exact ML_10 (by assumption) | exact ML_11 (by assumption) | exact ML_12 (by assumption) | exact ML_13 (by assumption) | exact ML_15 (by assumption) | exact ML_16 (by assumption) | exact ML_17 (by assumption) | exact ML_20 (by assumption) | exact ML_23 (by assumption) | exact ML_24 (by assumption) | exact ML_30 (by assumption) | exact ML_31 (by assumption) | exact ML_32 (by assumption) | exact ML_33 (by assumption) | exact ML_35 (by assumption) | exact ML_36 (by assumption) | exact ML_37 (by assumption) | exact ML_38 (by assumption) | exact ML_41 (by assumption) | exact ML_42 (by assumption) | exact ML_43 (by assumption) | exact ML_44 (by assumption) | exact ML_45 (by assumption) | rfl) ?_
            refine V_iret dX10_lay_120 rfl rfl ?_
            exact fin
          · skip
            omega
        | succ f ih =>
          intro p h1 hpf hX o2 e l r
          have hM1 := MLay_eq hM r
          have u1'' : gI h1 96 q = nI (S.1.2.2.1 q).2.1.length := by rw [e 96 (by omega)]; exact u1'
          have u2' : gI h1 97 (6 * q + p) = nI ((S.1.2.2.1 q).2.1.getD p 0) := by rw [e 97 (by omega)]; exact u2 p (by omega)
          refine V_iloadw4 dX10_lay_71 ?_
          refine V_aloadn0 dX10_lay_73 ?_
          refine V_getR dX10_lay_74 fX10_20 (by first | assumption | rfl) (by first | decide | omega) (by first | assumption | exact ML_4 (by assumption) | exact ML_5 (by assumption) | exact ML_6 (by assumption) | exact ML_7 (by assumption) | exact ML_8 (by assumption) | exact ML_9 (by assumption) | exact ML_10 (by assumption) | exact ML_11 (by assumption) | exact ML_12 (by assumption) | exact ML_13 (by assumption) | exact ML_15 (by assumption) | exact ML_16 (by assumption) | exact ML_17 (by assumption) | exact ML_20 (by assumption) | exact ML_23 (by assumption) | exact ML_24 (by assumption) | exact ML_30 (by assumption) | exact ML_31 (by assumption) | exact ML_32 (by assumption) | exact ML_33 (by assumption) | exact ML_35 (by assumption) | exact ML_36 (by assumption) | exact ML_37 (by assumption) | exact ML_38 (by assumption) | exact ML_41 (by assumption) | exact ML_42 (by assumption) | exact ML_43 (by assumption) | exact ML_44 (by assumption) | exact ML_45 (by assumption) | rfl) ?_
          refine V_iloadn1 dX10_lay_77 ?_
          refine U_iald dX10_lay_78 (by with_reducible rfl) (by first | assumption | rfl) (by first | decide | omega) (by omega) (by first | assumption | exact ML_4 (by assumption) | exact ML_5 (by assumption) | exact ML_6 (by assumption) | exact ML_7 (by assumption) | exact ML_8 (by assumption) | exact ML_9 (by assumption) | exact ML_10 (by assumption) | exact ML_11 (by assumption) | exact ML_12 (by assumption) | exact ML_13 (by assumption) | exact ML_15 (by assumption) | exact ML_16 (by assumption) | exact ML_17 (by assumption) | exact ML_20 (by assumption) | exact ML_23 (by assumption) | exact ML_24 (by assumption) | exact ML_30 (by assumption) | exact ML_31 (by assumption) | exact ML_32 (by assumption) | exact ML_33 (by assumption) | exact ML_35 (by assumption) | exact ML_36 (by assumption) | exact ML_37 (by assumption) | exact ML_38 (by assumption) | exact ML_41 (by assumption) | exact ML_42 (by assumption) | exact ML_43 (by assumption) | exact ML_44 (by assumption) | exact ML_45 (by assumption) | rfl) ?_
          first | refine U_icmp_ge (tgt := 114) dX10_lay_79 (by decide) (by with_reducible rfl) (by with_reducible rfl) (by omega) (by omega) (fun c79 => ?_) (fun c79 => ?_) | refine V_icmp_ge (tgt := 114) dX10_lay_79 (by decide) (fun c79 => ?_) (fun c79 => ?_)
          · skip
            omega
          · skip
            refine V_aloadn0 dX10_lay_82 ?_
            refine V_getR dX10_lay_83 fX10_98 (by first | assumption | rfl) (by first | decide | omega) (by first | assumption | exact ML_4 (by assumption) | exact ML_5 (by assumption) | exact ML_6 (by assumption) | exact ML_7 (by assumption) | exact ML_8 (by assumption) | exact ML_9 (by assumption) | exact ML_10 (by assumption) | exact ML_11 (by assumption) | exact ML_12 (by assumption) | exact ML_13 (by assumption) | exact ML_15 (by assumption) | exact ML_16 (by assumption) | exact ML_17 (by assumption) | exact ML_20 (by assumption) | exact ML_23 (by assumption) | exact ML_24 (by assumption) | exact ML_30 (by assumption) | exact ML_31 (by assumption) | exact ML_32 (by assumption) | exact ML_33 (by assumption) | exact ML_35 (by assumption) | exact ML_36 (by assumption) | exact ML_37 (by assumption) | exact ML_38 (by assumption) | exact ML_41 (by assumption) | exact ML_42 (by assumption) | exact ML_43 (by assumption) | exact ML_44 (by assumption) | exact ML_45 (by assumption) | rfl) ?_
            refine V_bipush (v := nI 40) dX10_lay_86 (by decide) ?_
            refine V_iloadn2 dX10_lay_88 ?_
            first | refine U_imul dX10_lay_89 (by with_reducible rfl) (by with_reducible rfl) ?_ | refine V_imul dX10_lay_89 ?_
            refine V_iloadn3 dX10_lay_90 ?_
            first | refine U_iadd dX10_lay_91 (by with_reducible rfl) (by with_reducible rfl) ?_ | refine V_iadd dX10_lay_91 ?_
            refine V_iloadw4 dX10_lay_92 ?_
            first | refine U_iadd dX10_lay_94 (by with_reducible rfl) (by with_reducible rfl) ?_ | refine V_iadd dX10_lay_94 ?_
            refine V_aloadn0 dX10_lay_95 ?_
            refine V_getR dX10_lay_96 fX10_23 (by first | assumption | rfl) (by first | decide | omega) (by first | assumption | exact ML_4 (by assumption) | exact ML_5 (by assumption) | exact ML_6 (by assumption) | exact ML_7 (by assumption) | exact ML_8 (by assumption) | exact ML_9 (by assumption) | exact ML_10 (by assumption) | exact ML_11 (by assumption) | exact ML_12 (by assumption) | exact ML_13 (by assumption) | exact ML_15 (by assumption) | exact ML_16 (by assumption) | exact ML_17 (by assumption) | exact ML_20 (by assumption) | exact ML_23 (by assumption) | exact ML_24 (by assumption) | exact ML_30 (by assumption) | exact ML_31 (by assumption) | exact ML_32 (by assumption) | exact ML_33 (by assumption) | exact ML_35 (by assumption) | exact ML_36 (by assumption) | exact ML_37 (by assumption) | exact ML_38 (by assumption) | exact ML_41 (by assumption) | exact ML_42 (by assumption) | exact ML_43 (by assumption) | exact ML_44 (by assumption) | exact ML_45 (by assumption) | rfl) ?_
            refine V_bipush (v := nI 6) dX10_lay_99 (by decide) ?_
            refine V_iloadn1 dX10_lay_101 ?_
            first | refine U_imul dX10_lay_102 (by with_reducible rfl) (by with_reducible rfl) ?_ | refine V_imul dX10_lay_102 ?_
            refine V_iloadw4 dX10_lay_103 ?_
            first | refine U_iadd dX10_lay_105 (by with_reducible rfl) (by with_reducible rfl) ?_ | refine V_iadd dX10_lay_105 ?_
            refine U_iald dX10_lay_106 (by with_reducible rfl) (by first | assumption | rfl) (by first | decide | omega) (by omega) (by first | assumption | exact ML_4 (by assumption) | exact ML_5 (by assumption) | exact ML_6 (by assumption) | exact ML_7 (by assumption) | exact ML_8 (by assumption) | exact ML_9 (by assumption) | exact ML_10 (by assumption) | exact ML_11 (by assumption) | exact ML_12 (by assumption) | exact ML_13 (by assumption) | exact ML_15 (by assumption) | exact ML_16 (by assumption) | exact ML_17 (by assumption) | exact ML_20 (by assumption) | exact ML_23 (by assumption) | exact ML_24 (by assumption) | exact ML_30 (by assumption) | exact ML_31 (by assumption) | exact ML_32 (by assumption) | exact ML_33 (by assumption) | exact ML_35 (by assumption) | exact ML_36 (by assumption) | exact ML_37 (by assumption) | exact ML_38 (by assumption) | exact ML_41 (by assumption) | exact ML_42 (by assumption) | exact ML_43 (by assumption) | exact ML_44 (by assumption) | exact ML_45 (by assumption) | rfl) ?_
            refine U_iast dX10_lay_107 (by with_reducible rfl) (by first | assumption | rfl) (by first | decide | omega) (by omega) ?_
            refine V_iinc4 dX10_lay_108 (by first | exact ginc1 _ | rfl) (by decide) rfl ?_
            refine V_goto (tgt := 71) dX10_lay_111 (by decide) ?_
            refine ih (p + 1) _ (by omega) (fun k hk => ?_) (fun k hk => by rw [gI_sI, if_neg (by omega)]; exact o2 k hk) (fun a ha => by funext b; rw [gI_sI, if_neg (fun z => ha z.1), e a ha]) l r
            rw [gI_sI]
            by_cases ek : k = i' + p
            · rw [if_pos ⟨rfl, by omega⟩, if_pos (by omega), show k - i' = p by omega]
            · rw [if_neg (by omega), hX k hk]
              by_cases e2 : i' ≤ k ∧ k < i' + p
              · rw [if_pos e2, if_pos (by omega)]
              · rw [if_neg e2, if_neg (by omega)]
      refine V_iloadn1 dX10_lay_0 ?_
      refine V_callS1 (μ' := mX10_isSlot) dX10_lay_1 okX10_isSlot lX10_114 (Nat.le_of_ble_eq_true rfl) (Nat.le_of_ble_eq_true rfl) (by omega) ?_
      refine m_isSlot (by omega) ?_
      rw [hg2.1]
      dsimp only [gPush]
      first | refine U_ifB_eq (tgt := 14) dX10_lay_4 (by decide) (by with_reducible rfl) (fun c4 => ?_) (fun c4 => ?_) | refine U_if_eq (tgt := 14) dX10_lay_4 (by decide) (by with_reducible rfl) (by omega) (fun c4 => ?_) (fun c4 => ?_) | refine V_if_eq (tgt := 14) dX10_lay_4 (by decide) (fun c4 => ?_) (fun c4 => ?_)
      · skip
        cases c4
      · skip
        refine V_iloadn2 dX10_lay_7 ?_
        refine V_callS1 (μ' := mX10_isSheet) dX10_lay_8 okX10_isSheet lX10_285 (Nat.le_of_ble_eq_true rfl) (Nat.le_of_ble_eq_true rfl) (by omega) ?_
        refine m_isSheet (by omega) ?_
        rw [hg2.2]
        dsimp only [gPush]
        first | refine U_ifB_ne (tgt := 16) dX10_lay_11 (by decide) (by with_reducible rfl) (fun c11 => ?_) (fun c11 => ?_) | refine U_if_ne (tgt := 16) dX10_lay_11 (by decide) (by with_reducible rfl) (by omega) (fun c11 => ?_) (fun c11 => ?_) | refine V_if_ne (tgt := 16) dX10_lay_11 (by decide) (fun c11 => ?_) (fun c11 => ?_)
        · skip
          refine V_aloadn0 dX10_lay_16 ?_
          refine V_getR dX10_lay_17 fX10_16 (by first | assumption | rfl) (by first | decide | omega) (by first | assumption | exact ML_4 (by assumption) | exact ML_5 (by assumption) | exact ML_6 (by assumption) | exact ML_7 (by assumption) | exact ML_8 (by assumption) | exact ML_9 (by assumption) | exact ML_10 (by assumption) | exact ML_11 (by assumption) | exact ML_12 (by assumption) | exact ML_13 (by assumption) | exact ML_15 (by assumption) | exact ML_16 (by assumption) | exact ML_17 (by assumption) | exact ML_20 (by assumption) | exact ML_23 (by assumption) | exact ML_24 (by assumption) | exact ML_30 (by assumption) | exact ML_31 (by assumption) | exact ML_32 (by assumption) | exact ML_33 (by assumption) | exact ML_35 (by assumption) | exact ML_36 (by assumption) | exact ML_37 (by assumption) | exact ML_38 (by assumption) | exact ML_41 (by assumption) | exact ML_42 (by assumption) | exact ML_43 (by assumption) | exact ML_44 (by assumption) | exact ML_45 (by assumption) | rfl) ?_
          refine V_iloadn1 dX10_lay_20 ?_
          refine U_iald dX10_lay_21 (by with_reducible rfl) (by first | assumption | rfl) (by first | decide | omega) (by omega) (by first | assumption | exact ML_4 (by assumption) | exact ML_5 (by assumption) | exact ML_6 (by assumption) | exact ML_7 (by assumption) | exact ML_8 (by assumption) | exact ML_9 (by assumption) | exact ML_10 (by assumption) | exact ML_11 (by assumption) | exact ML_12 (by assumption) | exact ML_13 (by assumption) | exact ML_15 (by assumption) | exact ML_16 (by assumption) | exact ML_17 (by assumption) | exact ML_20 (by assumption) | exact ML_23 (by assumption) | exact ML_24 (by assumption) | exact ML_30 (by assumption) | exact ML_31 (by assumption) | exact ML_32 (by assumption) | exact ML_33 (by assumption) | exact ML_35 (by assumption) | exact ML_36 (by assumption) | exact ML_37 (by assumption) | exact ML_38 (by assumption) | exact ML_41 (by assumption) | exact ML_42 (by assumption) | exact ML_43 (by assumption) | exact ML_44 (by assumption) | exact ML_45 (by assumption) | rfl) ?_
          first | refine U_ifB_eq (tgt := 34) dX10_lay_22 (by decide) (by with_reducible rfl) (fun c22 => ?_) (fun c22 => ?_) | refine U_if_eq (tgt := 34) dX10_lay_22 (by decide) (by with_reducible rfl) (by omega) (fun c22 => ?_) (fun c22 => ?_) | refine V_if_eq (tgt := 34) dX10_lay_22 (by decide) (fun c22 => ?_) (fun c22 => ?_)
          · skip
            omega
          · skip
            refine V_aloadn0 dX10_lay_25 ?_
            refine V_getR dX10_lay_26 fX10_92 (by first | assumption | rfl) (by first | decide | omega) (by first | assumption | exact ML_4 (by assumption) | exact ML_5 (by assumption) | exact ML_6 (by assumption) | exact ML_7 (by assumption) | exact ML_8 (by assumption) | exact ML_9 (by assumption) | exact ML_10 (by assumption) | exact ML_11 (by assumption) | exact ML_12 (by assumption) | exact ML_13 (by assumption) | exact ML_15 (by assumption) | exact ML_16 (by assumption) | exact ML_17 (by assumption) | exact ML_20 (by assumption) | exact ML_23 (by assumption) | exact ML_24 (by assumption) | exact ML_30 (by assumption) | exact ML_31 (by assumption) | exact ML_32 (by assumption) | exact ML_33 (by assumption) | exact ML_35 (by assumption) | exact ML_36 (by assumption) | exact ML_37 (by assumption) | exact ML_38 (by assumption) | exact ML_41 (by assumption) | exact ML_42 (by assumption) | exact ML_43 (by assumption) | exact ML_44 (by assumption) | exact ML_45 (by assumption) | rfl) ?_
            refine V_iloadn2 dX10_lay_29 ?_
            refine U_iald dX10_lay_30 (by with_reducible rfl) (by first | assumption | rfl) (by first | decide | omega) (by omega) (by first | assumption | exact ML_4 (by assumption) | exact ML_5 (by assumption) | exact ML_6 (by assumption) | exact ML_7 (by assumption) | exact ML_8 (by assumption) | exact ML_9 (by assumption) | exact ML_10 (by assumption) | exact ML_11 (by assumption) | exact ML_12 (by assumption) | exact ML_13 (by assumption) | exact ML_15 (by assumption) | exact ML_16 (by assumption) | exact ML_17 (by assumption) | exact ML_20 (by assumption) | exact ML_23 (by assumption) | exact ML_24 (by assumption) | exact ML_30 (by assumption) | exact ML_31 (by assumption) | exact ML_32 (by assumption) | exact ML_33 (by assumption) | exact ML_35 (by assumption) | exact ML_36 (by assumption) | exact ML_37 (by assumption) | exact ML_38 (by assumption) | exact ML_41 (by assumption) | exact ML_42 (by assumption) | exact ML_43 (by assumption) | exact ML_44 (by assumption) | exact ML_45 (by assumption) | rfl) ?_
            refine V_if_ge (tgt := 37) dX10_lay_31 (by decide) (fun c31 => ?_) (fun c31 => ?_)
            · skip
              refine V_aloadn0 dX10_lay_37 ?_
              refine V_getR dX10_lay_38 fX10_92 (by first | assumption | rfl) (by first | decide | omega) (by first | assumption | exact ML_4 (by assumption) | exact ML_5 (by assumption) | exact ML_6 (by assumption) | exact ML_7 (by assumption) | exact ML_8 (by assumption) | exact ML_9 (by assumption) | exact ML_10 (by assumption) | exact ML_11 (by assumption) | exact ML_12 (by assumption) | exact ML_13 (by assumption) | exact ML_15 (by assumption) | exact ML_16 (by assumption) | exact ML_17 (by assumption) | exact ML_20 (by assumption) | exact ML_23 (by assumption) | exact ML_24 (by assumption) | exact ML_30 (by assumption) | exact ML_31 (by assumption) | exact ML_32 (by assumption) | exact ML_33 (by assumption) | exact ML_35 (by assumption) | exact ML_36 (by assumption) | exact ML_37 (by assumption) | exact ML_38 (by assumption) | exact ML_41 (by assumption) | exact ML_42 (by assumption) | exact ML_43 (by assumption) | exact ML_44 (by assumption) | exact ML_45 (by assumption) | rfl) ?_
              refine V_iloadn2 dX10_lay_41 ?_
              refine U_iald dX10_lay_42 (by with_reducible rfl) (by first | assumption | rfl) (by first | decide | omega) (by omega) (by first | assumption | exact ML_4 (by assumption) | exact ML_5 (by assumption) | exact ML_6 (by assumption) | exact ML_7 (by assumption) | exact ML_8 (by assumption) | exact ML_9 (by assumption) | exact ML_10 (by assumption) | exact ML_11 (by assumption) | exact ML_12 (by assumption) | exact ML_13 (by assumption) | exact ML_15 (by assumption) | exact ML_16 (by assumption) | exact ML_17 (by assumption) | exact ML_20 (by assumption) | exact ML_23 (by assumption) | exact ML_24 (by assumption) | exact ML_30 (by assumption) | exact ML_31 (by assumption) | exact ML_32 (by assumption) | exact ML_33 (by assumption) | exact ML_35 (by assumption) | exact ML_36 (by assumption) | exact ML_37 (by assumption) | exact ML_38 (by assumption) | exact ML_41 (by assumption) | exact ML_42 (by assumption) | exact ML_43 (by assumption) | exact ML_44 (by assumption) | exact ML_45 (by assumption) | rfl) ?_
              refine V_iconst (v := nI 2) dX10_lay_43 (by decide) ?_
              first | refine U_icmp_ne (tgt := 50) dX10_lay_44 (by decide) (by with_reducible rfl) (by with_reducible rfl) (by omega) (by omega) (fun c44 => ?_) (fun c44 => ?_) | refine V_icmp_ne (tgt := 50) dX10_lay_44 (by decide) (fun c44 => ?_) (fun c44 => ?_)
              · skip
                refine V_aloadn0 dX10_lay_50 ?_
                refine V_iloadn2 dX10_lay_51 ?_
                refine V_iloadn3 dX10_lay_52 ?_
                refine V_aloadn0 dX10_lay_53 ?_
                refine V_getR dX10_lay_54 fX10_20 (by first | assumption | rfl) (by first | decide | omega) (by first | assumption | exact ML_4 (by assumption) | exact ML_5 (by assumption) | exact ML_6 (by assumption) | exact ML_7 (by assumption) | exact ML_8 (by assumption) | exact ML_9 (by assumption) | exact ML_10 (by assumption) | exact ML_11 (by assumption) | exact ML_12 (by assumption) | exact ML_13 (by assumption) | exact ML_15 (by assumption) | exact ML_16 (by assumption) | exact ML_17 (by assumption) | exact ML_20 (by assumption) | exact ML_23 (by assumption) | exact ML_24 (by assumption) | exact ML_30 (by assumption) | exact ML_31 (by assumption) | exact ML_32 (by assumption) | exact ML_33 (by assumption) | exact ML_35 (by assumption) | exact ML_36 (by assumption) | exact ML_37 (by assumption) | exact ML_38 (by assumption) | exact ML_41 (by assumption) | exact ML_42 (by assumption) | exact ML_43 (by assumption) | exact ML_44 (by assumption) | exact ML_45 (by assumption) | rfl) ?_
                refine V_iloadn1 dX10_lay_57 ?_
                refine U_iald dX10_lay_58 (by with_reducible rfl) (by first | assumption | rfl) (by first | decide | omega) (by omega) (by first | assumption | exact ML_4 (by assumption) | exact ML_5 (by assumption) | exact ML_6 (by assumption) | exact ML_7 (by assumption) | exact ML_8 (by assumption) | exact ML_9 (by assumption) | exact ML_10 (by assumption) | exact ML_11 (by assumption) | exact ML_12 (by assumption) | exact ML_13 (by assumption) | exact ML_15 (by assumption) | exact ML_16 (by assumption) | exact ML_17 (by assumption) | exact ML_20 (by assumption) | exact ML_23 (by assumption) | exact ML_24 (by assumption) | exact ML_30 (by assumption) | exact ML_31 (by assumption) | exact ML_32 (by assumption) | exact ML_33 (by assumption) | exact ML_35 (by assumption) | exact ML_36 (by assumption) | exact ML_37 (by assumption) | exact ML_38 (by assumption) | exact ML_41 (by assumption) | exact ML_42 (by assumption) | exact ML_43 (by assumption) | exact ML_44 (by assumption) | exact ML_45 (by assumption) | rfl) ?_
                refine V_callV3 (μ' := mX10_isOutside) dX10_lay_59 okX10_isOutside lX10_292 rfl (by first | assumption | rfl) (by first | decide | omega) (Nat.le_of_ble_eq_true rfl) (Nat.le_of_ble_eq_true rfl) (by omega) ?_
                refine m_isOutside hM hs x1 ?_
                rw [hp]
                dsimp only [gPush]
                first | refine U_ifB_eq (tgt := 68) dX10_lay_62 (by decide) (by with_reducible rfl) (fun c62 => ?_) (fun c62 => ?_) | refine U_if_eq (tgt := 68) dX10_lay_62 (by decide) (by with_reducible rfl) (by omega) (fun c62 => ?_) (fun c62 => ?_) | refine V_if_eq (tgt := 68) dX10_lay_62 (by decide) (fun c62 => ?_) (fun c62 => ?_)
                · skip
                  refine V_iconst (v := nI 0) dX10_lay_68 (by decide) ?_
                  refine V_istorew4 dX10_lay_69 (by decide) rfl ?_
                  exact loop _ 0 h (Nat.zero_add _) (fun k hk => by rw [if_neg (by omega)]; exact x2 m2 k hk) (fun _ _ => rfl) (fun _ _ => rfl) rfl rfl
                · skip
                  cases c62
              · skip
                omega
            · skip
              exact absurd (nI_pos' (by omega)) c31
        · skip
          cases c11
  · have eq0 : f_lay S x y i = (-1, S) := if_neg hg
    rw [eq0] at hQ
    have hQ9 := hQ h hR FrD.rf
    refine V_iloadn1 dX10_lay_0 ?_
    refine V_callS1 (μ' := mX10_isSlot) dX10_lay_1 okX10_isSlot lX10_114 (Nat.le_of_ble_eq_true rfl) (Nat.le_of_ble_eq_true rfl) (by omega) ?_
    refine m_isSlot (by omega) ?_
    dsimp only [gPush]
    first | refine U_ifB_eq (tgt := 14) dX10_lay_4 (by decide) (by with_reducible rfl) (fun c4 => ?_) (fun c4 => ?_) | refine U_if_eq (tgt := 14) dX10_lay_4 (by decide) (by with_reducible rfl) (by omega) (fun c4 => ?_) (fun c4 => ?_) | refine V_if_eq (tgt := 14) dX10_lay_4 (by decide) (fun c4 => ?_) (fun c4 => ?_)
    · skip
      refine V_iconst (v := -1) dX10_lay_14 (by decide) ?_
      refine V_iret dX10_lay_15 rfl rfl ?_
      exact hQ9
    · skip
      refine V_iloadn2 dX10_lay_7 ?_
      refine V_callS1 (μ' := mX10_isSheet) dX10_lay_8 okX10_isSheet lX10_285 (Nat.le_of_ble_eq_true rfl) (Nat.le_of_ble_eq_true rfl) (by omega) ?_
      refine m_isSheet (by omega) ?_
      dsimp only [gPush]
      first | refine U_ifB_ne (tgt := 16) dX10_lay_11 (by decide) (by with_reducible rfl) (fun c11 => ?_) (fun c11 => ?_) | refine U_if_ne (tgt := 16) dX10_lay_11 (by decide) (by with_reducible rfl) (by omega) (fun c11 => ?_) (fun c11 => ?_) | refine V_if_ne (tgt := 16) dX10_lay_11 (by decide) (fun c11 => ?_) (fun c11 => ?_)
      · skip
        exact absurd (by rw [c4, c11]; rfl) hg
      · skip
        refine V_iconst (v := -1) dX10_lay_14 (by decide) ?_
        refine V_iret dX10_lay_15 rfl rfl ?_
        exact hQ9

set_option maxRecDepth 100000 in
set_option maxHeartbeats 4000000 in
theorem m_take {x i k y : Int32} (hd : 2 ≤ d) (hR : RM h S) (hWG : WG S) (hQ : ∀ h', RM h' (f_take S x i k y).2 → FrD h h' → Q (some (.int (f_take S x i k y).1)) h') : V Γ mX10_take d 124 124 h 0 [some (.ref 94), some (.int x), some (.int i), some (.int k), some (.int y), none, none] [] Q := by
  obtain ⟨hM, ⟨r0, r1, rT, rW⟩, rK, rK2, rB, rS⟩ := id hR
  obtain ⟨hWS, hWK, hWB, hWX⟩ := id hWG
  have hn2 := hWS.1
  have hn5 := hWS.2.1
  by_cases hg : (inB x 4 && (inR k 0 6 && inB y 6)) = true
  · have hg2 := hg
    rw [Bool.and_eq_true, Bool.and_eq_true] at hg2
    obtain ⟨s, hs, rfl⟩ := inB_t (by decide) hg2.1
    obtain ⟨m, m0, m6, rfl⟩ := inR_t (by decide) (by decide) hg2.2.1
    obtain ⟨q, hq, rfl⟩ := inB_t (by decide) hg2.2.2
    obtain ⟨x0, x1, x2⟩ := rS s hs
    obtain ⟨b1, b2, b3⟩ := hWX s hs
    have bl := soI_lt b1
    have eq0 : f_take S (nI s) i (nI m) (nI q) = _ := if_t hg
    rw [eq0, cN_nI (by omega), cN_nI (by omega)] at hQ
    have eA : tkA S (nI s) i (nI m) = (List.range m).all (fun p => inR ((S.2.2.2 s).2.2 (cN i + p)) 1 S.1.1) := by unfold tkA; rw [cN_nI (by omega), cN_nI (by omega)]
    have eW : tkW S (nI s) i (nI m) = (List.range m).map (fun p => cN ((S.2.2.2 s).2.2 (cN i + p))) := by unfold tkW; rw [cN_nI (by omega), cN_nI (by omega)]
    by_cases hm : (S.2.2.2 s).1 = 0
    · rw [if_pos hm] at hQ
      have hQ9 := hQ h hR FrD.rf
      refine V_iloadn1 dX10_take_0 ?_
      refine V_callS1 (μ' := mX10_isSheet) dX10_take_1 okX10_isSheet lX10_285 (Nat.le_of_ble_eq_true rfl) (Nat.le_of_ble_eq_true rfl) (by omega) ?_
      refine m_isSheet (by omega) ?_
      rw [hg2.1]
      dsimp only [gPush]
      first | refine U_ifB_eq (tgt := 25) dX10_take_4 (by decide) (by with_reducible rfl) (fun c4 => ?_) (fun c4 => ?_) | refine U_if_eq (tgt := 25) dX10_take_4 (by decide) (by with_reducible rfl) (by omega) (fun c4 => ?_) (fun c4 => ?_) | refine V_if_eq (tgt := 25) dX10_take_4 (by decide) (fun c4 => ?_) (fun c4 => ?_)
      · skip
        cases c4
      · skip
        refine V_iloadn3 dX10_take_7 ?_
        refine V_iconst (v := nI 0) dX10_take_8 (by decide) ?_
        refine V_bipush (v := nI 6) dX10_take_9 (by decide) ?_
        refine V_callS3 (μ' := mX10_in) dX10_take_11 okX10_in lX10_104 (Nat.le_of_ble_eq_true rfl) (Nat.le_of_ble_eq_true rfl) (by omega) ?_
        refine m_inR ?_
        rw [hg2.2.1]
        dsimp only [gPush]
        first | refine U_ifB_eq (tgt := 25) dX10_take_14 (by decide) (by with_reducible rfl) (fun c14 => ?_) (fun c14 => ?_) | refine U_if_eq (tgt := 25) dX10_take_14 (by decide) (by with_reducible rfl) (by omega) (fun c14 => ?_) (fun c14 => ?_) | refine V_if_eq (tgt := 25) dX10_take_14 (by decide) (fun c14 => ?_) (fun c14 => ?_)
        · skip
          cases c14
        · skip
          refine V_iloadw4 dX10_take_17 ?_
          refine V_callS1 (μ' := mX10_isSlot) dX10_take_19 okX10_isSlot lX10_114 (Nat.le_of_ble_eq_true rfl) (Nat.le_of_ble_eq_true rfl) (by omega) ?_
          refine m_isSlot (by omega) ?_
          rw [hg2.2.2]
          dsimp only [gPush]
          first | refine U_ifB_ne (tgt := 27) dX10_take_22 (by decide) (by with_reducible rfl) (fun c22 => ?_) (fun c22 => ?_) | refine U_if_ne (tgt := 27) dX10_take_22 (by decide) (by with_reducible rfl) (by omega) (fun c22 => ?_) (fun c22 => ?_) | refine V_if_ne (tgt := 27) dX10_take_22 (by decide) (fun c22 => ?_) (fun c22 => ?_)
          · skip
            refine V_aloadn0 dX10_take_27 ?_
            refine V_getR dX10_take_28 fX10_92 (by first | assumption | rfl) (by first | decide | omega) (by first | assumption | exact ML_4 (by assumption) | exact ML_5 (by assumption) | exact ML_6 (by assumption) | exact ML_7 (by assumption) | exact ML_8 (by assumption) | exact ML_9 (by assumption) | exact ML_10 (by assumption) | exact ML_11 (by assumption) | exact ML_12 (by assumption) | exact ML_13 (by assumption) | exact ML_15 (by assumption) | exact ML_16 (by assumption) | exact ML_17 (by assumption) | exact ML_20 (by assumption) | exact ML_23 (by assumption) | exact ML_24 (by assumption) | exact ML_30 (by assumption) | exact ML_31 (by assumption) | exact ML_32 (by assumption) | exact ML_33 (by assumption) | exact ML_35 (by assumption) | exact ML_36 (by assumption) | exact ML_37 (by assumption) | exact ML_38 (by assumption) | exact ML_41 (by assumption) | exact ML_42 (by assumption) | exact ML_43 (by assumption) | exact ML_44 (by assumption) | exact ML_45 (by assumption) | rfl) ?_
            refine V_iloadn1 dX10_take_31 ?_
            refine U_iald dX10_take_32 (by with_reducible rfl) (by first | assumption | rfl) (by first | decide | omega) (by omega) (by first | assumption | exact ML_4 (by assumption) | exact ML_5 (by assumption) | exact ML_6 (by assumption) | exact ML_7 (by assumption) | exact ML_8 (by assumption) | exact ML_9 (by assumption) | exact ML_10 (by assumption) | exact ML_11 (by assumption) | exact ML_12 (by assumption) | exact ML_13 (by assumption) | exact ML_15 (by assumption) | exact ML_16 (by assumption) | exact ML_17 (by assumption) | exact ML_20 (by assumption) | exact ML_23 (by assumption) | exact ML_24 (by assumption) | exact ML_30 (by assumption) | exact ML_31 (by assumption) | exact ML_32 (by assumption) | exact ML_33 (by assumption) | exact ML_35 (by assumption) | exact ML_36 (by assumption) | exact ML_37 (by assumption) | exact ML_38 (by assumption) | exact ML_41 (by assumption) | exact ML_42 (by assumption) | exact ML_43 (by assumption) | exact ML_44 (by assumption) | exact ML_45 (by assumption) | rfl) ?_
            refine V_if_lt (tgt := 46) dX10_take_33 (by decide) (fun c33 => ?_) (fun c33 => ?_)
            · skip
              refine V_aloadn0 dX10_take_46 ?_
              refine V_getR dX10_take_47 fX10_92 (by first | assumption | rfl) (by first | decide | omega) (by first | assumption | exact ML_4 (by assumption) | exact ML_5 (by assumption) | exact ML_6 (by assumption) | exact ML_7 (by assumption) | exact ML_8 (by assumption) | exact ML_9 (by assumption) | exact ML_10 (by assumption) | exact ML_11 (by assumption) | exact ML_12 (by assumption) | exact ML_13 (by assumption) | exact ML_15 (by assumption) | exact ML_16 (by assumption) | exact ML_17 (by assumption) | exact ML_20 (by assumption) | exact ML_23 (by assumption) | exact ML_24 (by assumption) | exact ML_30 (by assumption) | exact ML_31 (by assumption) | exact ML_32 (by assumption) | exact ML_33 (by assumption) | exact ML_35 (by assumption) | exact ML_36 (by assumption) | exact ML_37 (by assumption) | exact ML_38 (by assumption) | exact ML_41 (by assumption) | exact ML_42 (by assumption) | exact ML_43 (by assumption) | exact ML_44 (by assumption) | exact ML_45 (by assumption) | rfl) ?_
              refine V_iloadn1 dX10_take_50 ?_
              refine U_iald dX10_take_51 (by with_reducible rfl) (by first | assumption | rfl) (by first | decide | omega) (by omega) (by first | assumption | exact ML_4 (by assumption) | exact ML_5 (by assumption) | exact ML_6 (by assumption) | exact ML_7 (by assumption) | exact ML_8 (by assumption) | exact ML_9 (by assumption) | exact ML_10 (by assumption) | exact ML_11 (by assumption) | exact ML_12 (by assumption) | exact ML_13 (by assumption) | exact ML_15 (by assumption) | exact ML_16 (by assumption) | exact ML_17 (by assumption) | exact ML_20 (by assumption) | exact ML_23 (by assumption) | exact ML_24 (by assumption) | exact ML_30 (by assumption) | exact ML_31 (by assumption) | exact ML_32 (by assumption) | exact ML_33 (by assumption) | exact ML_35 (by assumption) | exact ML_36 (by assumption) | exact ML_37 (by assumption) | exact ML_38 (by assumption) | exact ML_41 (by assumption) | exact ML_42 (by assumption) | exact ML_43 (by assumption) | exact ML_44 (by assumption) | exact ML_45 (by assumption) | rfl) ?_
              refine V_if_ge (tgt := 60) dX10_take_52 (by decide) (fun c52 => ?_) (fun c52 => ?_)
              · skip
                exact absurd c52 (Int32.not_le.mpr (bl.1.mpr hm))
              · skip
                refine V_bipush (v := -11) dX10_take_55 (by decide) ?_
                refine V_goto (tgt := 62) dX10_take_57 (by decide) ?_
                refine V_iret dX10_take_62 rfl rfl ?_
                exact hQ9
            · skip
              exact absurd (bl.1.mpr hm) c33
          · skip
            cases c22
    rw [if_neg hm] at hQ
    have x0' : gI h 120 s = nI ((S.2.2.2 s).1 - 1) := by rw [x0, soI_p hm]
    by_cases h3 : (S.2.2.2 s).1 = 3
    · rw [if_pos h3] at hQ
      have hQ9 := hQ h hR FrD.rf
      refine V_iloadn1 dX10_take_0 ?_
      refine V_callS1 (μ' := mX10_isSheet) dX10_take_1 okX10_isSheet lX10_285 (Nat.le_of_ble_eq_true rfl) (Nat.le_of_ble_eq_true rfl) (by omega) ?_
      refine m_isSheet (by omega) ?_
      rw [hg2.1]
      dsimp only [gPush]
      first | refine U_ifB_eq (tgt := 25) dX10_take_4 (by decide) (by with_reducible rfl) (fun c4 => ?_) (fun c4 => ?_) | refine U_if_eq (tgt := 25) dX10_take_4 (by decide) (by with_reducible rfl) (by omega) (fun c4 => ?_) (fun c4 => ?_) | refine V_if_eq (tgt := 25) dX10_take_4 (by decide) (fun c4 => ?_) (fun c4 => ?_)
      · skip
        cases c4
      · skip
        refine V_iloadn3 dX10_take_7 ?_
        refine V_iconst (v := nI 0) dX10_take_8 (by decide) ?_
        refine V_bipush (v := nI 6) dX10_take_9 (by decide) ?_
        refine V_callS3 (μ' := mX10_in) dX10_take_11 okX10_in lX10_104 (Nat.le_of_ble_eq_true rfl) (Nat.le_of_ble_eq_true rfl) (by omega) ?_
        refine m_inR ?_
        rw [hg2.2.1]
        dsimp only [gPush]
        first | refine U_ifB_eq (tgt := 25) dX10_take_14 (by decide) (by with_reducible rfl) (fun c14 => ?_) (fun c14 => ?_) | refine U_if_eq (tgt := 25) dX10_take_14 (by decide) (by with_reducible rfl) (by omega) (fun c14 => ?_) (fun c14 => ?_) | refine V_if_eq (tgt := 25) dX10_take_14 (by decide) (fun c14 => ?_) (fun c14 => ?_)
        · skip
          cases c14
        · skip
          refine V_iloadw4 dX10_take_17 ?_
          refine V_callS1 (μ' := mX10_isSlot) dX10_take_19 okX10_isSlot lX10_114 (Nat.le_of_ble_eq_true rfl) (Nat.le_of_ble_eq_true rfl) (by omega) ?_
          refine m_isSlot (by omega) ?_
          rw [hg2.2.2]
          dsimp only [gPush]
          first | refine U_ifB_ne (tgt := 27) dX10_take_22 (by decide) (by with_reducible rfl) (fun c22 => ?_) (fun c22 => ?_) | refine U_if_ne (tgt := 27) dX10_take_22 (by decide) (by with_reducible rfl) (by omega) (fun c22 => ?_) (fun c22 => ?_) | refine V_if_ne (tgt := 27) dX10_take_22 (by decide) (fun c22 => ?_) (fun c22 => ?_)
          · skip
            refine V_aloadn0 dX10_take_27 ?_
            refine V_getR dX10_take_28 fX10_92 (by first | assumption | rfl) (by first | decide | omega) (by first | assumption | exact ML_4 (by assumption) | exact ML_5 (by assumption) | exact ML_6 (by assumption) | exact ML_7 (by assumption) | exact ML_8 (by assumption) | exact ML_9 (by assumption) | exact ML_10 (by assumption) | exact ML_11 (by assumption) | exact ML_12 (by assumption) | exact ML_13 (by assumption) | exact ML_15 (by assumption) | exact ML_16 (by assumption) | exact ML_17 (by assumption) | exact ML_20 (by assumption) | exact ML_23 (by assumption) | exact ML_24 (by assumption) | exact ML_30 (by assumption) | exact ML_31 (by assumption) | exact ML_32 (by assumption) | exact ML_33 (by assumption) | exact ML_35 (by assumption) | exact ML_36 (by assumption) | exact ML_37 (by assumption) | exact ML_38 (by assumption) | exact ML_41 (by assumption) | exact ML_42 (by assumption) | exact ML_43 (by assumption) | exact ML_44 (by assumption) | exact ML_45 (by assumption) | rfl) ?_
            refine V_iloadn1 dX10_take_31 ?_
            refine U_iald dX10_take_32 (by with_reducible rfl) (by first | assumption | rfl) (by first | decide | omega) (by omega) (by first | assumption | exact ML_4 (by assumption) | exact ML_5 (by assumption) | exact ML_6 (by assumption) | exact ML_7 (by assumption) | exact ML_8 (by assumption) | exact ML_9 (by assumption) | exact ML_10 (by assumption) | exact ML_11 (by assumption) | exact ML_12 (by assumption) | exact ML_13 (by assumption) | exact ML_15 (by assumption) | exact ML_16 (by assumption) | exact ML_17 (by assumption) | exact ML_20 (by assumption) | exact ML_23 (by assumption) | exact ML_24 (by assumption) | exact ML_30 (by assumption) | exact ML_31 (by assumption) | exact ML_32 (by assumption) | exact ML_33 (by assumption) | exact ML_35 (by assumption) | exact ML_36 (by assumption) | exact ML_37 (by assumption) | exact ML_38 (by assumption) | exact ML_41 (by assumption) | exact ML_42 (by assumption) | exact ML_43 (by assumption) | exact ML_44 (by assumption) | exact ML_45 (by assumption) | rfl) ?_
            refine V_if_lt (tgt := 46) dX10_take_33 (by decide) (fun c33 => ?_) (fun c33 => ?_)
            · skip
              exact absurd c33 (nI_pos (by omega))
            · skip
              refine V_aloadn0 dX10_take_36 ?_
              refine V_getR dX10_take_37 fX10_92 (by first | assumption | rfl) (by first | decide | omega) (by first | assumption | exact ML_4 (by assumption) | exact ML_5 (by assumption) | exact ML_6 (by assumption) | exact ML_7 (by assumption) | exact ML_8 (by assumption) | exact ML_9 (by assumption) | exact ML_10 (by assumption) | exact ML_11 (by assumption) | exact ML_12 (by assumption) | exact ML_13 (by assumption) | exact ML_15 (by assumption) | exact ML_16 (by assumption) | exact ML_17 (by assumption) | exact ML_20 (by assumption) | exact ML_23 (by assumption) | exact ML_24 (by assumption) | exact ML_30 (by assumption) | exact ML_31 (by assumption) | exact ML_32 (by assumption) | exact ML_33 (by assumption) | exact ML_35 (by assumption) | exact ML_36 (by assumption) | exact ML_37 (by assumption) | exact ML_38 (by assumption) | exact ML_41 (by assumption) | exact ML_42 (by assumption) | exact ML_43 (by assumption) | exact ML_44 (by assumption) | exact ML_45 (by assumption) | rfl) ?_
              refine V_iloadn1 dX10_take_40 ?_
              refine U_iald dX10_take_41 (by with_reducible rfl) (by first | assumption | rfl) (by first | decide | omega) (by omega) (by first | assumption | exact ML_4 (by assumption) | exact ML_5 (by assumption) | exact ML_6 (by assumption) | exact ML_7 (by assumption) | exact ML_8 (by assumption) | exact ML_9 (by assumption) | exact ML_10 (by assumption) | exact ML_11 (by assumption) | exact ML_12 (by assumption) | exact ML_13 (by assumption) | exact ML_15 (by assumption) | exact ML_16 (by assumption) | exact ML_17 (by assumption) | exact ML_20 (by assumption) | exact ML_23 (by assumption) | exact ML_24 (by assumption) | exact ML_30 (by assumption) | exact ML_31 (by assumption) | exact ML_32 (by assumption) | exact ML_33 (by assumption) | exact ML_35 (by assumption) | exact ML_36 (by assumption) | exact ML_37 (by assumption) | exact ML_38 (by assumption) | exact ML_41 (by assumption) | exact ML_42 (by assumption) | exact ML_43 (by assumption) | exact ML_44 (by assumption) | exact ML_45 (by assumption) | rfl) ?_
              refine V_iconst (v := nI 2) dX10_take_42 (by decide) ?_
              first | refine U_icmp_ne (tgt := 63) dX10_take_43 (by decide) (by with_reducible rfl) (by with_reducible rfl) (by omega) (by omega) (fun c43 => ?_) (fun c43 => ?_) | refine V_icmp_ne (tgt := 63) dX10_take_43 (by decide) (fun c43 => ?_) (fun c43 => ?_)
              · skip
                omega
              · skip
                refine V_aloadn0 dX10_take_46 ?_
                refine V_getR dX10_take_47 fX10_92 (by first | assumption | rfl) (by first | decide | omega) (by first | assumption | exact ML_4 (by assumption) | exact ML_5 (by assumption) | exact ML_6 (by assumption) | exact ML_7 (by assumption) | exact ML_8 (by assumption) | exact ML_9 (by assumption) | exact ML_10 (by assumption) | exact ML_11 (by assumption) | exact ML_12 (by assumption) | exact ML_13 (by assumption) | exact ML_15 (by assumption) | exact ML_16 (by assumption) | exact ML_17 (by assumption) | exact ML_20 (by assumption) | exact ML_23 (by assumption) | exact ML_24 (by assumption) | exact ML_30 (by assumption) | exact ML_31 (by assumption) | exact ML_32 (by assumption) | exact ML_33 (by assumption) | exact ML_35 (by assumption) | exact ML_36 (by assumption) | exact ML_37 (by assumption) | exact ML_38 (by assumption) | exact ML_41 (by assumption) | exact ML_42 (by assumption) | exact ML_43 (by assumption) | exact ML_44 (by assumption) | exact ML_45 (by assumption) | rfl) ?_
                refine V_iloadn1 dX10_take_50 ?_
                refine U_iald dX10_take_51 (by with_reducible rfl) (by first | assumption | rfl) (by first | decide | omega) (by omega) (by first | assumption | exact ML_4 (by assumption) | exact ML_5 (by assumption) | exact ML_6 (by assumption) | exact ML_7 (by assumption) | exact ML_8 (by assumption) | exact ML_9 (by assumption) | exact ML_10 (by assumption) | exact ML_11 (by assumption) | exact ML_12 (by assumption) | exact ML_13 (by assumption) | exact ML_15 (by assumption) | exact ML_16 (by assumption) | exact ML_17 (by assumption) | exact ML_20 (by assumption) | exact ML_23 (by assumption) | exact ML_24 (by assumption) | exact ML_30 (by assumption) | exact ML_31 (by assumption) | exact ML_32 (by assumption) | exact ML_33 (by assumption) | exact ML_35 (by assumption) | exact ML_36 (by assumption) | exact ML_37 (by assumption) | exact ML_38 (by assumption) | exact ML_41 (by assumption) | exact ML_42 (by assumption) | exact ML_43 (by assumption) | exact ML_44 (by assumption) | exact ML_45 (by assumption) | rfl) ?_
                refine V_if_ge (tgt := 60) dX10_take_52 (by decide) (fun c52 => ?_) (fun c52 => ?_)
                · skip
                  refine V_bipush (v := -13) dX10_take_60 (by decide) ?_
                  refine V_iret dX10_take_62 rfl rfl ?_
                  exact hQ9
                · skip
                  exact absurd (nI_pos' (by omega)) c52
          · skip
            cases c22
    rw [if_neg h3] at hQ
    cases hp : hpB i (nI m) (S.2.2.2 s).2.1 with
    | false =>
      rw [if_f hp] at hQ
      have hQ9 := hQ h hR FrD.rf
      refine V_iloadn1 dX10_take_0 ?_
      refine V_callS1 (μ' := mX10_isSheet) dX10_take_1 okX10_isSheet lX10_285 (Nat.le_of_ble_eq_true rfl) (Nat.le_of_ble_eq_true rfl) (by omega) ?_
      refine m_isSheet (by omega) ?_
      rw [hg2.1]
      dsimp only [gPush]
      first | refine U_ifB_eq (tgt := 25) dX10_take_4 (by decide) (by with_reducible rfl) (fun c4 => ?_) (fun c4 => ?_) | refine U_if_eq (tgt := 25) dX10_take_4 (by decide) (by with_reducible rfl) (by omega) (fun c4 => ?_) (fun c4 => ?_) | refine V_if_eq (tgt := 25) dX10_take_4 (by decide) (fun c4 => ?_) (fun c4 => ?_)
      · skip
        cases c4
      · skip
        refine V_iloadn3 dX10_take_7 ?_
        refine V_iconst (v := nI 0) dX10_take_8 (by decide) ?_
        refine V_bipush (v := nI 6) dX10_take_9 (by decide) ?_
        refine V_callS3 (μ' := mX10_in) dX10_take_11 okX10_in lX10_104 (Nat.le_of_ble_eq_true rfl) (Nat.le_of_ble_eq_true rfl) (by omega) ?_
        refine m_inR ?_
        rw [hg2.2.1]
        dsimp only [gPush]
        first | refine U_ifB_eq (tgt := 25) dX10_take_14 (by decide) (by with_reducible rfl) (fun c14 => ?_) (fun c14 => ?_) | refine U_if_eq (tgt := 25) dX10_take_14 (by decide) (by with_reducible rfl) (by omega) (fun c14 => ?_) (fun c14 => ?_) | refine V_if_eq (tgt := 25) dX10_take_14 (by decide) (fun c14 => ?_) (fun c14 => ?_)
        · skip
          cases c14
        · skip
          refine V_iloadw4 dX10_take_17 ?_
          refine V_callS1 (μ' := mX10_isSlot) dX10_take_19 okX10_isSlot lX10_114 (Nat.le_of_ble_eq_true rfl) (Nat.le_of_ble_eq_true rfl) (by omega) ?_
          refine m_isSlot (by omega) ?_
          rw [hg2.2.2]
          dsimp only [gPush]
          first | refine U_ifB_ne (tgt := 27) dX10_take_22 (by decide) (by with_reducible rfl) (fun c22 => ?_) (fun c22 => ?_) | refine U_if_ne (tgt := 27) dX10_take_22 (by decide) (by with_reducible rfl) (by omega) (fun c22 => ?_) (fun c22 => ?_) | refine V_if_ne (tgt := 27) dX10_take_22 (by decide) (fun c22 => ?_) (fun c22 => ?_)
          · skip
            refine V_aloadn0 dX10_take_27 ?_
            refine V_getR dX10_take_28 fX10_92 (by first | assumption | rfl) (by first | decide | omega) (by first | assumption | exact ML_4 (by assumption) | exact ML_5 (by assumption) | exact ML_6 (by assumption) | exact ML_7 (by assumption) | exact ML_8 (by assumption) | exact ML_9 (by assumption) | exact ML_10 (by assumption) | exact ML_11 (by assumption) | exact ML_12 (by assumption) | exact ML_13 (by assumption) | exact ML_15 (by assumption) | exact ML_16 (by assumption) | exact ML_17 (by assumption) | exact ML_20 (by assumption) | exact ML_23 (by assumption) | exact ML_24 (by assumption) | exact ML_30 (by assumption) | exact ML_31 (by assumption) | exact ML_32 (by assumption) | exact ML_33 (by assumption) | exact ML_35 (by assumption) | exact ML_36 (by assumption) | exact ML_37 (by assumption) | exact ML_38 (by assumption) | exact ML_41 (by assumption) | exact ML_42 (by assumption) | exact ML_43 (by assumption) | exact ML_44 (by assumption) | exact ML_45 (by assumption) | rfl) ?_
            refine V_iloadn1 dX10_take_31 ?_
            refine U_iald dX10_take_32 (by with_reducible rfl) (by first | assumption | rfl) (by first | decide | omega) (by omega) (by first | assumption | exact ML_4 (by assumption) | exact ML_5 (by assumption) | exact ML_6 (by assumption) | exact ML_7 (by assumption) | exact ML_8 (by assumption) | exact ML_9 (by assumption) | exact ML_10 (by assumption) | exact ML_11 (by assumption) | exact ML_12 (by assumption) | exact ML_13 (by assumption) | exact ML_15 (by assumption) | exact ML_16 (by assumption) | exact ML_17 (by assumption) | exact ML_20 (by assumption) | exact ML_23 (by assumption) | exact ML_24 (by assumption) | exact ML_30 (by assumption) | exact ML_31 (by assumption) | exact ML_32 (by assumption) | exact ML_33 (by assumption) | exact ML_35 (by assumption) | exact ML_36 (by assumption) | exact ML_37 (by assumption) | exact ML_38 (by assumption) | exact ML_41 (by assumption) | exact ML_42 (by assumption) | exact ML_43 (by assumption) | exact ML_44 (by assumption) | exact ML_45 (by assumption) | rfl) ?_
            refine V_if_lt (tgt := 46) dX10_take_33 (by decide) (fun c33 => ?_) (fun c33 => ?_)
            · skip
              exact absurd c33 (nI_pos (by omega))
            · skip
              refine V_aloadn0 dX10_take_36 ?_
              refine V_getR dX10_take_37 fX10_92 (by first | assumption | rfl) (by first | decide | omega) (by first | assumption | exact ML_4 (by assumption) | exact ML_5 (by assumption) | exact ML_6 (by assumption) | exact ML_7 (by assumption) | exact ML_8 (by assumption) | exact ML_9 (by assumption) | exact ML_10 (by assumption) | exact ML_11 (by assumption) | exact ML_12 (by assumption) | exact ML_13 (by assumption) | exact ML_15 (by assumption) | exact ML_16 (by assumption) | exact ML_17 (by assumption) | exact ML_20 (by assumption) | exact ML_23 (by assumption) | exact ML_24 (by assumption) | exact ML_30 (by assumption) | exact ML_31 (by assumption) | exact ML_32 (by assumption) | exact ML_33 (by assumption) | exact ML_35 (by assumption) | exact ML_36 (by assumption) | exact ML_37 (by assumption) | exact ML_38 (by assumption) | exact ML_41 (by assumption) | exact ML_42 (by assumption) | exact ML_43 (by assumption) | exact ML_44 (by assumption) | exact ML_45 (by assumption) | rfl) ?_
              refine V_iloadn1 dX10_take_40 ?_
              refine U_iald dX10_take_41 (by with_reducible rfl) (by first | assumption | rfl) (by first | decide | omega) (by omega) (by first | assumption | exact ML_4 (by assumption) | exact ML_5 (by assumption) | exact ML_6 (by assumption) | exact ML_7 (by assumption) | exact ML_8 (by assumption) | exact ML_9 (by assumption) | exact ML_10 (by assumption) | exact ML_11 (by assumption) | exact ML_12 (by assumption) | exact ML_13 (by assumption) | exact ML_15 (by assumption) | exact ML_16 (by assumption) | exact ML_17 (by assumption) | exact ML_20 (by assumption) | exact ML_23 (by assumption) | exact ML_24 (by assumption) | exact ML_30 (by assumption) | exact ML_31 (by assumption) | exact ML_32 (by assumption) | exact ML_33 (by assumption) | exact ML_35 (by assumption) | exact ML_36 (by assumption) | exact ML_37 (by assumption) | exact ML_38 (by assumption) | exact ML_41 (by assumption) | exact ML_42 (by assumption) | exact ML_43 (by assumption) | exact ML_44 (by assumption) | exact ML_45 (by assumption) | rfl) ?_
              refine V_iconst (v := nI 2) dX10_take_42 (by decide) ?_
              first | refine U_icmp_ne (tgt := 63) dX10_take_43 (by decide) (by with_reducible rfl) (by with_reducible rfl) (by omega) (by omega) (fun c43 => ?_) (fun c43 => ?_) | refine V_icmp_ne (tgt := 63) dX10_take_43 (by decide) (fun c43 => ?_) (fun c43 => ?_)
              · skip
                refine V_aloadn0 dX10_take_63 ?_
                refine V_iloadn1 dX10_take_64 ?_
                refine V_iloadn2 dX10_take_65 ?_
                refine V_iloadn3 dX10_take_66 ?_
                refine V_callV3 (μ' := mX10_isOutside) dX10_take_67 okX10_isOutside lX10_292 rfl (by first | assumption | rfl) (by first | decide | omega) (Nat.le_of_ble_eq_true rfl) (Nat.le_of_ble_eq_true rfl) (by omega) ?_
                refine m_isOutside hM hs x1 ?_
                rw [hp]
                dsimp only [gPush]
                first | refine U_ifB_eq (tgt := 76) dX10_take_70 (by decide) (by with_reducible rfl) (fun c70 => ?_) (fun c70 => ?_) | refine U_if_eq (tgt := 76) dX10_take_70 (by decide) (by with_reducible rfl) (by omega) (fun c70 => ?_) (fun c70 => ?_) | refine V_if_eq (tgt := 76) dX10_take_70 (by decide) (fun c70 => ?_) (fun c70 => ?_)
                · skip
                  cases c70
                · skip
                  refine V_bipush (v := -12) dX10_take_73 (by decide) ?_
                  refine V_iret dX10_take_75 rfl rfl ?_
                  exact hQ9
              · skip
                omega
          · skip
            cases c22
    | true =>
      rw [if_t hp] at hQ
      obtain ⟨i', m', i1, m1', rfl, em, im⟩ := hp_t (by omega) hp
      have em' := (nI_eq (by omega) m1').mp em
      rw [← em'] at im
      rw [cN_nI i1] at eA eW
      rw [eA, eW] at hQ
      generalize hWW : (List.range m).map (fun p => cN ((S.2.2.2 s).2.2 (i' + p))) = W at hQ
      have hWl : W.length = m := by rw [← hWW]; simp
      have hWg : ∀ p, p < m → W.getD p 0 = cN ((S.2.2.2 s).2.2 (i' + p)) := fun p hp => by rw [← hWW, List.getD_eq_getElem?_getD]; simp [hp]
      have loop : ∀ f p h1 b, p + f = m → b = (List.range p).all (fun p => inR ((S.2.2.2 s).2.2 (i' + p)) 1 S.1.1) → (∀ j, j < p → gI h1 105 j = (S.2.2.2 s).2.2 (i' + j)) → RM h1 S → FrX h h1 → V Γ mX10_take d 124 124 h1 82 [some (.ref 94), some (.int (nI s)), some (.int (nI i')), some (.int (nI m)), some (.int (nI q)), some (.int (gBo b)), some (.int (nI p))] [] Q := by
        intro f
        induction f with
        | zero =>
          intro p h1 b hpf hb tw hR1 hF1
          have ep : p = m := by omega
          subst ep
          have hM1 := hR1.1
          cases b with
          | false =>
            rw [if_f hb.symm] at hQ
            have hQ9 := hQ h1 hR1 hF1.D
            refine V_iloadw6 dX10_take_82 ?_
            refine V_iloadn3 dX10_take_84 ?_
            first | refine U_icmp_ge (tgt := 145) dX10_take_85 (by decide) (by with_reducible rfl) (by with_reducible rfl) (by omega) (by omega) (fun c85 => ?_) (fun c85 => ?_) | refine V_icmp_ge (tgt := 145) dX10_take_85 (by decide) (fun c85 => ?_) (fun c85 => ?_)
            · skip
              refine V_iloadw5 dX10_take_145 ?_
              first | refine U_ifB_ne (tgt := 152) dX10_take_147 (by decide) (by with_reducible rfl) (fun c147 => ?_) (fun c147 => ?_) | refine U_if_ne (tgt := 152) dX10_take_147 (by decide) (by with_reducible rfl) (by omega) (fun c147 => ?_) (fun c147 => ?_) | refine V_if_ne (tgt := 152) dX10_take_147 (by decide) (fun c147 => ?_) (fun c147 => ?_)
              · skip
                cases c147
              · skip
                refine V_iconst (v := -1) dX10_take_150 (by decide) ?_
                refine V_iret dX10_take_151 rfl rfl ?_
                exact hQ9
            · skip
              omega
          | true =>
            rw [if_t hb.symm] at hQ
            have hin : ∀ j, j < p → inR ((S.2.2.2 s).2.2 (i' + j)) 1 S.1.1 = true := fun j hj => List.all_eq_true.mp hb.symm j (List.mem_range.mpr hj)
            have hLt : LtW S.1.1 W := fun j hj => by
              rw [hWl] at hj
              rw [hWg j hj]
              obtain ⟨v, v1, v2, v3⟩ := inR_t (by omega) (by omega) (hin j hj)
              rw [v3, cN_nI (by omega)]
              exact ⟨v1, v2⟩
            have hWW2 : WW (sI (sI h1 94 19 (nI 1)) 94 18 (nI p)) W := ⟨by rw [gI_sI, if_pos ⟨rfl, rfl⟩, hWl], fun j hj => by
              rw [hWl] at hj
              rw [gI_sI, if_neg (by omega), gI_sI, if_neg (by omega), tw j hj, hWg j hj]
              obtain ⟨v, v1, v2, v3⟩ := inR_t (by omega) (by omega) (hin j hj)
              rw [v3, cN_nI (by omega)], by omega, LtW9 hLt hn5⟩
            have hF2 : FrX h1 (sI (sI h1 94 19 (nI 1)) 94 18 (nI p)) := frx_sI (frx_sI FrX.rf (by omega)) (by omega)
            have hR2 := RM_X hR1 hF2
            refine V_iloadw6 dX10_take_82 ?_
            refine V_iloadn3 dX10_take_84 ?_
            first | refine U_icmp_ge (tgt := 145) dX10_take_85 (by decide) (by with_reducible rfl) (by with_reducible rfl) (by omega) (by omega) (fun c85 => ?_) (fun c85 => ?_) | refine V_icmp_ge (tgt := 145) dX10_take_85 (by decide) (fun c85 => ?_) (fun c85 => ?_)
            · skip
              refine V_iloadw5 dX10_take_145 ?_
              first | refine U_ifB_ne (tgt := 152) dX10_take_147 (by decide) (by with_reducible rfl) (fun c147 => ?_) (fun c147 => ?_) | refine U_if_ne (tgt := 152) dX10_take_147 (by decide) (by with_reducible rfl) (by omega) (fun c147 => ?_) (fun c147 => ?_) | refine V_if_ne (tgt := 152) dX10_take_147 (by decide) (fun c147 => ?_) (fun c147 => ?_)
              · skip
                refine V_aloadn0 dX10_take_152 ?_
                refine V_iconst (v := nI 1) dX10_take_153 (by decide) ?_
                refine V_putI dX10_take_154 fX10_108 (by first | assumption | rfl) (by first | decide | omega) ?_
                refine V_aloadn0 dX10_take_157 ?_
                refine V_iloadn3 dX10_take_158 ?_
                refine V_putI dX10_take_159 fX10_111 (by first | assumption | rfl) (by first | decide | omega) ?_
                refine V_aloadn0 dX10_take_162 ?_
                refine V_iloadw4 dX10_take_163 ?_
                refine V_callV1 (μ' := mX10_lays) dX10_take_165 okX10_lays lX10_121 rfl (by first | assumption | rfl) (by first | decide | omega) (Nat.le_of_ble_eq_true rfl) (Nat.le_of_ble_eq_true rfl) (by omega) ?_
                refine m_lays (kd := 1) (L := []) hq hR2 hWS (by decide) (by rw [gI_sI, if_neg (by omega), gI_sI, if_pos ⟨rfl, rfl⟩]) hWW2 (fun q => by cases q) (fun _ => rfl) (fun h3 hR3 e3 l3 k3 => ?_)
                have hQ9 := hQ h3 hR3 ((hF1.tr hF2).D.tr ⟨fun a ha => e3 a (by omega), fun a ha => by rw [l3], k3⟩)
                dsimp only [gPush]
                refine V_aloadn0 dX10_take_168 ?_
                refine V_callV0 (μ' := mX10_read) dX10_take_169 okX10_read lX10_149 rfl (by first | assumption | rfl) (by first | decide | omega) (Nat.le_of_ble_eq_true rfl) (Nat.le_of_ble_eq_true rfl) (by omega) ?_
                refine m_read hR3.1 (WW_cg hWW2 (by rw [e3 94 (by omega)]) (e3 105 (by omega))) ?_
                dsimp only [gPush]
                refine V_iret dX10_take_172 rfl rfl ?_
                exact hQ9
              · skip
                cases c147
            · skip
              omega
        | succ f ih =>
          intro p h1 b hpf hb tw hR1 hF1
          have hM1 := hR1.1
          have gz : gI h1 122 (40 * s + i' + p) = (S.2.2.2 s).2.2 (i' + p) := by rw [hF1.1 122 (by omega), show 40 * s + i' + p = 40 * s + (i' + p) by omega]; exact x2 hm (i' + p) (by omega)
          generalize hh2 : sI h1 105 p ((S.2.2.2 s).2.2 (i' + p)) = h2
          have hF2 : FrX h1 h2 := by rw [← hh2]; exact frx_sI FrX.rf (by omega)
          have hR2 := RM_X hR1 hF2
          have hM2 := hR2.1
          have n2 : gI h2 94 0 = nI S.1.1 := hR2.2.1.1
          have g2 : gI h2 105 p = (S.2.2.2 s).2.2 (i' + p) := by rw [← hh2, gI_sI, if_pos ⟨rfl, rfl⟩]
          have tw2 : ∀ j, j < p + 1 → gI h2 105 j = (S.2.2.2 s).2.2 (i' + j) := fun j hj => by
            rw [← hh2, gI_sI]
            by_cases e : j = p
            · rw [if_pos ⟨rfl, e⟩, e]
            · rw [if_neg (fun z => e z.2)]; exact tw j (by omega)
          have hall : ((List.range (p + 1)).all (fun p => inR ((S.2.2.2 s).2.2 (i' + p)) 1 S.1.1)) = (b && inR ((S.2.2.2 s).2.2 (i' + p)) 1 S.1.1) := by rw [List.range_succ, List.all_append, ← hb]; simp
          have nxt : ∀ b', b' = (b && inR ((S.2.2.2 s).2.2 (i' + p)) 1 S.1.1) → V Γ mX10_take d 124 124 h2 137 [some (.ref 94), some (.int (nI s)), some (.int (nI i')), some (.int (nI m)), some (.int (nI q)), some (.int (gBo b)), some (.int (nI p))] [.int (gBo b')] Q := by
            intro b' hb'
            refine V_istorew5 dX10_take_137 (by decide) rfl ?_
            refine V_iinc6 dX10_take_139 (by first | exact ginc1 _ | rfl) (by decide) rfl ?_
            refine V_goto (tgt := 82) dX10_take_142 (by decide) ?_
            exact ih (p + 1) h2 b' (by omega) (by rw [hb', hall]) tw2 hR2 (hF1.tr hF2)
          cases b with
          | false =>
            refine V_iloadw6 dX10_take_82 ?_
            refine V_iloadn3 dX10_take_84 ?_
            first | refine U_icmp_ge (tgt := 145) dX10_take_85 (by decide) (by with_reducible rfl) (by with_reducible rfl) (by omega) (by omega) (fun c85 => ?_) (fun c85 => ?_) | refine V_icmp_ge (tgt := 145) dX10_take_85 (by decide) (fun c85 => ?_) (fun c85 => ?_)
            · skip
              omega
            · skip
              refine V_aloadn0 dX10_take_88 ?_
              refine V_getR dX10_take_89 fX10_47 (by first | assumption | rfl) (by first | decide | omega) (by first | assumption | exact ML_4 (by assumption) | exact ML_5 (by assumption) | exact ML_6 (by assumption) | exact ML_7 (by assumption) | exact ML_8 (by assumption) | exact ML_9 (by assumption) | exact ML_10 (by assumption) | exact ML_11 (by assumption) | exact ML_12 (by assumption) | exact ML_13 (by assumption) | exact ML_15 (by assumption) | exact ML_16 (by assumption) | exact ML_17 (by assumption) | exact ML_20 (by assumption) | exact ML_23 (by assumption) | exact ML_24 (by assumption) | exact ML_30 (by assumption) | exact ML_31 (by assumption) | exact ML_32 (by assumption) | exact ML_33 (by assumption) | exact ML_35 (by assumption) | exact ML_36 (by assumption) | exact ML_37 (by assumption) | exact ML_38 (by assumption) | exact ML_41 (by assumption) | exact ML_42 (by assumption) | exact ML_43 (by assumption) | exact ML_44 (by assumption) | exact ML_45 (by assumption) | rfl) ?_
              refine V_iloadw6 dX10_take_92 ?_
              refine V_aloadn0 dX10_take_94 ?_
              refine V_getR dX10_take_95 fX10_98 (by first | assumption | rfl) (by first | decide | omega) (by first | assumption | exact ML_4 (by assumption) | exact ML_5 (by assumption) | exact ML_6 (by assumption) | exact ML_7 (by assumption) | exact ML_8 (by assumption) | exact ML_9 (by assumption) | exact ML_10 (by assumption) | exact ML_11 (by assumption) | exact ML_12 (by assumption) | exact ML_13 (by assumption) | exact ML_15 (by assumption) | exact ML_16 (by assumption) | exact ML_17 (by assumption) | exact ML_20 (by assumption) | exact ML_23 (by assumption) | exact ML_24 (by assumption) | exact ML_30 (by assumption) | exact ML_31 (by assumption) | exact ML_32 (by assumption) | exact ML_33 (by assumption) | exact ML_35 (by assumption) | exact ML_36 (by assumption) | exact ML_37 (by assumption) | exact ML_38 (by assumption) | exact ML_41 (by assumption) | exact ML_42 (by assumption) | exact ML_43 (by assumption) | exact ML_44 (by assumption) | exact ML_45 (by assumption) | rfl) ?_
              refine V_bipush (v := nI 40) dX10_take_98 (by decide) ?_
              refine V_iloadn1 dX10_take_100 ?_
              first | refine U_imul dX10_take_101 (by with_reducible rfl) (by with_reducible rfl) ?_ | refine V_imul dX10_take_101 ?_
              refine V_iloadn2 dX10_take_102 ?_
              first | refine U_iadd dX10_take_103 (by with_reducible rfl) (by with_reducible rfl) ?_ | refine V_iadd dX10_take_103 ?_
              refine V_iloadw6 dX10_take_104 ?_
              first | refine U_iadd dX10_take_106 (by with_reducible rfl) (by with_reducible rfl) ?_ | refine V_iadd dX10_take_106 ?_
              refine U_iald dX10_take_107 (by with_reducible rfl) (by first | assumption | rfl) (by first | decide | omega) (by omega) (by first | assumption | exact ML_4 (by assumption) | exact ML_5 (by assumption) | exact ML_6 (by assumption) | exact ML_7 (by assumption) | exact ML_8 (by assumption) | exact ML_9 (by assumption) | exact ML_10 (by assumption) | exact ML_11 (by assumption) | exact ML_12 (by assumption) | exact ML_13 (by assumption) | exact ML_15 (by assumption) | exact ML_16 (by assumption) | exact ML_17 (by assumption) | exact ML_20 (by assumption) | exact ML_23 (by assumption) | exact ML_24 (by assumption) | exact ML_30 (by assumption) | exact ML_31 (by assumption) | exact ML_32 (by assumption) | exact ML_33 (by assumption) | exact ML_35 (by assumption) | exact ML_36 (by assumption) | exact ML_37 (by assumption) | exact ML_38 (by assumption) | exact ML_41 (by assumption) | exact ML_42 (by assumption) | exact ML_43 (by assumption) | exact ML_44 (by assumption) | exact ML_45 (by assumption) | rfl) ?_
              refine U_iast dX10_take_108 (by with_reducible rfl) (by first | assumption | rfl) (by first | decide | omega) (by omega) ?_
              rw [hh2]
              refine V_iloadw5 dX10_take_109 ?_
              first | refine U_ifB_eq (tgt := 136) dX10_take_111 (by decide) (by with_reducible rfl) (fun c111 => ?_) (fun c111 => ?_) | refine U_if_eq (tgt := 136) dX10_take_111 (by decide) (by with_reducible rfl) (by omega) (fun c111 => ?_) (fun c111 => ?_) | refine V_if_eq (tgt := 136) dX10_take_111 (by decide) (fun c111 => ?_) (fun c111 => ?_)
              · skip
                refine V_iconst (v := nI 0) dX10_take_136 (by decide) ?_
                exact nxt false rfl
              · skip
                cases c111
          | true =>
            cases hin : inR ((S.2.2.2 s).2.2 (i' + p)) 1 S.1.1 with
            | false =>
              rw [hin] at nxt
              refine V_iloadw6 dX10_take_82 ?_
              refine V_iloadn3 dX10_take_84 ?_
              first | refine U_icmp_ge (tgt := 145) dX10_take_85 (by decide) (by with_reducible rfl) (by with_reducible rfl) (by omega) (by omega) (fun c85 => ?_) (fun c85 => ?_) | refine V_icmp_ge (tgt := 145) dX10_take_85 (by decide) (fun c85 => ?_) (fun c85 => ?_)
              · skip
                omega
              · skip
                refine V_aloadn0 dX10_take_88 ?_
                refine V_getR dX10_take_89 fX10_47 (by first | assumption | rfl) (by first | decide | omega) (by first | assumption | exact ML_4 (by assumption) | exact ML_5 (by assumption) | exact ML_6 (by assumption) | exact ML_7 (by assumption) | exact ML_8 (by assumption) | exact ML_9 (by assumption) | exact ML_10 (by assumption) | exact ML_11 (by assumption) | exact ML_12 (by assumption) | exact ML_13 (by assumption) | exact ML_15 (by assumption) | exact ML_16 (by assumption) | exact ML_17 (by assumption) | exact ML_20 (by assumption) | exact ML_23 (by assumption) | exact ML_24 (by assumption) | exact ML_30 (by assumption) | exact ML_31 (by assumption) | exact ML_32 (by assumption) | exact ML_33 (by assumption) | exact ML_35 (by assumption) | exact ML_36 (by assumption) | exact ML_37 (by assumption) | exact ML_38 (by assumption) | exact ML_41 (by assumption) | exact ML_42 (by assumption) | exact ML_43 (by assumption) | exact ML_44 (by assumption) | exact ML_45 (by assumption) | rfl) ?_
                refine V_iloadw6 dX10_take_92 ?_
                refine V_aloadn0 dX10_take_94 ?_
                refine V_getR dX10_take_95 fX10_98 (by first | assumption | rfl) (by first | decide | omega) (by first | assumption | exact ML_4 (by assumption) | exact ML_5 (by assumption) | exact ML_6 (by assumption) | exact ML_7 (by assumption) | exact ML_8 (by assumption) | exact ML_9 (by assumption) | exact ML_10 (by assumption) | exact ML_11 (by assumption) | exact ML_12 (by assumption) | exact ML_13 (by assumption) | exact ML_15 (by assumption) | exact ML_16 (by assumption) | exact ML_17 (by assumption) | exact ML_20 (by assumption) | exact ML_23 (by assumption) | exact ML_24 (by assumption) | exact ML_30 (by assumption) | exact ML_31 (by assumption) | exact ML_32 (by assumption) | exact ML_33 (by assumption) | exact ML_35 (by assumption) | exact ML_36 (by assumption) | exact ML_37 (by assumption) | exact ML_38 (by assumption) | exact ML_41 (by assumption) | exact ML_42 (by assumption) | exact ML_43 (by assumption) | exact ML_44 (by assumption) | exact ML_45 (by assumption) | rfl) ?_
                refine V_bipush (v := nI 40) dX10_take_98 (by decide) ?_
                refine V_iloadn1 dX10_take_100 ?_
                first | refine U_imul dX10_take_101 (by with_reducible rfl) (by with_reducible rfl) ?_ | refine V_imul dX10_take_101 ?_
                refine V_iloadn2 dX10_take_102 ?_
                first | refine U_iadd dX10_take_103 (by with_reducible rfl) (by with_reducible rfl) ?_ | refine V_iadd dX10_take_103 ?_
                refine V_iloadw6 dX10_take_104 ?_
                first | refine U_iadd dX10_take_106 (by with_reducible rfl) (by with_reducible rfl) ?_ | refine V_iadd dX10_take_106 ?_
                refine U_iald dX10_take_107 (by with_reducible rfl) (by first | assumption | rfl) (by first | decide | omega) (by omega) (by first | assumption | exact ML_4 (by assumption) | exact ML_5 (by assumption) | exact ML_6 (by assumption) | exact ML_7 (by assumption) | exact ML_8 (by assumption) | exact ML_9 (by assumption) | exact ML_10 (by assumption) | exact ML_11 (by assumption) | exact ML_12 (by assumption) | exact ML_13 (by assumption) | exact ML_15 (by assumption) | exact ML_16 (by assumption) | exact ML_17 (by assumption) | exact ML_20 (by assumption) | exact ML_23 (by assumption) | exact ML_24 (by assumption) | exact ML_30 (by assumption) | exact ML_31 (by assumption) | exact ML_32 (by assumption) | exact ML_33 (by assumption) | exact ML_35 (by assumption) | exact ML_36 (by assumption) | exact ML_37 (by assumption) | exact ML_38 (by assumption) | exact ML_41 (by assumption) | exact ML_42 (by assumption) | exact ML_43 (by assumption) | exact ML_44 (by assumption) | exact ML_45 (by assumption) | rfl) ?_
                refine U_iast dX10_take_108 (by with_reducible rfl) (by first | assumption | rfl) (by first | decide | omega) (by omega) ?_
                rw [hh2]
                refine V_iloadw5 dX10_take_109 ?_
                first | refine U_ifB_eq (tgt := 136) dX10_take_111 (by decide) (by with_reducible rfl) (fun c111 => ?_) (fun c111 => ?_) | refine U_if_eq (tgt := 136) dX10_take_111 (by decide) (by with_reducible rfl) (by omega) (fun c111 => ?_) (fun c111 => ?_) | refine V_if_eq (tgt := 136) dX10_take_111 (by decide) (fun c111 => ?_) (fun c111 => ?_)
                · skip
                  cases c111
                · skip
                  refine V_aloadn0 dX10_take_114 ?_
                  refine V_getR dX10_take_115 fX10_47 (by first | assumption | rfl) (by first | decide | omega) (by first | assumption | exact ML_4 (by assumption) | exact ML_5 (by assumption) | exact ML_6 (by assumption) | exact ML_7 (by assumption) | exact ML_8 (by assumption) | exact ML_9 (by assumption) | exact ML_10 (by assumption) | exact ML_11 (by assumption) | exact ML_12 (by assumption) | exact ML_13 (by assumption) | exact ML_15 (by assumption) | exact ML_16 (by assumption) | exact ML_17 (by assumption) | exact ML_20 (by assumption) | exact ML_23 (by assumption) | exact ML_24 (by assumption) | exact ML_30 (by assumption) | exact ML_31 (by assumption) | exact ML_32 (by assumption) | exact ML_33 (by assumption) | exact ML_35 (by assumption) | exact ML_36 (by assumption) | exact ML_37 (by assumption) | exact ML_38 (by assumption) | exact ML_41 (by assumption) | exact ML_42 (by assumption) | exact ML_43 (by assumption) | exact ML_44 (by assumption) | exact ML_45 (by assumption) | rfl) ?_
                  refine V_iloadw6 dX10_take_118 ?_
                  refine U_iald dX10_take_120 (by with_reducible rfl) (by first | assumption | rfl) (by first | decide | omega) (by omega) (by first | assumption | exact ML_4 (by assumption) | exact ML_5 (by assumption) | exact ML_6 (by assumption) | exact ML_7 (by assumption) | exact ML_8 (by assumption) | exact ML_9 (by assumption) | exact ML_10 (by assumption) | exact ML_11 (by assumption) | exact ML_12 (by assumption) | exact ML_13 (by assumption) | exact ML_15 (by assumption) | exact ML_16 (by assumption) | exact ML_17 (by assumption) | exact ML_20 (by assumption) | exact ML_23 (by assumption) | exact ML_24 (by assumption) | exact ML_30 (by assumption) | exact ML_31 (by assumption) | exact ML_32 (by assumption) | exact ML_33 (by assumption) | exact ML_35 (by assumption) | exact ML_36 (by assumption) | exact ML_37 (by assumption) | exact ML_38 (by assumption) | exact ML_41 (by assumption) | exact ML_42 (by assumption) | exact ML_43 (by assumption) | exact ML_44 (by assumption) | exact ML_45 (by assumption) | rfl) ?_
                  refine V_iconst (v := nI 1) dX10_take_121 (by decide) ?_
                  refine V_aloadn0 dX10_take_122 ?_
                  refine V_getI dX10_take_123 fX10_7 (Or.inl rfl) (by first | assumption | rfl) (by first | decide | omega) (by first | assumption | exact ML_4 (by assumption) | exact ML_5 (by assumption) | exact ML_6 (by assumption) | exact ML_7 (by assumption) | exact ML_8 (by assumption) | exact ML_9 (by assumption) | exact ML_10 (by assumption) | exact ML_11 (by assumption) | exact ML_12 (by assumption) | exact ML_13 (by assumption) | exact ML_15 (by assumption) | exact ML_16 (by assumption) | exact ML_17 (by assumption) | exact ML_20 (by assumption) | exact ML_23 (by assumption) | exact ML_24 (by assumption) | exact ML_30 (by assumption) | exact ML_31 (by assumption) | exact ML_32 (by assumption) | exact ML_33 (by assumption) | exact ML_35 (by assumption) | exact ML_36 (by assumption) | exact ML_37 (by assumption) | exact ML_38 (by assumption) | exact ML_41 (by assumption) | exact ML_42 (by assumption) | exact ML_43 (by assumption) | exact ML_44 (by assumption) | exact ML_45 (by assumption) | rfl) ?_
                  refine V_callS3 (μ' := mX10_in) dX10_take_126 okX10_in lX10_104 (Nat.le_of_ble_eq_true rfl) (Nat.le_of_ble_eq_true rfl) (by omega) ?_
                  refine m_inR ?_
                  rw [hin]
                  dsimp only [gPush]
                  first | refine U_ifB_eq (tgt := 136) dX10_take_129 (by decide) (by with_reducible rfl) (fun c129 => ?_) (fun c129 => ?_) | refine U_if_eq (tgt := 136) dX10_take_129 (by decide) (by with_reducible rfl) (by omega) (fun c129 => ?_) (fun c129 => ?_) | refine V_if_eq (tgt := 136) dX10_take_129 (by decide) (fun c129 => ?_) (fun c129 => ?_)
                  · skip
                    refine V_iconst (v := nI 0) dX10_take_136 (by decide) ?_
                    exact nxt false rfl
                  · skip
                    cases c129
            | true =>
              rw [hin] at nxt
              refine V_iloadw6 dX10_take_82 ?_
              refine V_iloadn3 dX10_take_84 ?_
              first | refine U_icmp_ge (tgt := 145) dX10_take_85 (by decide) (by with_reducible rfl) (by with_reducible rfl) (by omega) (by omega) (fun c85 => ?_) (fun c85 => ?_) | refine V_icmp_ge (tgt := 145) dX10_take_85 (by decide) (fun c85 => ?_) (fun c85 => ?_)
              · skip
                omega
              · skip
                refine V_aloadn0 dX10_take_88 ?_
                refine V_getR dX10_take_89 fX10_47 (by first | assumption | rfl) (by first | decide | omega) (by first | assumption | exact ML_4 (by assumption) | exact ML_5 (by assumption) | exact ML_6 (by assumption) | exact ML_7 (by assumption) | exact ML_8 (by assumption) | exact ML_9 (by assumption) | exact ML_10 (by assumption) | exact ML_11 (by assumption) | exact ML_12 (by assumption) | exact ML_13 (by assumption) | exact ML_15 (by assumption) | exact ML_16 (by assumption) | exact ML_17 (by assumption) | exact ML_20 (by assumption) | exact ML_23 (by assumption) | exact ML_24 (by assumption) | exact ML_30 (by assumption) | exact ML_31 (by assumption) | exact ML_32 (by assumption) | exact ML_33 (by assumption) | exact ML_35 (by assumption) | exact ML_36 (by assumption) | exact ML_37 (by assumption) | exact ML_38 (by assumption) | exact ML_41 (by assumption) | exact ML_42 (by assumption) | exact ML_43 (by assumption) | exact ML_44 (by assumption) | exact ML_45 (by assumption) | rfl) ?_
                refine V_iloadw6 dX10_take_92 ?_
                refine V_aloadn0 dX10_take_94 ?_
                refine V_getR dX10_take_95 fX10_98 (by first | assumption | rfl) (by first | decide | omega) (by first | assumption | exact ML_4 (by assumption) | exact ML_5 (by assumption) | exact ML_6 (by assumption) | exact ML_7 (by assumption) | exact ML_8 (by assumption) | exact ML_9 (by assumption) | exact ML_10 (by assumption) | exact ML_11 (by assumption) | exact ML_12 (by assumption) | exact ML_13 (by assumption) | exact ML_15 (by assumption) | exact ML_16 (by assumption) | exact ML_17 (by assumption) | exact ML_20 (by assumption) | exact ML_23 (by assumption) | exact ML_24 (by assumption) | exact ML_30 (by assumption) | exact ML_31 (by assumption) | exact ML_32 (by assumption) | exact ML_33 (by assumption) | exact ML_35 (by assumption) | exact ML_36 (by assumption) | exact ML_37 (by assumption) | exact ML_38 (by assumption) | exact ML_41 (by assumption) | exact ML_42 (by assumption) | exact ML_43 (by assumption) | exact ML_44 (by assumption) | exact ML_45 (by assumption) | rfl) ?_
                refine V_bipush (v := nI 40) dX10_take_98 (by decide) ?_
                refine V_iloadn1 dX10_take_100 ?_
                first | refine U_imul dX10_take_101 (by with_reducible rfl) (by with_reducible rfl) ?_ | refine V_imul dX10_take_101 ?_
                refine V_iloadn2 dX10_take_102 ?_
                first | refine U_iadd dX10_take_103 (by with_reducible rfl) (by with_reducible rfl) ?_ | refine V_iadd dX10_take_103 ?_
                refine V_iloadw6 dX10_take_104 ?_
                first | refine U_iadd dX10_take_106 (by with_reducible rfl) (by with_reducible rfl) ?_ | refine V_iadd dX10_take_106 ?_
                refine U_iald dX10_take_107 (by with_reducible rfl) (by first | assumption | rfl) (by first | decide | omega) (by omega) (by first | assumption | exact ML_4 (by assumption) | exact ML_5 (by assumption) | exact ML_6 (by assumption) | exact ML_7 (by assumption) | exact ML_8 (by assumption) | exact ML_9 (by assumption) | exact ML_10 (by assumption) | exact ML_11 (by assumption) | exact ML_12 (by assumption) | exact ML_13 (by assumption) | exact ML_15 (by assumption) | exact ML_16 (by assumption) | exact ML_17 (by assumption) | exact ML_20 (by assumption) | exact ML_23 (by assumption) | exact ML_24 (by assumption) | exact ML_30 (by assumption) | exact ML_31 (by assumption) | exact ML_32 (by assumption) | exact ML_33 (by assumption) | exact ML_35 (by assumption) | exact ML_36 (by assumption) | exact ML_37 (by assumption) | exact ML_38 (by assumption) | exact ML_41 (by assumption) | exact ML_42 (by assumption) | exact ML_43 (by assumption) | exact ML_44 (by assumption) | exact ML_45 (by assumption) | rfl) ?_
                refine U_iast dX10_take_108 (by with_reducible rfl) (by first | assumption | rfl) (by first | decide | omega) (by omega) ?_
                rw [hh2]
                refine V_iloadw5 dX10_take_109 ?_
                first | refine U_ifB_eq (tgt := 136) dX10_take_111 (by decide) (by with_reducible rfl) (fun c111 => ?_) (fun c111 => ?_) | refine U_if_eq (tgt := 136) dX10_take_111 (by decide) (by with_reducible rfl) (by omega) (fun c111 => ?_) (fun c111 => ?_) | refine V_if_eq (tgt := 136) dX10_take_111 (by decide) (fun c111 => ?_) (fun c111 => ?_)
                · skip
                  cases c111
                · skip
                  refine V_aloadn0 dX10_take_114 ?_
                  refine V_getR dX10_take_115 fX10_47 (by first | assumption | rfl) (by first | decide | omega) (by first | assumption | exact ML_4 (by assumption) | exact ML_5 (by assumption) | exact ML_6 (by assumption) | exact ML_7 (by assumption) | exact ML_8 (by assumption) | exact ML_9 (by assumption) | exact ML_10 (by assumption) | exact ML_11 (by assumption) | exact ML_12 (by assumption) | exact ML_13 (by assumption) | exact ML_15 (by assumption) | exact ML_16 (by assumption) | exact ML_17 (by assumption) | exact ML_20 (by assumption) | exact ML_23 (by assumption) | exact ML_24 (by assumption) | exact ML_30 (by assumption) | exact ML_31 (by assumption) | exact ML_32 (by assumption) | exact ML_33 (by assumption) | exact ML_35 (by assumption) | exact ML_36 (by assumption) | exact ML_37 (by assumption) | exact ML_38 (by assumption) | exact ML_41 (by assumption) | exact ML_42 (by assumption) | exact ML_43 (by assumption) | exact ML_44 (by assumption) | exact ML_45 (by assumption) | rfl) ?_
                  refine V_iloadw6 dX10_take_118 ?_
                  refine U_iald dX10_take_120 (by with_reducible rfl) (by first | assumption | rfl) (by first | decide | omega) (by omega) (by first | assumption | exact ML_4 (by assumption) | exact ML_5 (by assumption) | exact ML_6 (by assumption) | exact ML_7 (by assumption) | exact ML_8 (by assumption) | exact ML_9 (by assumption) | exact ML_10 (by assumption) | exact ML_11 (by assumption) | exact ML_12 (by assumption) | exact ML_13 (by assumption) | exact ML_15 (by assumption) | exact ML_16 (by assumption) | exact ML_17 (by assumption) | exact ML_20 (by assumption) | exact ML_23 (by assumption) | exact ML_24 (by assumption) | exact ML_30 (by assumption) | exact ML_31 (by assumption) | exact ML_32 (by assumption) | exact ML_33 (by assumption) | exact ML_35 (by assumption) | exact ML_36 (by assumption) | exact ML_37 (by assumption) | exact ML_38 (by assumption) | exact ML_41 (by assumption) | exact ML_42 (by assumption) | exact ML_43 (by assumption) | exact ML_44 (by assumption) | exact ML_45 (by assumption) | rfl) ?_
                  refine V_iconst (v := nI 1) dX10_take_121 (by decide) ?_
                  refine V_aloadn0 dX10_take_122 ?_
                  refine V_getI dX10_take_123 fX10_7 (Or.inl rfl) (by first | assumption | rfl) (by first | decide | omega) (by first | assumption | exact ML_4 (by assumption) | exact ML_5 (by assumption) | exact ML_6 (by assumption) | exact ML_7 (by assumption) | exact ML_8 (by assumption) | exact ML_9 (by assumption) | exact ML_10 (by assumption) | exact ML_11 (by assumption) | exact ML_12 (by assumption) | exact ML_13 (by assumption) | exact ML_15 (by assumption) | exact ML_16 (by assumption) | exact ML_17 (by assumption) | exact ML_20 (by assumption) | exact ML_23 (by assumption) | exact ML_24 (by assumption) | exact ML_30 (by assumption) | exact ML_31 (by assumption) | exact ML_32 (by assumption) | exact ML_33 (by assumption) | exact ML_35 (by assumption) | exact ML_36 (by assumption) | exact ML_37 (by assumption) | exact ML_38 (by assumption) | exact ML_41 (by assumption) | exact ML_42 (by assumption) | exact ML_43 (by assumption) | exact ML_44 (by assumption) | exact ML_45 (by assumption) | rfl) ?_
                  refine V_callS3 (μ' := mX10_in) dX10_take_126 okX10_in lX10_104 (Nat.le_of_ble_eq_true rfl) (Nat.le_of_ble_eq_true rfl) (by omega) ?_
                  refine m_inR ?_
                  rw [hin]
                  dsimp only [gPush]
                  first | refine U_ifB_eq (tgt := 136) dX10_take_129 (by decide) (by with_reducible rfl) (fun c129 => ?_) (fun c129 => ?_) | refine U_if_eq (tgt := 136) dX10_take_129 (by decide) (by with_reducible rfl) (by omega) (fun c129 => ?_) (fun c129 => ?_) | refine V_if_eq (tgt := 136) dX10_take_129 (by decide) (fun c129 => ?_) (fun c129 => ?_)
                  · skip
                    cases c129
                  · skip
                    refine V_iconst (v := nI 1) dX10_take_132 (by decide) ?_
                    refine V_goto (tgt := 137) dX10_take_133 (by decide) ?_
                    exact nxt true rfl
      refine V_iloadn1 dX10_take_0 ?_
      refine V_callS1 (μ' := mX10_isSheet) dX10_take_1 okX10_isSheet lX10_285 (Nat.le_of_ble_eq_true rfl) (Nat.le_of_ble_eq_true rfl) (by omega) ?_
      refine m_isSheet (by omega) ?_
      rw [hg2.1]
      dsimp only [gPush]
      first | refine U_ifB_eq (tgt := 25) dX10_take_4 (by decide) (by with_reducible rfl) (fun c4 => ?_) (fun c4 => ?_) | refine U_if_eq (tgt := 25) dX10_take_4 (by decide) (by with_reducible rfl) (by omega) (fun c4 => ?_) (fun c4 => ?_) | refine V_if_eq (tgt := 25) dX10_take_4 (by decide) (fun c4 => ?_) (fun c4 => ?_)
      · skip
        cases c4
      · skip
        refine V_iloadn3 dX10_take_7 ?_
        refine V_iconst (v := nI 0) dX10_take_8 (by decide) ?_
        refine V_bipush (v := nI 6) dX10_take_9 (by decide) ?_
        refine V_callS3 (μ' := mX10_in) dX10_take_11 okX10_in lX10_104 (Nat.le_of_ble_eq_true rfl) (Nat.le_of_ble_eq_true rfl) (by omega) ?_
        refine m_inR ?_
        rw [hg2.2.1]
        dsimp only [gPush]
        first | refine U_ifB_eq (tgt := 25) dX10_take_14 (by decide) (by with_reducible rfl) (fun c14 => ?_) (fun c14 => ?_) | refine U_if_eq (tgt := 25) dX10_take_14 (by decide) (by with_reducible rfl) (by omega) (fun c14 => ?_) (fun c14 => ?_) | refine V_if_eq (tgt := 25) dX10_take_14 (by decide) (fun c14 => ?_) (fun c14 => ?_)
        · skip
          cases c14
        · skip
          refine V_iloadw4 dX10_take_17 ?_
          refine V_callS1 (μ' := mX10_isSlot) dX10_take_19 okX10_isSlot lX10_114 (Nat.le_of_ble_eq_true rfl) (Nat.le_of_ble_eq_true rfl) (by omega) ?_
          refine m_isSlot (by omega) ?_
          rw [hg2.2.2]
          dsimp only [gPush]
          first | refine U_ifB_ne (tgt := 27) dX10_take_22 (by decide) (by with_reducible rfl) (fun c22 => ?_) (fun c22 => ?_) | refine U_if_ne (tgt := 27) dX10_take_22 (by decide) (by with_reducible rfl) (by omega) (fun c22 => ?_) (fun c22 => ?_) | refine V_if_ne (tgt := 27) dX10_take_22 (by decide) (fun c22 => ?_) (fun c22 => ?_)
          · skip
            refine V_aloadn0 dX10_take_27 ?_
            refine V_getR dX10_take_28 fX10_92 (by first | assumption | rfl) (by first | decide | omega) (by first | assumption | exact ML_4 (by assumption) | exact ML_5 (by assumption) | exact ML_6 (by assumption) | exact ML_7 (by assumption) | exact ML_8 (by assumption) | exact ML_9 (by assumption) | exact ML_10 (by assumption) | exact ML_11 (by assumption) | exact ML_12 (by assumption) | exact ML_13 (by assumption) | exact ML_15 (by assumption) | exact ML_16 (by assumption) | exact ML_17 (by assumption) | exact ML_20 (by assumption) | exact ML_23 (by assumption) | exact ML_24 (by assumption) | exact ML_30 (by assumption) | exact ML_31 (by assumption) | exact ML_32 (by assumption) | exact ML_33 (by assumption) | exact ML_35 (by assumption) | exact ML_36 (by assumption) | exact ML_37 (by assumption) | exact ML_38 (by assumption) | exact ML_41 (by assumption) | exact ML_42 (by assumption) | exact ML_43 (by assumption) | exact ML_44 (by assumption) | exact ML_45 (by assumption) | rfl) ?_
            refine V_iloadn1 dX10_take_31 ?_
            refine U_iald dX10_take_32 (by with_reducible rfl) (by first | assumption | rfl) (by first | decide | omega) (by omega) (by first | assumption | exact ML_4 (by assumption) | exact ML_5 (by assumption) | exact ML_6 (by assumption) | exact ML_7 (by assumption) | exact ML_8 (by assumption) | exact ML_9 (by assumption) | exact ML_10 (by assumption) | exact ML_11 (by assumption) | exact ML_12 (by assumption) | exact ML_13 (by assumption) | exact ML_15 (by assumption) | exact ML_16 (by assumption) | exact ML_17 (by assumption) | exact ML_20 (by assumption) | exact ML_23 (by assumption) | exact ML_24 (by assumption) | exact ML_30 (by assumption) | exact ML_31 (by assumption) | exact ML_32 (by assumption) | exact ML_33 (by assumption) | exact ML_35 (by assumption) | exact ML_36 (by assumption) | exact ML_37 (by assumption) | exact ML_38 (by assumption) | exact ML_41 (by assumption) | exact ML_42 (by assumption) | exact ML_43 (by assumption) | exact ML_44 (by assumption) | exact ML_45 (by assumption) | rfl) ?_
            refine V_if_lt (tgt := 46) dX10_take_33 (by decide) (fun c33 => ?_) (fun c33 => ?_)
            · skip
              exact absurd c33 (nI_pos (by omega))
            · skip
              refine V_aloadn0 dX10_take_36 ?_
              refine V_getR dX10_take_37 fX10_92 (by first | assumption | rfl) (by first | decide | omega) (by first | assumption | exact ML_4 (by assumption) | exact ML_5 (by assumption) | exact ML_6 (by assumption) | exact ML_7 (by assumption) | exact ML_8 (by assumption) | exact ML_9 (by assumption) | exact ML_10 (by assumption) | exact ML_11 (by assumption) | exact ML_12 (by assumption) | exact ML_13 (by assumption) | exact ML_15 (by assumption) | exact ML_16 (by assumption) | exact ML_17 (by assumption) | exact ML_20 (by assumption) | exact ML_23 (by assumption) | exact ML_24 (by assumption) | exact ML_30 (by assumption) | exact ML_31 (by assumption) | exact ML_32 (by assumption) | exact ML_33 (by assumption) | exact ML_35 (by assumption) | exact ML_36 (by assumption) | exact ML_37 (by assumption) | exact ML_38 (by assumption) | exact ML_41 (by assumption) | exact ML_42 (by assumption) | exact ML_43 (by assumption) | exact ML_44 (by assumption) | exact ML_45 (by assumption) | rfl) ?_
              refine V_iloadn1 dX10_take_40 ?_
              refine U_iald dX10_take_41 (by with_reducible rfl) (by first | assumption | rfl) (by first | decide | omega) (by omega) (by first | assumption | exact ML_4 (by assumption) | exact ML_5 (by assumption) | exact ML_6 (by assumption) | exact ML_7 (by assumption) | exact ML_8 (by assumption) | exact ML_9 (by assumption) | exact ML_10 (by assumption) | exact ML_11 (by assumption) | exact ML_12 (by assumption) | exact ML_13 (by assumption) | exact ML_15 (by assumption) | exact ML_16 (by assumption) | exact ML_17 (by assumption) | exact ML_20 (by assumption) | exact ML_23 (by assumption) | exact ML_24 (by assumption) | exact ML_30 (by assumption) | exact ML_31 (by assumption) | exact ML_32 (by assumption) | exact ML_33 (by assumption) | exact ML_35 (by assumption) | exact ML_36 (by assumption) | exact ML_37 (by assumption) | exact ML_38 (by assumption) | exact ML_41 (by assumption) | exact ML_42 (by assumption) | exact ML_43 (by assumption) | exact ML_44 (by assumption) | exact ML_45 (by assumption) | rfl) ?_
              refine V_iconst (v := nI 2) dX10_take_42 (by decide) ?_
              first | refine U_icmp_ne (tgt := 63) dX10_take_43 (by decide) (by with_reducible rfl) (by with_reducible rfl) (by omega) (by omega) (fun c43 => ?_) (fun c43 => ?_) | refine V_icmp_ne (tgt := 63) dX10_take_43 (by decide) (fun c43 => ?_) (fun c43 => ?_)
              · skip
                refine V_aloadn0 dX10_take_63 ?_
                refine V_iloadn1 dX10_take_64 ?_
                refine V_iloadn2 dX10_take_65 ?_
                refine V_iloadn3 dX10_take_66 ?_
                refine V_callV3 (μ' := mX10_isOutside) dX10_take_67 okX10_isOutside lX10_292 rfl (by first | assumption | rfl) (by first | decide | omega) (Nat.le_of_ble_eq_true rfl) (Nat.le_of_ble_eq_true rfl) (by omega) ?_
                refine m_isOutside hM hs x1 ?_
                rw [hp]
                dsimp only [gPush]
                first | refine U_ifB_eq (tgt := 76) dX10_take_70 (by decide) (by with_reducible rfl) (fun c70 => ?_) (fun c70 => ?_) | refine U_if_eq (tgt := 76) dX10_take_70 (by decide) (by with_reducible rfl) (by omega) (fun c70 => ?_) (fun c70 => ?_) | refine V_if_eq (tgt := 76) dX10_take_70 (by decide) (fun c70 => ?_) (fun c70 => ?_)
                · skip
                  refine V_iconst (v := nI 1) dX10_take_76 (by decide) ?_
                  refine V_istorew5 dX10_take_77 (by decide) rfl ?_
                  refine V_iconst (v := nI 0) dX10_take_79 (by decide) ?_
                  refine V_istorew6 dX10_take_80 (by decide) rfl ?_
                  exact loop m 0 h true (Nat.zero_add _) rfl (fun j hj => absurd hj (Nat.not_lt_zero _)) hR FrX.rf
                · skip
                  cases c70
              · skip
                omega
          · skip
            cases c22
  · have eq0 : f_take S x i k y = (-1, S) := if_neg hg
    rw [eq0] at hQ
    have hQ9 := hQ h hR FrD.rf
    refine V_iloadn1 dX10_take_0 ?_
    refine V_callS1 (μ' := mX10_isSheet) dX10_take_1 okX10_isSheet lX10_285 (Nat.le_of_ble_eq_true rfl) (Nat.le_of_ble_eq_true rfl) (by omega) ?_
    refine m_isSheet (by omega) ?_
    dsimp only [gPush]
    first | refine U_ifB_eq (tgt := 25) dX10_take_4 (by decide) (by with_reducible rfl) (fun c4 => ?_) (fun c4 => ?_) | refine U_if_eq (tgt := 25) dX10_take_4 (by decide) (by with_reducible rfl) (by omega) (fun c4 => ?_) (fun c4 => ?_) | refine V_if_eq (tgt := 25) dX10_take_4 (by decide) (fun c4 => ?_) (fun c4 => ?_)
    · skip
      refine V_iconst (v := -1) dX10_take_25 (by decide) ?_
      refine V_iret dX10_take_26 rfl rfl ?_
      exact hQ9
    · skip
      refine V_iloadn3 dX10_take_7 ?_
      refine V_iconst (v := nI 0) dX10_take_8 (by decide) ?_
      refine V_bipush (v := nI 6) dX10_take_9 (by decide) ?_
      refine V_callS3 (μ' := mX10_in) dX10_take_11 okX10_in lX10_104 (Nat.le_of_ble_eq_true rfl) (Nat.le_of_ble_eq_true rfl) (by omega) ?_
      refine m_inR ?_
      dsimp only [gPush]
      first | refine U_ifB_eq (tgt := 25) dX10_take_14 (by decide) (by with_reducible rfl) (fun c14 => ?_) (fun c14 => ?_) | refine U_if_eq (tgt := 25) dX10_take_14 (by decide) (by with_reducible rfl) (by omega) (fun c14 => ?_) (fun c14 => ?_) | refine V_if_eq (tgt := 25) dX10_take_14 (by decide) (fun c14 => ?_) (fun c14 => ?_)
      · skip
        refine V_iconst (v := -1) dX10_take_25 (by decide) ?_
        refine V_iret dX10_take_26 rfl rfl ?_
        exact hQ9
      · skip
        refine V_iloadw4 dX10_take_17 ?_
        refine V_callS1 (μ' := mX10_isSlot) dX10_take_19 okX10_isSlot lX10_114 (Nat.le_of_ble_eq_true rfl) (Nat.le_of_ble_eq_true rfl) (by omega) ?_
        refine m_isSlot (by omega) ?_
        dsimp only [gPush]
        first | refine U_ifB_ne (tgt := 27) dX10_take_22 (by decide) (by with_reducible rfl) (fun c22 => ?_) (fun c22 => ?_) | refine U_if_ne (tgt := 27) dX10_take_22 (by decide) (by with_reducible rfl) (by omega) (fun c22 => ?_) (fun c22 => ?_) | refine V_if_ne (tgt := 27) dX10_take_22 (by decide) (fun c22 => ?_) (fun c22 => ?_)
        · skip
          exact absurd (by rw [c4, c14, c22]; rfl) hg
        · skip
          refine V_iconst (v := -1) dX10_take_25 (by decide) ?_
          refine V_iret dX10_take_26 rfl rfl ?_
          exact hQ9

end C72
