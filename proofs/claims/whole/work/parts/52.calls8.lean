/-! ===== the class: sheets ===== -/
section C52
variable {Γ : gM} {d : Nat} {h : gH} {Q : Option Value → gH → Prop} {S : GS}

set_option maxRecDepth 100000 in
set_option maxHeartbeats 4000000 in
theorem c_sheet {x so n : Int32} (hd : 3 ≤ d) (hR : RC h S) (hQ : ∀ h', RC h' (f_sheet S x so n).2 → FrC h h' → Q (some (.int (f_sheet S x so n).1)) h') : V Γ mX9_sheet d 124 124 h 0 [some (.ref 0), some (.int x), some (.int so), some (.int n)] [] Q := by
  obtain ⟨hC, hW, hA, hK, hK2, hB, hSh, hFm⟩ := id hR
  have n0 := hA.1
  have hn2 := hW.1.1
  have hn5 := hW.1.2.1
  by_cases hg : (inB x 4 && (decide (-1 ≤ so) && decide (so ≤ nI 2))) = true
  · have hg2 := hg
    rw [Bool.and_eq_true, Bool.and_eq_true] at hg2
    obtain ⟨s, hs, rfl⟩ := inB_t (by decide) hg2.1
    have hlo : -1 ≤ so := of_decide_eq_true hg2.2.1
    have hhi : so ≤ nI 2 := of_decide_eq_true hg2.2.2
    obtain ⟨x0, x1, x2⟩ := hSh s hs
    obtain ⟨b1, b2, b3⟩ := hW.2.2.2 s hs
    obtain ⟨r45, r2, y0, y1⟩ := CL_sh hC hs
    have eq0 : f_sheet S (nI s) so n = _ := if_t hg
    rw [eq0, cN_nI (by omega)] at hQ
    by_cases hm : so = -1
    · subst hm
      rw [if_pos rfl] at hQ
      have fin : Q (some (.int (nI 1))) (sI (sI h (86 + 2 * s) 0 (-1)) (86 + 2 * s) 1 (nI 0)) := by
        have f1 : Fr1 h (sI (sI h (86 + 2 * s) 0 (-1)) (86 + 2 * s) 1 (nI 0)) (86 + 2 * s) (86 + 2 * s + 1) := fr_sI (fr_sI Fr1.rf (by omega) (by omega)) (by omega) (by omega)
        exact hQ _ (RC_sh hR hs ⟨by rw [gI_sI, if_neg (by omega), gI_sI, if_pos ⟨rfl, rfl⟩]; rfl, by rw [gI_sI, if_pos ⟨rfl, rfl⟩], fun q => absurd rfl q⟩ ⟨Nat.zero_le _, Nat.zero_le _, fun _ => rfl⟩ (fun a ha => f1.1 a (by omega)) (fun a ha => rfl) rfl) (f1.toC (by omega))
      refine V_iloadn1 dX9_sheet_0 ?_
      refine V_callS1 (μ' := mX9_isSheet) dX9_sheet_1 okX9_isSheet lX9_283 (Nat.le_of_ble_eq_true rfl) (Nat.le_of_ble_eq_true rfl) (by omega) ?_
      refine c_isSheet ?_
      rw [hg2.1]
      dsimp only [gPush]
      first | refine U_ifB_eq (tgt := 17) dX9_sheet_4 (by decide) (by with_reducible rfl) (fun c4 => ?_) (fun c4 => ?_) | refine U_if_eq (tgt := 17) dX9_sheet_4 (by decide) (by with_reducible rfl) (by omega) (fun c4 => ?_) (fun c4 => ?_) | refine V_if_eq (tgt := 17) dX9_sheet_4 (by decide) (fun c4 => ?_) (fun c4 => ?_)
      · skip
        cases c4
      · skip
        refine V_iloadn2 dX9_sheet_7 ?_
        refine V_iconst (v := -1) dX9_sheet_8 (by decide) ?_
        first | refine U_icmp_lt (tgt := 17) dX9_sheet_9 (by decide) (by with_reducible rfl) (by with_reducible rfl) (by omega) (by omega) (fun c9 => ?_) (fun c9 => ?_) | refine V_icmp_lt (tgt := 17) dX9_sheet_9 (by decide) (fun c9 => ?_) (fun c9 => ?_)
        · skip
          exact absurd hlo (Int32.not_le.mpr c9)
        · skip
          refine V_iloadn2 dX9_sheet_12 ?_
          refine V_iconst (v := nI 2) dX9_sheet_13 (by decide) ?_
          first | refine U_icmp_le (tgt := 19) dX9_sheet_14 (by decide) (by with_reducible rfl) (by with_reducible rfl) (by omega) (by omega) (fun c14 => ?_) (fun c14 => ?_) | refine V_icmp_le (tgt := 19) dX9_sheet_14 (by decide) (fun c14 => ?_) (fun c14 => ?_)
          · skip
            refine V_iloadn2 dX9_sheet_19 ?_
            refine V_iconst (v := -1) dX9_sheet_20 (by decide) ?_
            first | refine U_icmp_ne (tgt := 35) dX9_sheet_21 (by decide) (by with_reducible rfl) (by with_reducible rfl) (by omega) (by omega) (fun c21 => ?_) (fun c21 => ?_) | refine V_icmp_ne (tgt := 35) dX9_sheet_21 (by decide) (fun c21 => ?_) (fun c21 => ?_)
            · skip
              exact absurd rfl c21
            · skip
              refine V_aloadn0 dX9_sheet_24 ?_
              refine V_getR dX9_sheet_25 fX9_28 (by first | assumption | rfl | exact lay_s0 (by omega) | exact lay_s1 (by omega) | exact lay_s2 (by omega) | exact lay_h0 (by omega) | exact lay_h1 (by omega)) (by first | decide | omega) (by first | assumption | exact CL0_0 (by assumption) | exact CL0_1 (by assumption) | exact CL0_3 (by assumption) | exact CL0_4 (by assumption) | exact CL0_5 (by assumption) | exact CL0_6 (by assumption) | exact CL0_7 (by assumption) | exact CL0_8 (by assumption) | exact CL0_9 (by assumption) | exact CL0_10 (by assumption) | exact CL0_11 (by assumption) | exact CL0_12 (by assumption) | exact CL0_13 (by assumption) | exact CL1_2 (by assumption) | exact CL1_3 (by assumption) | exact CL80_2 (by assumption) | exact CL_slot (by assumption) (by omega) | exact (CL_sh (by assumption) (by omega)).1 | exact (CL_sh (by assumption) (by omega)).2.1 | rfl) ?_
              refine V_iloadn1 dX9_sheet_28 ?_
              refine U_aald dX9_sheet_29 (by with_reducible rfl) (by first | assumption | rfl | exact lay_s0 (by omega) | exact lay_s1 (by omega) | exact lay_s2 (by omega) | exact lay_h0 (by omega) | exact lay_h1 (by omega)) (by decide) (by first | decide | omega) (by omega) (by first | assumption | exact CL0_0 (by assumption) | exact CL0_1 (by assumption) | exact CL0_3 (by assumption) | exact CL0_4 (by assumption) | exact CL0_5 (by assumption) | exact CL0_6 (by assumption) | exact CL0_7 (by assumption) | exact CL0_8 (by assumption) | exact CL0_9 (by assumption) | exact CL0_10 (by assumption) | exact CL0_11 (by assumption) | exact CL0_12 (by assumption) | exact CL0_13 (by assumption) | exact CL1_2 (by assumption) | exact CL1_3 (by assumption) | exact CL80_2 (by assumption) | exact CL_slot (by assumption) (by omega) | exact (CL_sh (by assumption) (by omega)).1 | exact (CL_sh (by assumption) (by omega)).2.1 | rfl) ?_
              refine V_callV0 (μ' := mX5_becomeMissing) dX9_sheet_30 okX5_becomeMissing lX9_286 rfl (by first | assumption | rfl | exact lay_s0 (by omega) | exact lay_s1 (by omega) | exact lay_s2 (by omega) | exact lay_h0 (by omega) | exact lay_h1 (by omega)) (by first | decide | omega) (Nat.le_of_ble_eq_true rfl) (Nat.le_of_ble_eq_true rfl) (by omega) ?_
              refine c_becomeMissing y0 ?_
              dsimp only [gPush]
              refine V_iconst (v := nI 1) dX9_sheet_33 (by decide) ?_
              refine V_iret dX9_sheet_34 rfl rfl ?_
              exact fin
          · skip
            exact absurd hhi c14
    rw [if_neg hm] at hQ
    have hs0 : ¬ so < 0 := fun q => hm (int_m1 hlo q)
    obtain ⟨o, o1, rfl⟩ := nI_of hs0
    have o2 : o ≤ 2 := (nI_leI o1 (by decide)).mp hhi
    rw [cN_nI o1] at hQ
    by_cases h40 : nI 40 < n
    · rw [if_pos h40] at hQ
      have hQ' := hQ h hR FrC.rf
      refine V_iloadn1 dX9_sheet_0 ?_
      refine V_callS1 (μ' := mX9_isSheet) dX9_sheet_1 okX9_isSheet lX9_283 (Nat.le_of_ble_eq_true rfl) (Nat.le_of_ble_eq_true rfl) (by omega) ?_
      refine c_isSheet ?_
      rw [hg2.1]
      dsimp only [gPush]
      first | refine U_ifB_eq (tgt := 17) dX9_sheet_4 (by decide) (by with_reducible rfl) (fun c4 => ?_) (fun c4 => ?_) | refine U_if_eq (tgt := 17) dX9_sheet_4 (by decide) (by with_reducible rfl) (by omega) (fun c4 => ?_) (fun c4 => ?_) | refine V_if_eq (tgt := 17) dX9_sheet_4 (by decide) (fun c4 => ?_) (fun c4 => ?_)
      · skip
        cases c4
      · skip
        refine V_iloadn2 dX9_sheet_7 ?_
        refine V_iconst (v := -1) dX9_sheet_8 (by decide) ?_
        first | refine U_icmp_lt (tgt := 17) dX9_sheet_9 (by decide) (by with_reducible rfl) (by with_reducible rfl) (by omega) (by omega) (fun c9 => ?_) (fun c9 => ?_) | refine V_icmp_lt (tgt := 17) dX9_sheet_9 (by decide) (fun c9 => ?_) (fun c9 => ?_)
        · skip
          exact absurd hlo (Int32.not_le.mpr c9)
        · skip
          refine V_iloadn2 dX9_sheet_12 ?_
          refine V_iconst (v := nI 2) dX9_sheet_13 (by decide) ?_
          first | refine U_icmp_le (tgt := 19) dX9_sheet_14 (by decide) (by with_reducible rfl) (by with_reducible rfl) (by omega) (by omega) (fun c14 => ?_) (fun c14 => ?_) | refine V_icmp_le (tgt := 19) dX9_sheet_14 (by decide) (fun c14 => ?_) (fun c14 => ?_)
          · skip
            refine V_iloadn2 dX9_sheet_19 ?_
            refine V_iconst (v := -1) dX9_sheet_20 (by decide) ?_
            first | refine U_icmp_ne (tgt := 35) dX9_sheet_21 (by decide) (by with_reducible rfl) (by with_reducible rfl) (by omega) (by omega) (fun c21 => ?_) (fun c21 => ?_) | refine V_icmp_ne (tgt := 35) dX9_sheet_21 (by decide) (fun c21 => ?_) (fun c21 => ?_)
            · skip
              refine V_iloadn3 dX9_sheet_35 ?_
              refine V_bipush (v := nI 40) dX9_sheet_36 (by decide) ?_
              first | refine U_icmp_le (tgt := 43) dX9_sheet_38 (by decide) (by with_reducible rfl) (by with_reducible rfl) (by omega) (by omega) (fun c38 => ?_) (fun c38 => ?_) | refine V_icmp_le (tgt := 43) dX9_sheet_38 (by decide) (fun c38 => ?_) (fun c38 => ?_)
              · skip
                exact absurd c38 (Int32.not_le.mpr h40)
              · skip
                refine V_iconst (v := -1) dX9_sheet_41 (by decide) ?_
                refine V_iret dX9_sheet_42 rfl rfl ?_
                exact hQ'
            · skip
              exact absurd c21 hm
          · skip
            exact absurd hhi (by first | omega | exact c14)
    rw [if_neg h40] at hQ
    by_cases h0 : n < 0
    · rw [if_pos h0] at hQ
      have hQ' := hQ h hR FrC.rf
      refine V_iloadn1 dX9_sheet_0 ?_
      refine V_callS1 (μ' := mX9_isSheet) dX9_sheet_1 okX9_isSheet lX9_283 (Nat.le_of_ble_eq_true rfl) (Nat.le_of_ble_eq_true rfl) (by omega) ?_
      refine c_isSheet ?_
      rw [hg2.1]
      dsimp only [gPush]
      first | refine U_ifB_eq (tgt := 17) dX9_sheet_4 (by decide) (by with_reducible rfl) (fun c4 => ?_) (fun c4 => ?_) | refine U_if_eq (tgt := 17) dX9_sheet_4 (by decide) (by with_reducible rfl) (by omega) (fun c4 => ?_) (fun c4 => ?_) | refine V_if_eq (tgt := 17) dX9_sheet_4 (by decide) (fun c4 => ?_) (fun c4 => ?_)
      · skip
        cases c4
      · skip
        refine V_iloadn2 dX9_sheet_7 ?_
        refine V_iconst (v := -1) dX9_sheet_8 (by decide) ?_
        first | refine U_icmp_lt (tgt := 17) dX9_sheet_9 (by decide) (by with_reducible rfl) (by with_reducible rfl) (by omega) (by omega) (fun c9 => ?_) (fun c9 => ?_) | refine V_icmp_lt (tgt := 17) dX9_sheet_9 (by decide) (fun c9 => ?_) (fun c9 => ?_)
        · skip
          exact absurd hlo (Int32.not_le.mpr c9)
        · skip
          refine V_iloadn2 dX9_sheet_12 ?_
          refine V_iconst (v := nI 2) dX9_sheet_13 (by decide) ?_
          first | refine U_icmp_le (tgt := 19) dX9_sheet_14 (by decide) (by with_reducible rfl) (by with_reducible rfl) (by omega) (by omega) (fun c14 => ?_) (fun c14 => ?_) | refine V_icmp_le (tgt := 19) dX9_sheet_14 (by decide) (fun c14 => ?_) (fun c14 => ?_)
          · skip
            refine V_iloadn2 dX9_sheet_19 ?_
            refine V_iconst (v := -1) dX9_sheet_20 (by decide) ?_
            first | refine U_icmp_ne (tgt := 35) dX9_sheet_21 (by decide) (by with_reducible rfl) (by with_reducible rfl) (by omega) (by omega) (fun c21 => ?_) (fun c21 => ?_) | refine V_icmp_ne (tgt := 35) dX9_sheet_21 (by decide) (fun c21 => ?_) (fun c21 => ?_)
            · skip
              refine V_iloadn3 dX9_sheet_35 ?_
              refine V_bipush (v := nI 40) dX9_sheet_36 (by decide) ?_
              first | refine U_icmp_le (tgt := 43) dX9_sheet_38 (by decide) (by with_reducible rfl) (by with_reducible rfl) (by omega) (by omega) (fun c38 => ?_) (fun c38 => ?_) | refine V_icmp_le (tgt := 43) dX9_sheet_38 (by decide) (fun c38 => ?_) (fun c38 => ?_)
              · skip
                refine V_iloadn3 dX9_sheet_43 ?_
                refine V_if_ge (tgt := 50) dX9_sheet_44 (by decide) (fun c44 => ?_) (fun c44 => ?_)
                · skip
                  exact absurd c44 (Int32.not_le.mpr h0)
                · skip
                  refine V_bipush (v := -14) dX9_sheet_47 (by decide) ?_
                  refine V_iret dX9_sheet_49 rfl rfl ?_
                  exact hQ'
              · skip
                exact absurd (Int32.not_lt.mp h40) c38
            · skip
              exact absurd c21 hm
          · skip
            exact absurd hhi (by first | omega | exact c14)
    rw [if_neg h0] at hQ
    obtain ⟨m, m1, rfl⟩ := nI_of h0
    have m2 : m ≤ 40 := (nI_leI m1 (by decide)).mp (Int32.not_lt.mp h40)
    rw [cN_nI m1] at hQ
    refine V_iloadn1 dX9_sheet_0 ?_
    refine V_callS1 (μ' := mX9_isSheet) dX9_sheet_1 okX9_isSheet lX9_283 (Nat.le_of_ble_eq_true rfl) (Nat.le_of_ble_eq_true rfl) (by omega) ?_
    refine c_isSheet ?_
    rw [hg2.1]
    dsimp only [gPush]
    first | refine U_ifB_eq (tgt := 17) dX9_sheet_4 (by decide) (by with_reducible rfl) (fun c4 => ?_) (fun c4 => ?_) | refine U_if_eq (tgt := 17) dX9_sheet_4 (by decide) (by with_reducible rfl) (by omega) (fun c4 => ?_) (fun c4 => ?_) | refine V_if_eq (tgt := 17) dX9_sheet_4 (by decide) (fun c4 => ?_) (fun c4 => ?_)
    · skip
      cases c4
    · skip
      refine V_iloadn2 dX9_sheet_7 ?_
      refine V_iconst (v := -1) dX9_sheet_8 (by decide) ?_
      first | refine U_icmp_lt (tgt := 17) dX9_sheet_9 (by decide) (by with_reducible rfl) (by with_reducible rfl) (by omega) (by omega) (fun c9 => ?_) (fun c9 => ?_) | refine V_icmp_lt (tgt := 17) dX9_sheet_9 (by decide) (fun c9 => ?_) (fun c9 => ?_)
      · skip
        exact absurd hlo (Int32.not_le.mpr c9)
      · skip
        refine V_iloadn2 dX9_sheet_12 ?_
        refine V_iconst (v := nI 2) dX9_sheet_13 (by decide) ?_
        first | refine U_icmp_le (tgt := 19) dX9_sheet_14 (by decide) (by with_reducible rfl) (by with_reducible rfl) (by omega) (by omega) (fun c14 => ?_) (fun c14 => ?_) | refine V_icmp_le (tgt := 19) dX9_sheet_14 (by decide) (fun c14 => ?_) (fun c14 => ?_)
        · skip
          refine V_iloadn2 dX9_sheet_19 ?_
          refine V_iconst (v := -1) dX9_sheet_20 (by decide) ?_
          first | refine U_icmp_ne (tgt := 35) dX9_sheet_21 (by decide) (by with_reducible rfl) (by with_reducible rfl) (by omega) (by omega) (fun c21 => ?_) (fun c21 => ?_) | refine V_icmp_ne (tgt := 35) dX9_sheet_21 (by decide) (fun c21 => ?_) (fun c21 => ?_)
          · skip
            refine V_iloadn3 dX9_sheet_35 ?_
            refine V_bipush (v := nI 40) dX9_sheet_36 (by decide) ?_
            first | refine U_icmp_le (tgt := 43) dX9_sheet_38 (by decide) (by with_reducible rfl) (by with_reducible rfl) (by omega) (by omega) (fun c38 => ?_) (fun c38 => ?_) | refine V_icmp_le (tgt := 43) dX9_sheet_38 (by decide) (fun c38 => ?_) (fun c38 => ?_)
            · skip
              refine V_iloadn3 dX9_sheet_43 ?_
              refine V_if_ge (tgt := 50) dX9_sheet_44 (by decide) (fun c44 => ?_) (fun c44 => ?_)
              · skip
                refine V_aloadn0 dX9_sheet_50 ?_
                refine V_getR dX9_sheet_51 fX9_28 (by first | assumption | rfl | exact lay_s0 (by omega) | exact lay_s1 (by omega) | exact lay_s2 (by omega) | exact lay_h0 (by omega) | exact lay_h1 (by omega)) (by first | decide | omega) (by first | assumption | exact CL0_0 (by assumption) | exact CL0_1 (by assumption) | exact CL0_3 (by assumption) | exact CL0_4 (by assumption) | exact CL0_5 (by assumption) | exact CL0_6 (by assumption) | exact CL0_7 (by assumption) | exact CL0_8 (by assumption) | exact CL0_9 (by assumption) | exact CL0_10 (by assumption) | exact CL0_11 (by assumption) | exact CL0_12 (by assumption) | exact CL0_13 (by assumption) | exact CL1_2 (by assumption) | exact CL1_3 (by assumption) | exact CL80_2 (by assumption) | exact CL_slot (by assumption) (by omega) | exact (CL_sh (by assumption) (by omega)).1 | exact (CL_sh (by assumption) (by omega)).2.1 | rfl) ?_
                refine V_iloadn1 dX9_sheet_54 ?_
                refine U_aald dX9_sheet_55 (by with_reducible rfl) (by first | assumption | rfl | exact lay_s0 (by omega) | exact lay_s1 (by omega) | exact lay_s2 (by omega) | exact lay_h0 (by omega) | exact lay_h1 (by omega)) (by decide) (by first | decide | omega) (by omega) (by first | assumption | exact CL0_0 (by assumption) | exact CL0_1 (by assumption) | exact CL0_3 (by assumption) | exact CL0_4 (by assumption) | exact CL0_5 (by assumption) | exact CL0_6 (by assumption) | exact CL0_7 (by assumption) | exact CL0_8 (by assumption) | exact CL0_9 (by assumption) | exact CL0_10 (by assumption) | exact CL0_11 (by assumption) | exact CL0_12 (by assumption) | exact CL0_13 (by assumption) | exact CL1_2 (by assumption) | exact CL1_3 (by assumption) | exact CL80_2 (by assumption) | exact CL_slot (by assumption) (by omega) | exact (CL_sh (by assumption) (by omega)).1 | exact (CL_sh (by assumption) (by omega)).2.1 | rfl) ?_
                refine V_iloadn2 dX9_sheet_56 ?_
                refine V_iloadn3 dX9_sheet_57 ?_
                refine V_callV2 (μ' := mX5_becomeRow) dX9_sheet_58 okX5_becomeRow lX9_289 rfl (by first | assumption | rfl | exact lay_s0 (by omega) | exact lay_s1 (by omega) | exact lay_s2 (by omega) | exact lay_h0 (by omega) | exact lay_h1 (by omega)) (by first | decide | omega) (Nat.le_of_ble_eq_true rfl) (Nat.le_of_ble_eq_true rfl) (by omega) ?_
                refine c_becomeRow (by omega) y0 y1 r2 (by omega) (fun h1 hz hF1 => ?_)
                have g1 : ∀ a b, gI h1 a b = gI (sI (sI h (86 + 2 * s) 0 (nI o)) (86 + 2 * s) 1 (nI m)) a b := fun a b => by rw [hF1.2.1]
                have hQ' := hQ h1 (RC_sh hR hs (X := (o + 1, m, fun _ => nI 0)) ⟨by rw [g1, gI_sI, if_neg (by omega), gI_sI, if_pos ⟨rfl, rfl⟩]; rfl, by rw [g1, gI_sI, if_pos ⟨rfl, rfl⟩], fun _ k hk => by rw [hz k hk]; rfl⟩ ⟨by omega, m2, fun q => absurd q (Nat.succ_ne_zero _)⟩ (fun a ha => by funext b; rw [g1, gI_sI, if_neg (fun q => ha q.1), gI_sI, if_neg (fun q => ha q.1)]) (fun a ha => hF1.1 a (by omega)) hF1.2.2) ⟨fun a ha => by funext b; rw [g1, gI_sI, if_neg (by omega), gI_sI, if_neg (by omega)], fun a ha => hF1.1 a (by omega), fun a ha => by rw [hF1.2.2]; rfl⟩
                dsimp only [gPush]
                refine V_iconst (v := nI 1) dX9_sheet_61 (by decide) ?_
                refine V_iret dX9_sheet_62 rfl rfl ?_
                exact hQ'
              · skip
                exact absurd (nI_pos' m1) c44
            · skip
              omega
          · skip
            exact absurd c21 hm
        · skip
          exact absurd hhi (by first | omega | exact c14)
  · have eq0 : f_sheet S x so n = (-1, S) := if_neg hg
    rw [eq0] at hQ
    have hQ9 := hQ h hR FrC.rf
    refine V_iloadn1 dX9_sheet_0 ?_
    refine V_callS1 (μ' := mX9_isSheet) dX9_sheet_1 okX9_isSheet lX9_283 (Nat.le_of_ble_eq_true rfl) (Nat.le_of_ble_eq_true rfl) (by omega) ?_
    refine c_isSheet ?_
    dsimp only [gPush]
    first | refine U_ifB_eq (tgt := 17) dX9_sheet_4 (by decide) (by with_reducible rfl) (fun c4 => ?_) (fun c4 => ?_) | refine U_if_eq (tgt := 17) dX9_sheet_4 (by decide) (by with_reducible rfl) (by omega) (fun c4 => ?_) (fun c4 => ?_) | refine V_if_eq (tgt := 17) dX9_sheet_4 (by decide) (fun c4 => ?_) (fun c4 => ?_)
    · skip
      refine V_iconst (v := -1) dX9_sheet_17 (by decide) ?_
      refine V_iret dX9_sheet_18 rfl rfl ?_
      exact hQ9
    · skip
      refine V_iloadn2 dX9_sheet_7 ?_
      refine V_iconst (v := -1) dX9_sheet_8 (by decide) ?_
      first | refine U_icmp_lt (tgt := 17) dX9_sheet_9 (by decide) (by with_reducible rfl) (by with_reducible rfl) (by omega) (by omega) (fun c9 => ?_) (fun c9 => ?_) | refine V_icmp_lt (tgt := 17) dX9_sheet_9 (by decide) (fun c9 => ?_) (fun c9 => ?_)
      · skip
        refine V_iconst (v := -1) dX9_sheet_17 (by decide) ?_
        refine V_iret dX9_sheet_18 rfl rfl ?_
        exact hQ9
      · skip
        refine V_iloadn2 dX9_sheet_12 ?_
        refine V_iconst (v := nI 2) dX9_sheet_13 (by decide) ?_
        first | refine U_icmp_le (tgt := 19) dX9_sheet_14 (by decide) (by with_reducible rfl) (by with_reducible rfl) (by omega) (by omega) (fun c14 => ?_) (fun c14 => ?_) | refine V_icmp_le (tgt := 19) dX9_sheet_14 (by decide) (fun c14 => ?_) (fun c14 => ?_)
        · skip
          exact absurd (by rw [c4, decide_eq_true (Int32.not_lt.mp c9), decide_eq_true c14]; rfl) hg
        · skip
          refine V_iconst (v := -1) dX9_sheet_17 (by decide) ?_
          refine V_iret dX9_sheet_18 rfl rfl ?_
          exact hQ9

set_option maxRecDepth 100000 in
set_option maxHeartbeats 4000000 in
theorem c_put {x i v : Int32} (hd : 1 ≤ d) (hR : RC h S) (hQ : ∀ h', RC h' (f_put S x i v).2 → FrC h h' → Q (some (.int (f_put S x i v).1)) h') : V Γ mX9_put d 124 124 h 0 [some (.ref 0), some (.int x), some (.int i), some (.int v), none] [] Q := by
  obtain ⟨hC, hW, hA, hK, hK2, hB, hSh, hFm⟩ := id hR
  have n0 := hA.1
  have hn2 := hW.1.1
  have hn5 := hW.1.2.1
  cases hg : inB x 4 with
  | false =>
    have eq0 : f_put S x i v = (-1, S) := if_f hg
    rw [eq0] at hQ
    have hQ9 := hQ h hR FrC.rf
    refine V_iloadn1 dX9_put_0 ?_
    refine V_callS1 (μ' := mX9_isSheet) dX9_put_1 okX9_isSheet lX9_283 (Nat.le_of_ble_eq_true rfl) (Nat.le_of_ble_eq_true rfl) (by omega) ?_
    refine c_isSheet ?_
    rw [hg]
    dsimp only [gPush]
    first | refine U_ifB_ne (tgt := 9) dX9_put_4 (by decide) (by with_reducible rfl) (fun c4 => ?_) (fun c4 => ?_) | refine U_if_ne (tgt := 9) dX9_put_4 (by decide) (by with_reducible rfl) (by omega) (fun c4 => ?_) (fun c4 => ?_) | refine V_if_ne (tgt := 9) dX9_put_4 (by decide) (fun c4 => ?_) (fun c4 => ?_)
    · skip
      cases c4
    · skip
      refine V_iconst (v := -1) dX9_put_7 (by decide) ?_
      refine V_iret dX9_put_8 rfl rfl ?_
      exact hQ9
  | true =>
    obtain ⟨s, hs, rfl⟩ := inB_t (by decide) hg
    obtain ⟨x0, x1, x2⟩ := hSh s hs
    obtain ⟨b1, b2, b3⟩ := hW.2.2.2 s hs
    obtain ⟨r45, r2, y0, y1⟩ := CL_sh hC hs
    have eq0 : f_put S (nI s) i v = _ := if_t hg
    rw [eq0, cN_nI (by omega)] at hQ
    have hp1 := hp_1 (x := i) (l := (S.2.2.2 s).2.1) (by omega)
    by_cases hm : (S.2.2.2 s).1 = 0
    · rw [if_pos hm] at hQ
      have hQ9 := hQ h hR FrC.rf
      refine V_iloadn1 dX9_put_0 ?_
      refine V_callS1 (μ' := mX9_isSheet) dX9_put_1 okX9_isSheet lX9_283 (Nat.le_of_ble_eq_true rfl) (Nat.le_of_ble_eq_true rfl) (by omega) ?_
      refine c_isSheet ?_
      rw [hg]
      dsimp only [gPush]
      first | refine U_ifB_ne (tgt := 9) dX9_put_4 (by decide) (by with_reducible rfl) (fun c4 => ?_) (fun c4 => ?_) | refine U_if_ne (tgt := 9) dX9_put_4 (by decide) (by with_reducible rfl) (by omega) (fun c4 => ?_) (fun c4 => ?_) | refine V_if_ne (tgt := 9) dX9_put_4 (by decide) (fun c4 => ?_) (fun c4 => ?_)
      · skip
        refine V_aloadn0 dX9_put_9 ?_
        refine V_getR dX9_put_10 fX9_28 (by first | assumption | rfl | exact lay_s0 (by omega) | exact lay_s1 (by omega) | exact lay_s2 (by omega) | exact lay_h0 (by omega) | exact lay_h1 (by omega)) (by first | decide | omega) (by first | assumption | exact CL0_0 (by assumption) | exact CL0_1 (by assumption) | exact CL0_3 (by assumption) | exact CL0_4 (by assumption) | exact CL0_5 (by assumption) | exact CL0_6 (by assumption) | exact CL0_7 (by assumption) | exact CL0_8 (by assumption) | exact CL0_9 (by assumption) | exact CL0_10 (by assumption) | exact CL0_11 (by assumption) | exact CL0_12 (by assumption) | exact CL0_13 (by assumption) | exact CL1_2 (by assumption) | exact CL1_3 (by assumption) | exact CL80_2 (by assumption) | exact CL_slot (by assumption) (by omega) | exact (CL_sh (by assumption) (by omega)).1 | exact (CL_sh (by assumption) (by omega)).2.1 | rfl) ?_
        refine V_iloadn1 dX9_put_13 ?_
        refine U_aald dX9_put_14 (by with_reducible rfl) (by first | assumption | rfl | exact lay_s0 (by omega) | exact lay_s1 (by omega) | exact lay_s2 (by omega) | exact lay_h0 (by omega) | exact lay_h1 (by omega)) (by decide) (by first | decide | omega) (by omega) (by first | assumption | exact CL0_0 (by assumption) | exact CL0_1 (by assumption) | exact CL0_3 (by assumption) | exact CL0_4 (by assumption) | exact CL0_5 (by assumption) | exact CL0_6 (by assumption) | exact CL0_7 (by assumption) | exact CL0_8 (by assumption) | exact CL0_9 (by assumption) | exact CL0_10 (by assumption) | exact CL0_11 (by assumption) | exact CL0_12 (by assumption) | exact CL0_13 (by assumption) | exact CL1_2 (by assumption) | exact CL1_3 (by assumption) | exact CL80_2 (by assumption) | exact CL_slot (by assumption) (by omega) | exact (CL_sh (by assumption) (by omega)).1 | exact (CL_sh (by assumption) (by omega)).2.1 | rfl) ?_
        refine V_astorew4 dX9_put_15 (by decide) rfl ?_
        refine V_aloadw4 dX9_put_17 ?_
        refine V_callV0 (μ' := mX5_isMissing) dX9_put_19 okX5_isMissing lX9_293 rfl (by first | assumption | rfl | exact lay_s0 (by omega) | exact lay_s1 (by omega) | exact lay_s2 (by omega) | exact lay_h0 (by omega) | exact lay_h1 (by omega)) (by first | decide | omega) (Nat.le_of_ble_eq_true rfl) (Nat.le_of_ble_eq_true rfl) (by omega) ?_
        refine c_isMissing y0 x0 ?_
        rw [soI_z _ b1, decide_eq_true hm]
        dsimp only [gPush]
        first | refine U_ifB_eq (tgt := 28) dX9_put_22 (by decide) (by with_reducible rfl) (fun c22 => ?_) (fun c22 => ?_) | refine U_if_eq (tgt := 28) dX9_put_22 (by decide) (by with_reducible rfl) (by omega) (fun c22 => ?_) (fun c22 => ?_) | refine V_if_eq (tgt := 28) dX9_put_22 (by decide) (fun c22 => ?_) (fun c22 => ?_)
        · skip
          cases c22
        · skip
          refine V_bipush (v := -11) dX9_put_25 (by decide) ?_
          refine V_iret dX9_put_27 rfl rfl ?_
          exact hQ9
      · skip
        cases c4
    rw [if_neg hm] at hQ
    have x0' : gI h (86 + 2 * s) 0 = nI ((S.2.2.2 s).1 - 1) := by rw [x0, soI_p hm]
    cases hi : inB i (S.2.2.2 s).2.1 with
    | false =>
      rw [if_f hi] at hQ
      have hQ9 := hQ h hR FrC.rf
      refine V_iloadn1 dX9_put_0 ?_
      refine V_callS1 (μ' := mX9_isSheet) dX9_put_1 okX9_isSheet lX9_283 (Nat.le_of_ble_eq_true rfl) (Nat.le_of_ble_eq_true rfl) (by omega) ?_
      refine c_isSheet ?_
      rw [hg]
      dsimp only [gPush]
      first | refine U_ifB_ne (tgt := 9) dX9_put_4 (by decide) (by with_reducible rfl) (fun c4 => ?_) (fun c4 => ?_) | refine U_if_ne (tgt := 9) dX9_put_4 (by decide) (by with_reducible rfl) (by omega) (fun c4 => ?_) (fun c4 => ?_) | refine V_if_ne (tgt := 9) dX9_put_4 (by decide) (fun c4 => ?_) (fun c4 => ?_)
      · skip
        refine V_aloadn0 dX9_put_9 ?_
        refine V_getR dX9_put_10 fX9_28 (by first | assumption | rfl | exact lay_s0 (by omega) | exact lay_s1 (by omega) | exact lay_s2 (by omega) | exact lay_h0 (by omega) | exact lay_h1 (by omega)) (by first | decide | omega) (by first | assumption | exact CL0_0 (by assumption) | exact CL0_1 (by assumption) | exact CL0_3 (by assumption) | exact CL0_4 (by assumption) | exact CL0_5 (by assumption) | exact CL0_6 (by assumption) | exact CL0_7 (by assumption) | exact CL0_8 (by assumption) | exact CL0_9 (by assumption) | exact CL0_10 (by assumption) | exact CL0_11 (by assumption) | exact CL0_12 (by assumption) | exact CL0_13 (by assumption) | exact CL1_2 (by assumption) | exact CL1_3 (by assumption) | exact CL80_2 (by assumption) | exact CL_slot (by assumption) (by omega) | exact (CL_sh (by assumption) (by omega)).1 | exact (CL_sh (by assumption) (by omega)).2.1 | rfl) ?_
        refine V_iloadn1 dX9_put_13 ?_
        refine U_aald dX9_put_14 (by with_reducible rfl) (by first | assumption | rfl | exact lay_s0 (by omega) | exact lay_s1 (by omega) | exact lay_s2 (by omega) | exact lay_h0 (by omega) | exact lay_h1 (by omega)) (by decide) (by first | decide | omega) (by omega) (by first | assumption | exact CL0_0 (by assumption) | exact CL0_1 (by assumption) | exact CL0_3 (by assumption) | exact CL0_4 (by assumption) | exact CL0_5 (by assumption) | exact CL0_6 (by assumption) | exact CL0_7 (by assumption) | exact CL0_8 (by assumption) | exact CL0_9 (by assumption) | exact CL0_10 (by assumption) | exact CL0_11 (by assumption) | exact CL0_12 (by assumption) | exact CL0_13 (by assumption) | exact CL1_2 (by assumption) | exact CL1_3 (by assumption) | exact CL80_2 (by assumption) | exact CL_slot (by assumption) (by omega) | exact (CL_sh (by assumption) (by omega)).1 | exact (CL_sh (by assumption) (by omega)).2.1 | rfl) ?_
        refine V_astorew4 dX9_put_15 (by decide) rfl ?_
        refine V_aloadw4 dX9_put_17 ?_
        refine V_callV0 (μ' := mX5_isMissing) dX9_put_19 okX5_isMissing lX9_293 rfl (by first | assumption | rfl | exact lay_s0 (by omega) | exact lay_s1 (by omega) | exact lay_s2 (by omega) | exact lay_h0 (by omega) | exact lay_h1 (by omega)) (by first | decide | omega) (Nat.le_of_ble_eq_true rfl) (Nat.le_of_ble_eq_true rfl) (by omega) ?_
        refine c_isMissing y0 x0 ?_
        rw [soI_z _ b1, decide_eq_false hm]
        dsimp only [gPush]
        first | refine U_ifB_eq (tgt := 28) dX9_put_22 (by decide) (by with_reducible rfl) (fun c22 => ?_) (fun c22 => ?_) | refine U_if_eq (tgt := 28) dX9_put_22 (by decide) (by with_reducible rfl) (by omega) (fun c22 => ?_) (fun c22 => ?_) | refine V_if_eq (tgt := 28) dX9_put_22 (by decide) (fun c22 => ?_) (fun c22 => ?_)
        · skip
          refine V_aloadw4 dX9_put_28 ?_
          refine V_iloadn2 dX9_put_30 ?_
          refine V_iconst (v := nI 1) dX9_put_31 (by decide) ?_
          refine V_callV2 (μ' := mX5_hasPlaces) dX9_put_32 okX5_hasPlaces lX9_296 rfl (by first | assumption | rfl | exact lay_s0 (by omega) | exact lay_s1 (by omega) | exact lay_s2 (by omega) | exact lay_h0 (by omega) | exact lay_h1 (by omega)) (by first | decide | omega) (Nat.le_of_ble_eq_true rfl) (Nat.le_of_ble_eq_true rfl) (by omega) ?_
          refine c_hasPlaces y0 x1 ?_
          rw [hp1, hi]
          dsimp only [gPush]
          first | refine U_ifB_ne (tgt := 41) dX9_put_35 (by decide) (by with_reducible rfl) (fun c35 => ?_) (fun c35 => ?_) | refine U_if_ne (tgt := 41) dX9_put_35 (by decide) (by with_reducible rfl) (by omega) (fun c35 => ?_) (fun c35 => ?_) | refine V_if_ne (tgt := 41) dX9_put_35 (by decide) (fun c35 => ?_) (fun c35 => ?_)
          · skip
            cases c35
          · skip
            refine V_bipush (v := -12) dX9_put_38 (by decide) ?_
            refine V_iret dX9_put_40 rfl rfl ?_
            exact hQ9
        · skip
          cases c22
      · skip
        cases c4
    | true =>
      obtain ⟨j, hj, rfl⟩ := inB_t (by omega) hi
      rw [if_t hi, cN_nI (by omega)] at hQ
      have fin : Q (some (.int (nI 1))) (sL h (86 + 2 * s + 1) j (cutS ((S.2.2.2 s).1 - 1) v).toInt64) := by
        refine hQ _ (RC_sh hR hs ⟨x0, x1, fun q k hk => ?_⟩ ⟨b1, b2, b3⟩ (fun a ha => rfl) (fun a ha => ?_) rfl) ⟨fun a ha => rfl, fun a ha => ?_, fun a ha => rfl⟩
        · rw [gL_sL]
          show _ = (if k = j then cutS ((S.2.2.2 s).1 - 1) v else (S.2.2.2 s).2.2 k).toInt64
          by_cases e : k = j
          · rw [if_pos ⟨rfl, e⟩, if_pos e]
          · rw [if_neg (fun z => e z.2), if_neg e]; exact x2 q k hk
        · funext b
          rw [gL_sL, if_neg (fun z => ha z.1)]
        · funext b
          rw [gL_sL, if_neg (by omega)]
      refine V_iloadn1 dX9_put_0 ?_
      refine V_callS1 (μ' := mX9_isSheet) dX9_put_1 okX9_isSheet lX9_283 (Nat.le_of_ble_eq_true rfl) (Nat.le_of_ble_eq_true rfl) (by omega) ?_
      refine c_isSheet ?_
      rw [hg]
      dsimp only [gPush]
      first | refine U_ifB_ne (tgt := 9) dX9_put_4 (by decide) (by with_reducible rfl) (fun c4 => ?_) (fun c4 => ?_) | refine U_if_ne (tgt := 9) dX9_put_4 (by decide) (by with_reducible rfl) (by omega) (fun c4 => ?_) (fun c4 => ?_) | refine V_if_ne (tgt := 9) dX9_put_4 (by decide) (fun c4 => ?_) (fun c4 => ?_)
      · skip
        refine V_aloadn0 dX9_put_9 ?_
        refine V_getR dX9_put_10 fX9_28 (by first | assumption | rfl | exact lay_s0 (by omega) | exact lay_s1 (by omega) | exact lay_s2 (by omega) | exact lay_h0 (by omega) | exact lay_h1 (by omega)) (by first | decide | omega) (by first | assumption | exact CL0_0 (by assumption) | exact CL0_1 (by assumption) | exact CL0_3 (by assumption) | exact CL0_4 (by assumption) | exact CL0_5 (by assumption) | exact CL0_6 (by assumption) | exact CL0_7 (by assumption) | exact CL0_8 (by assumption) | exact CL0_9 (by assumption) | exact CL0_10 (by assumption) | exact CL0_11 (by assumption) | exact CL0_12 (by assumption) | exact CL0_13 (by assumption) | exact CL1_2 (by assumption) | exact CL1_3 (by assumption) | exact CL80_2 (by assumption) | exact CL_slot (by assumption) (by omega) | exact (CL_sh (by assumption) (by omega)).1 | exact (CL_sh (by assumption) (by omega)).2.1 | rfl) ?_
        refine V_iloadn1 dX9_put_13 ?_
        refine U_aald dX9_put_14 (by with_reducible rfl) (by first | assumption | rfl | exact lay_s0 (by omega) | exact lay_s1 (by omega) | exact lay_s2 (by omega) | exact lay_h0 (by omega) | exact lay_h1 (by omega)) (by decide) (by first | decide | omega) (by omega) (by first | assumption | exact CL0_0 (by assumption) | exact CL0_1 (by assumption) | exact CL0_3 (by assumption) | exact CL0_4 (by assumption) | exact CL0_5 (by assumption) | exact CL0_6 (by assumption) | exact CL0_7 (by assumption) | exact CL0_8 (by assumption) | exact CL0_9 (by assumption) | exact CL0_10 (by assumption) | exact CL0_11 (by assumption) | exact CL0_12 (by assumption) | exact CL0_13 (by assumption) | exact CL1_2 (by assumption) | exact CL1_3 (by assumption) | exact CL80_2 (by assumption) | exact CL_slot (by assumption) (by omega) | exact (CL_sh (by assumption) (by omega)).1 | exact (CL_sh (by assumption) (by omega)).2.1 | rfl) ?_
        refine V_astorew4 dX9_put_15 (by decide) rfl ?_
        refine V_aloadw4 dX9_put_17 ?_
        refine V_callV0 (μ' := mX5_isMissing) dX9_put_19 okX5_isMissing lX9_293 rfl (by first | assumption | rfl | exact lay_s0 (by omega) | exact lay_s1 (by omega) | exact lay_s2 (by omega) | exact lay_h0 (by omega) | exact lay_h1 (by omega)) (by first | decide | omega) (Nat.le_of_ble_eq_true rfl) (Nat.le_of_ble_eq_true rfl) (by omega) ?_
        refine c_isMissing y0 x0 ?_
        rw [soI_z _ b1, decide_eq_false hm]
        dsimp only [gPush]
        first | refine U_ifB_eq (tgt := 28) dX9_put_22 (by decide) (by with_reducible rfl) (fun c22 => ?_) (fun c22 => ?_) | refine U_if_eq (tgt := 28) dX9_put_22 (by decide) (by with_reducible rfl) (by omega) (fun c22 => ?_) (fun c22 => ?_) | refine V_if_eq (tgt := 28) dX9_put_22 (by decide) (fun c22 => ?_) (fun c22 => ?_)
        · skip
          refine V_aloadw4 dX9_put_28 ?_
          refine V_iloadn2 dX9_put_30 ?_
          refine V_iconst (v := nI 1) dX9_put_31 (by decide) ?_
          refine V_callV2 (μ' := mX5_hasPlaces) dX9_put_32 okX5_hasPlaces lX9_296 rfl (by first | assumption | rfl | exact lay_s0 (by omega) | exact lay_s1 (by omega) | exact lay_s2 (by omega) | exact lay_h0 (by omega) | exact lay_h1 (by omega)) (by first | decide | omega) (Nat.le_of_ble_eq_true rfl) (Nat.le_of_ble_eq_true rfl) (by omega) ?_
          refine c_hasPlaces y0 x1 ?_
          rw [hp1, hi]
          dsimp only [gPush]
          first | refine U_ifB_ne (tgt := 41) dX9_put_35 (by decide) (by with_reducible rfl) (fun c35 => ?_) (fun c35 => ?_) | refine U_if_ne (tgt := 41) dX9_put_35 (by decide) (by with_reducible rfl) (by omega) (fun c35 => ?_) (fun c35 => ?_) | refine V_if_ne (tgt := 41) dX9_put_35 (by decide) (fun c35 => ?_) (fun c35 => ?_)
          · skip
            refine V_aloadw4 dX9_put_41 ?_
            refine V_iloadn2 dX9_put_43 ?_
            refine V_iloadn3 dX9_put_44 ?_
            refine V_callV2 (μ' := mX5_write) dX9_put_45 okX5_write lX9_299 rfl (by first | assumption | rfl | exact lay_s0 (by omega) | exact lay_s1 (by omega) | exact lay_s2 (by omega) | exact lay_h0 (by omega) | exact lay_h1 (by omega)) (by first | decide | omega) (Nat.le_of_ble_eq_true rfl) (Nat.le_of_ble_eq_true rfl) (by omega) ?_
            refine c_sheetWrite y0 y1 r2 (by omega) x0' (by omega) (by omega) ?_
            dsimp only [gPush]
            refine V_iconst (v := nI 1) dX9_put_48 (by decide) ?_
            refine V_iret dX9_put_49 rfl rfl ?_
            exact fin
          · skip
            cases c35
        · skip
          cases c22
      · skip
        cases c4

set_option maxRecDepth 100000 in
set_option maxHeartbeats 4000000 in
theorem c_item {x so i : Int32} (hd : 1 ≤ d) (hR : RC h S) (hQ : ∀ h', RC h' S → FrC h h' → Q (some (.int (g_item S x so i))) h') : V Γ mX9_item d 124 124 h 0 [some (.ref 0), some (.int x), some (.int so), some (.int i), none] [] Q := by
  obtain ⟨hC, hW, hA, hK, hK2, hB, hSh, hFm⟩ := id hR
  have n0 := hA.1
  have hn2 := hW.1.1
  have hn5 := hW.1.2.1
  by_cases hg : (inB x 4 && inR so 0 2) = true
  · have hg2 := hg
    rw [Bool.and_eq_true] at hg2
    obtain ⟨s, hs, rfl⟩ := inB_t (by decide) hg2.1
    obtain ⟨o, o0, o2, rfl⟩ := inR_t (by decide) (by decide) hg2.2
    obtain ⟨x0, x1, x2⟩ := hSh s hs
    obtain ⟨b1, b2, b3⟩ := hW.2.2.2 s hs
    obtain ⟨r45, r2, y0, y1⟩ := CL_sh hC hs
    have eq0 : g_item S (nI s) (nI o) i = _ := if_t hg
    rw [eq0, cN_nI (by omega)] at hQ
    have hQ9 := hQ h hR FrC.rf
    have hp1 := hp_1 (x := i) (l := (S.2.2.2 s).2.1) (by omega)
    by_cases hm : (S.2.2.2 s).1 = 0
    · rw [if_pos hm] at hQ9
      refine V_iloadn1 dX9_item_0 ?_
      refine V_callS1 (μ' := mX9_isSheet) dX9_item_1 okX9_isSheet lX9_283 (Nat.le_of_ble_eq_true rfl) (Nat.le_of_ble_eq_true rfl) (by omega) ?_
      refine c_isSheet ?_
      rw [hg2.1]
      dsimp only [gPush]
      first | refine U_ifB_eq (tgt := 16) dX9_item_4 (by decide) (by with_reducible rfl) (fun c4 => ?_) (fun c4 => ?_) | refine U_if_eq (tgt := 16) dX9_item_4 (by decide) (by with_reducible rfl) (by omega) (fun c4 => ?_) (fun c4 => ?_) | refine V_if_eq (tgt := 16) dX9_item_4 (by decide) (fun c4 => ?_) (fun c4 => ?_)
      · skip
        cases c4
      · skip
        refine V_iloadn2 dX9_item_7 ?_
        refine V_if_lt (tgt := 16) dX9_item_8 (by decide) (fun c8 => ?_) (fun c8 => ?_)
        · skip
          exact absurd c8 (nI_pos (by omega))
        · skip
          refine V_iloadn2 dX9_item_11 ?_
          refine V_iconst (v := nI 2) dX9_item_12 (by decide) ?_
          first | refine U_icmp_le (tgt := 18) dX9_item_13 (by decide) (by with_reducible rfl) (by with_reducible rfl) (by omega) (by omega) (fun c13 => ?_) (fun c13 => ?_) | refine V_icmp_le (tgt := 18) dX9_item_13 (by decide) (fun c13 => ?_) (fun c13 => ?_)
          · skip
            refine V_aloadn0 dX9_item_18 ?_
            refine V_getR dX9_item_19 fX9_28 (by first | assumption | rfl | exact lay_s0 (by omega) | exact lay_s1 (by omega) | exact lay_s2 (by omega) | exact lay_h0 (by omega) | exact lay_h1 (by omega)) (by first | decide | omega) (by first | assumption | exact CL0_0 (by assumption) | exact CL0_1 (by assumption) | exact CL0_3 (by assumption) | exact CL0_4 (by assumption) | exact CL0_5 (by assumption) | exact CL0_6 (by assumption) | exact CL0_7 (by assumption) | exact CL0_8 (by assumption) | exact CL0_9 (by assumption) | exact CL0_10 (by assumption) | exact CL0_11 (by assumption) | exact CL0_12 (by assumption) | exact CL0_13 (by assumption) | exact CL1_2 (by assumption) | exact CL1_3 (by assumption) | exact CL80_2 (by assumption) | exact CL_slot (by assumption) (by omega) | exact (CL_sh (by assumption) (by omega)).1 | exact (CL_sh (by assumption) (by omega)).2.1 | rfl) ?_
            refine V_iloadn1 dX9_item_22 ?_
            refine U_aald dX9_item_23 (by with_reducible rfl) (by first | assumption | rfl | exact lay_s0 (by omega) | exact lay_s1 (by omega) | exact lay_s2 (by omega) | exact lay_h0 (by omega) | exact lay_h1 (by omega)) (by decide) (by first | decide | omega) (by omega) (by first | assumption | exact CL0_0 (by assumption) | exact CL0_1 (by assumption) | exact CL0_3 (by assumption) | exact CL0_4 (by assumption) | exact CL0_5 (by assumption) | exact CL0_6 (by assumption) | exact CL0_7 (by assumption) | exact CL0_8 (by assumption) | exact CL0_9 (by assumption) | exact CL0_10 (by assumption) | exact CL0_11 (by assumption) | exact CL0_12 (by assumption) | exact CL0_13 (by assumption) | exact CL1_2 (by assumption) | exact CL1_3 (by assumption) | exact CL80_2 (by assumption) | exact CL_slot (by assumption) (by omega) | exact (CL_sh (by assumption) (by omega)).1 | exact (CL_sh (by assumption) (by omega)).2.1 | rfl) ?_
            refine V_astorew4 dX9_item_24 (by decide) rfl ?_
            refine V_aloadw4 dX9_item_26 ?_
            refine V_callV0 (μ' := mX5_isMissing) dX9_item_28 okX5_isMissing lX9_293 rfl (by first | assumption | rfl | exact lay_s0 (by omega) | exact lay_s1 (by omega) | exact lay_s2 (by omega) | exact lay_h0 (by omega) | exact lay_h1 (by omega)) (by first | decide | omega) (Nat.le_of_ble_eq_true rfl) (Nat.le_of_ble_eq_true rfl) (by omega) ?_
            refine c_isMissing y0 x0 ?_
            rw [soI_z _ b1, decide_eq_true hm]
            dsimp only [gPush]
            first | refine U_ifB_eq (tgt := 37) dX9_item_31 (by decide) (by with_reducible rfl) (fun c31 => ?_) (fun c31 => ?_) | refine U_if_eq (tgt := 37) dX9_item_31 (by decide) (by with_reducible rfl) (by omega) (fun c31 => ?_) (fun c31 => ?_) | refine V_if_eq (tgt := 37) dX9_item_31 (by decide) (fun c31 => ?_) (fun c31 => ?_)
            · skip
              cases c31
            · skip
              refine V_bipush (v := -11) dX9_item_34 (by decide) ?_
              refine V_iret dX9_item_36 rfl rfl ?_
              exact hQ9
          · skip
            omega
    rw [if_neg hm] at hQ9
    have x0' : gI h (86 + 2 * s) 0 = nI ((S.2.2.2 s).1 - 1) := by rw [x0, soI_p hm]
    by_cases ho : nI o = nI ((S.2.2.2 s).1 - 1)
    · rw [if_neg (fun q => q ho)] at hQ9
      have ho2 := (nI_eq (by omega) (by omega)).mp ho
      cases hi : inB i (S.2.2.2 s).2.1 with
      | false =>
        rw [if_f hi] at hQ9
        refine V_iloadn1 dX9_item_0 ?_
        refine V_callS1 (μ' := mX9_isSheet) dX9_item_1 okX9_isSheet lX9_283 (Nat.le_of_ble_eq_true rfl) (Nat.le_of_ble_eq_true rfl) (by omega) ?_
        refine c_isSheet ?_
        rw [hg2.1]
        dsimp only [gPush]
        first | refine U_ifB_eq (tgt := 16) dX9_item_4 (by decide) (by with_reducible rfl) (fun c4 => ?_) (fun c4 => ?_) | refine U_if_eq (tgt := 16) dX9_item_4 (by decide) (by with_reducible rfl) (by omega) (fun c4 => ?_) (fun c4 => ?_) | refine V_if_eq (tgt := 16) dX9_item_4 (by decide) (fun c4 => ?_) (fun c4 => ?_)
        · skip
          cases c4
        · skip
          refine V_iloadn2 dX9_item_7 ?_
          refine V_if_lt (tgt := 16) dX9_item_8 (by decide) (fun c8 => ?_) (fun c8 => ?_)
          · skip
            exact absurd c8 (nI_pos (by omega))
          · skip
            refine V_iloadn2 dX9_item_11 ?_
            refine V_iconst (v := nI 2) dX9_item_12 (by decide) ?_
            first | refine U_icmp_le (tgt := 18) dX9_item_13 (by decide) (by with_reducible rfl) (by with_reducible rfl) (by omega) (by omega) (fun c13 => ?_) (fun c13 => ?_) | refine V_icmp_le (tgt := 18) dX9_item_13 (by decide) (fun c13 => ?_) (fun c13 => ?_)
            · skip
              refine V_aloadn0 dX9_item_18 ?_
              refine V_getR dX9_item_19 fX9_28 (by first | assumption | rfl | exact lay_s0 (by omega) | exact lay_s1 (by omega) | exact lay_s2 (by omega) | exact lay_h0 (by omega) | exact lay_h1 (by omega)) (by first | decide | omega) (by first | assumption | exact CL0_0 (by assumption) | exact CL0_1 (by assumption) | exact CL0_3 (by assumption) | exact CL0_4 (by assumption) | exact CL0_5 (by assumption) | exact CL0_6 (by assumption) | exact CL0_7 (by assumption) | exact CL0_8 (by assumption) | exact CL0_9 (by assumption) | exact CL0_10 (by assumption) | exact CL0_11 (by assumption) | exact CL0_12 (by assumption) | exact CL0_13 (by assumption) | exact CL1_2 (by assumption) | exact CL1_3 (by assumption) | exact CL80_2 (by assumption) | exact CL_slot (by assumption) (by omega) | exact (CL_sh (by assumption) (by omega)).1 | exact (CL_sh (by assumption) (by omega)).2.1 | rfl) ?_
              refine V_iloadn1 dX9_item_22 ?_
              refine U_aald dX9_item_23 (by with_reducible rfl) (by first | assumption | rfl | exact lay_s0 (by omega) | exact lay_s1 (by omega) | exact lay_s2 (by omega) | exact lay_h0 (by omega) | exact lay_h1 (by omega)) (by decide) (by first | decide | omega) (by omega) (by first | assumption | exact CL0_0 (by assumption) | exact CL0_1 (by assumption) | exact CL0_3 (by assumption) | exact CL0_4 (by assumption) | exact CL0_5 (by assumption) | exact CL0_6 (by assumption) | exact CL0_7 (by assumption) | exact CL0_8 (by assumption) | exact CL0_9 (by assumption) | exact CL0_10 (by assumption) | exact CL0_11 (by assumption) | exact CL0_12 (by assumption) | exact CL0_13 (by assumption) | exact CL1_2 (by assumption) | exact CL1_3 (by assumption) | exact CL80_2 (by assumption) | exact CL_slot (by assumption) (by omega) | exact (CL_sh (by assumption) (by omega)).1 | exact (CL_sh (by assumption) (by omega)).2.1 | rfl) ?_
              refine V_astorew4 dX9_item_24 (by decide) rfl ?_
              refine V_aloadw4 dX9_item_26 ?_
              refine V_callV0 (μ' := mX5_isMissing) dX9_item_28 okX5_isMissing lX9_293 rfl (by first | assumption | rfl | exact lay_s0 (by omega) | exact lay_s1 (by omega) | exact lay_s2 (by omega) | exact lay_h0 (by omega) | exact lay_h1 (by omega)) (by first | decide | omega) (Nat.le_of_ble_eq_true rfl) (Nat.le_of_ble_eq_true rfl) (by omega) ?_
              refine c_isMissing y0 x0 ?_
              rw [soI_z _ b1, decide_eq_false hm]
              dsimp only [gPush]
              first | refine U_ifB_eq (tgt := 37) dX9_item_31 (by decide) (by with_reducible rfl) (fun c31 => ?_) (fun c31 => ?_) | refine U_if_eq (tgt := 37) dX9_item_31 (by decide) (by with_reducible rfl) (by omega) (fun c31 => ?_) (fun c31 => ?_) | refine V_if_eq (tgt := 37) dX9_item_31 (by decide) (fun c31 => ?_) (fun c31 => ?_)
              · skip
                refine V_aloadw4 dX9_item_37 ?_
                refine V_getI dX9_item_39 fX9_302 (Or.inl rfl) (by first | assumption | rfl | exact lay_s0 (by omega) | exact lay_s1 (by omega) | exact lay_s2 (by omega) | exact lay_h0 (by omega) | exact lay_h1 (by omega)) (by first | decide | omega) (by first | assumption | exact CL0_0 (by assumption) | exact CL0_1 (by assumption) | exact CL0_3 (by assumption) | exact CL0_4 (by assumption) | exact CL0_5 (by assumption) | exact CL0_6 (by assumption) | exact CL0_7 (by assumption) | exact CL0_8 (by assumption) | exact CL0_9 (by assumption) | exact CL0_10 (by assumption) | exact CL0_11 (by assumption) | exact CL0_12 (by assumption) | exact CL0_13 (by assumption) | exact CL1_2 (by assumption) | exact CL1_3 (by assumption) | exact CL80_2 (by assumption) | exact CL_slot (by assumption) (by omega) | exact (CL_sh (by assumption) (by omega)).1 | exact (CL_sh (by assumption) (by omega)).2.1 | rfl) ?_
                refine V_iloadn2 dX9_item_42 ?_
                first | refine U_icmp_eq (tgt := 49) dX9_item_43 (by decide) (by with_reducible rfl) (by with_reducible rfl) (by omega) (by omega) (fun c43 => ?_) (fun c43 => ?_) | refine V_icmp_eq (tgt := 49) dX9_item_43 (by decide) (fun c43 => ?_) (fun c43 => ?_)
                · skip
                  refine V_aloadw4 dX9_item_49 ?_
                  refine V_iloadn3 dX9_item_51 ?_
                  refine V_iconst (v := nI 1) dX9_item_52 (by decide) ?_
                  refine V_callV2 (μ' := mX5_hasPlaces) dX9_item_53 okX5_hasPlaces lX9_296 rfl (by first | assumption | rfl | exact lay_s0 (by omega) | exact lay_s1 (by omega) | exact lay_s2 (by omega) | exact lay_h0 (by omega) | exact lay_h1 (by omega)) (by first | decide | omega) (Nat.le_of_ble_eq_true rfl) (Nat.le_of_ble_eq_true rfl) (by omega) ?_
                  refine c_hasPlaces y0 x1 ?_
                  rw [hp1, hi]
                  dsimp only [gPush]
                  first | refine U_ifB_ne (tgt := 62) dX9_item_56 (by decide) (by with_reducible rfl) (fun c56 => ?_) (fun c56 => ?_) | refine U_if_ne (tgt := 62) dX9_item_56 (by decide) (by with_reducible rfl) (by omega) (fun c56 => ?_) (fun c56 => ?_) | refine V_if_ne (tgt := 62) dX9_item_56 (by decide) (fun c56 => ?_) (fun c56 => ?_)
                  · skip
                    cases c56
                  · skip
                    refine V_bipush (v := -12) dX9_item_59 (by decide) ?_
                    refine V_iret dX9_item_61 rfl rfl ?_
                    exact hQ9
                · skip
                  omega
              · skip
                cases c31
            · skip
              omega
      | true =>
        obtain ⟨j, hj, rfl⟩ := inB_t (by omega) hi
        rw [if_t hi, cN_nI (by omega)] at hQ9
        have z := x2 hm j (by omega)
        refine V_iloadn1 dX9_item_0 ?_
        refine V_callS1 (μ' := mX9_isSheet) dX9_item_1 okX9_isSheet lX9_283 (Nat.le_of_ble_eq_true rfl) (Nat.le_of_ble_eq_true rfl) (by omega) ?_
        refine c_isSheet ?_
        rw [hg2.1]
        dsimp only [gPush]
        first | refine U_ifB_eq (tgt := 16) dX9_item_4 (by decide) (by with_reducible rfl) (fun c4 => ?_) (fun c4 => ?_) | refine U_if_eq (tgt := 16) dX9_item_4 (by decide) (by with_reducible rfl) (by omega) (fun c4 => ?_) (fun c4 => ?_) | refine V_if_eq (tgt := 16) dX9_item_4 (by decide) (fun c4 => ?_) (fun c4 => ?_)
        · skip
          cases c4
        · skip
          refine V_iloadn2 dX9_item_7 ?_
          refine V_if_lt (tgt := 16) dX9_item_8 (by decide) (fun c8 => ?_) (fun c8 => ?_)
          · skip
            exact absurd c8 (nI_pos (by omega))
          · skip
            refine V_iloadn2 dX9_item_11 ?_
            refine V_iconst (v := nI 2) dX9_item_12 (by decide) ?_
            first | refine U_icmp_le (tgt := 18) dX9_item_13 (by decide) (by with_reducible rfl) (by with_reducible rfl) (by omega) (by omega) (fun c13 => ?_) (fun c13 => ?_) | refine V_icmp_le (tgt := 18) dX9_item_13 (by decide) (fun c13 => ?_) (fun c13 => ?_)
            · skip
              refine V_aloadn0 dX9_item_18 ?_
              refine V_getR dX9_item_19 fX9_28 (by first | assumption | rfl | exact lay_s0 (by omega) | exact lay_s1 (by omega) | exact lay_s2 (by omega) | exact lay_h0 (by omega) | exact lay_h1 (by omega)) (by first | decide | omega) (by first | assumption | exact CL0_0 (by assumption) | exact CL0_1 (by assumption) | exact CL0_3 (by assumption) | exact CL0_4 (by assumption) | exact CL0_5 (by assumption) | exact CL0_6 (by assumption) | exact CL0_7 (by assumption) | exact CL0_8 (by assumption) | exact CL0_9 (by assumption) | exact CL0_10 (by assumption) | exact CL0_11 (by assumption) | exact CL0_12 (by assumption) | exact CL0_13 (by assumption) | exact CL1_2 (by assumption) | exact CL1_3 (by assumption) | exact CL80_2 (by assumption) | exact CL_slot (by assumption) (by omega) | exact (CL_sh (by assumption) (by omega)).1 | exact (CL_sh (by assumption) (by omega)).2.1 | rfl) ?_
              refine V_iloadn1 dX9_item_22 ?_
              refine U_aald dX9_item_23 (by with_reducible rfl) (by first | assumption | rfl | exact lay_s0 (by omega) | exact lay_s1 (by omega) | exact lay_s2 (by omega) | exact lay_h0 (by omega) | exact lay_h1 (by omega)) (by decide) (by first | decide | omega) (by omega) (by first | assumption | exact CL0_0 (by assumption) | exact CL0_1 (by assumption) | exact CL0_3 (by assumption) | exact CL0_4 (by assumption) | exact CL0_5 (by assumption) | exact CL0_6 (by assumption) | exact CL0_7 (by assumption) | exact CL0_8 (by assumption) | exact CL0_9 (by assumption) | exact CL0_10 (by assumption) | exact CL0_11 (by assumption) | exact CL0_12 (by assumption) | exact CL0_13 (by assumption) | exact CL1_2 (by assumption) | exact CL1_3 (by assumption) | exact CL80_2 (by assumption) | exact CL_slot (by assumption) (by omega) | exact (CL_sh (by assumption) (by omega)).1 | exact (CL_sh (by assumption) (by omega)).2.1 | rfl) ?_
              refine V_astorew4 dX9_item_24 (by decide) rfl ?_
              refine V_aloadw4 dX9_item_26 ?_
              refine V_callV0 (μ' := mX5_isMissing) dX9_item_28 okX5_isMissing lX9_293 rfl (by first | assumption | rfl | exact lay_s0 (by omega) | exact lay_s1 (by omega) | exact lay_s2 (by omega) | exact lay_h0 (by omega) | exact lay_h1 (by omega)) (by first | decide | omega) (Nat.le_of_ble_eq_true rfl) (Nat.le_of_ble_eq_true rfl) (by omega) ?_
              refine c_isMissing y0 x0 ?_
              rw [soI_z _ b1, decide_eq_false hm]
              dsimp only [gPush]
              first | refine U_ifB_eq (tgt := 37) dX9_item_31 (by decide) (by with_reducible rfl) (fun c31 => ?_) (fun c31 => ?_) | refine U_if_eq (tgt := 37) dX9_item_31 (by decide) (by with_reducible rfl) (by omega) (fun c31 => ?_) (fun c31 => ?_) | refine V_if_eq (tgt := 37) dX9_item_31 (by decide) (fun c31 => ?_) (fun c31 => ?_)
              · skip
                refine V_aloadw4 dX9_item_37 ?_
                refine V_getI dX9_item_39 fX9_302 (Or.inl rfl) (by first | assumption | rfl | exact lay_s0 (by omega) | exact lay_s1 (by omega) | exact lay_s2 (by omega) | exact lay_h0 (by omega) | exact lay_h1 (by omega)) (by first | decide | omega) (by first | assumption | exact CL0_0 (by assumption) | exact CL0_1 (by assumption) | exact CL0_3 (by assumption) | exact CL0_4 (by assumption) | exact CL0_5 (by assumption) | exact CL0_6 (by assumption) | exact CL0_7 (by assumption) | exact CL0_8 (by assumption) | exact CL0_9 (by assumption) | exact CL0_10 (by assumption) | exact CL0_11 (by assumption) | exact CL0_12 (by assumption) | exact CL0_13 (by assumption) | exact CL1_2 (by assumption) | exact CL1_3 (by assumption) | exact CL80_2 (by assumption) | exact CL_slot (by assumption) (by omega) | exact (CL_sh (by assumption) (by omega)).1 | exact (CL_sh (by assumption) (by omega)).2.1 | rfl) ?_
                refine V_iloadn2 dX9_item_42 ?_
                first | refine U_icmp_eq (tgt := 49) dX9_item_43 (by decide) (by with_reducible rfl) (by with_reducible rfl) (by omega) (by omega) (fun c43 => ?_) (fun c43 => ?_) | refine V_icmp_eq (tgt := 49) dX9_item_43 (by decide) (fun c43 => ?_) (fun c43 => ?_)
                · skip
                  refine V_aloadw4 dX9_item_49 ?_
                  refine V_iloadn3 dX9_item_51 ?_
                  refine V_iconst (v := nI 1) dX9_item_52 (by decide) ?_
                  refine V_callV2 (μ' := mX5_hasPlaces) dX9_item_53 okX5_hasPlaces lX9_296 rfl (by first | assumption | rfl | exact lay_s0 (by omega) | exact lay_s1 (by omega) | exact lay_s2 (by omega) | exact lay_h0 (by omega) | exact lay_h1 (by omega)) (by first | decide | omega) (Nat.le_of_ble_eq_true rfl) (Nat.le_of_ble_eq_true rfl) (by omega) ?_
                  refine c_hasPlaces y0 x1 ?_
                  rw [hp1, hi]
                  dsimp only [gPush]
                  first | refine U_ifB_ne (tgt := 62) dX9_item_56 (by decide) (by with_reducible rfl) (fun c56 => ?_) (fun c56 => ?_) | refine U_if_ne (tgt := 62) dX9_item_56 (by decide) (by with_reducible rfl) (by omega) (fun c56 => ?_) (fun c56 => ?_) | refine V_if_ne (tgt := 62) dX9_item_56 (by decide) (fun c56 => ?_) (fun c56 => ?_)
                  · skip
                    refine V_aloadw4 dX9_item_62 ?_
                    refine V_getR dX9_item_64 fX9_305 (by first | assumption | rfl | exact lay_s0 (by omega) | exact lay_s1 (by omega) | exact lay_s2 (by omega) | exact lay_h0 (by omega) | exact lay_h1 (by omega)) (by first | decide | omega) (by first | assumption | exact CL0_0 (by assumption) | exact CL0_1 (by assumption) | exact CL0_3 (by assumption) | exact CL0_4 (by assumption) | exact CL0_5 (by assumption) | exact CL0_6 (by assumption) | exact CL0_7 (by assumption) | exact CL0_8 (by assumption) | exact CL0_9 (by assumption) | exact CL0_10 (by assumption) | exact CL0_11 (by assumption) | exact CL0_12 (by assumption) | exact CL0_13 (by assumption) | exact CL1_2 (by assumption) | exact CL1_3 (by assumption) | exact CL80_2 (by assumption) | exact CL_slot (by assumption) (by omega) | exact (CL_sh (by assumption) (by omega)).1 | exact (CL_sh (by assumption) (by omega)).2.1 | rfl) ?_
                    refine V_iloadn3 dX9_item_67 ?_
                    refine U_lald dX9_item_68 (by with_reducible rfl) (by first | assumption | rfl | exact lay_s0 (by omega) | exact lay_s1 (by omega) | exact lay_s2 (by omega) | exact lay_h0 (by omega) | exact lay_h1 (by omega)) (by first | decide | omega) (by omega) (by first | assumption | exact CL0_0 (by assumption) | exact CL0_1 (by assumption) | exact CL0_3 (by assumption) | exact CL0_4 (by assumption) | exact CL0_5 (by assumption) | exact CL0_6 (by assumption) | exact CL0_7 (by assumption) | exact CL0_8 (by assumption) | exact CL0_9 (by assumption) | exact CL0_10 (by assumption) | exact CL0_11 (by assumption) | exact CL0_12 (by assumption) | exact CL0_13 (by assumption) | exact CL1_2 (by assumption) | exact CL1_3 (by assumption) | exact CL80_2 (by assumption) | exact CL_slot (by assumption) (by omega) | exact (CL_sh (by assumption) (by omega)).1 | exact (CL_sh (by assumption) (by omega)).2.1 | rfl) ?_
                    refine V_l2i dX9_item_69 (Int32.toInt32_toInt64 _) ?_
                    refine V_iret dX9_item_70 rfl rfl ?_
                    exact hQ9
                  · skip
                    cases c56
                · skip
                  omega
              · skip
                cases c31
            · skip
              omega
    · rw [if_pos ho] at hQ9
      have ho2 : ¬ o = (S.2.2.2 s).1 - 1 := fun q => ho (by rw [q])
      refine V_iloadn1 dX9_item_0 ?_
      refine V_callS1 (μ' := mX9_isSheet) dX9_item_1 okX9_isSheet lX9_283 (Nat.le_of_ble_eq_true rfl) (Nat.le_of_ble_eq_true rfl) (by omega) ?_
      refine c_isSheet ?_
      rw [hg2.1]
      dsimp only [gPush]
      first | refine U_ifB_eq (tgt := 16) dX9_item_4 (by decide) (by with_reducible rfl) (fun c4 => ?_) (fun c4 => ?_) | refine U_if_eq (tgt := 16) dX9_item_4 (by decide) (by with_reducible rfl) (by omega) (fun c4 => ?_) (fun c4 => ?_) | refine V_if_eq (tgt := 16) dX9_item_4 (by decide) (fun c4 => ?_) (fun c4 => ?_)
      · skip
        cases c4
      · skip
        refine V_iloadn2 dX9_item_7 ?_
        refine V_if_lt (tgt := 16) dX9_item_8 (by decide) (fun c8 => ?_) (fun c8 => ?_)
        · skip
          exact absurd c8 (nI_pos (by omega))
        · skip
          refine V_iloadn2 dX9_item_11 ?_
          refine V_iconst (v := nI 2) dX9_item_12 (by decide) ?_
          first | refine U_icmp_le (tgt := 18) dX9_item_13 (by decide) (by with_reducible rfl) (by with_reducible rfl) (by omega) (by omega) (fun c13 => ?_) (fun c13 => ?_) | refine V_icmp_le (tgt := 18) dX9_item_13 (by decide) (fun c13 => ?_) (fun c13 => ?_)
          · skip
            refine V_aloadn0 dX9_item_18 ?_
            refine V_getR dX9_item_19 fX9_28 (by first | assumption | rfl | exact lay_s0 (by omega) | exact lay_s1 (by omega) | exact lay_s2 (by omega) | exact lay_h0 (by omega) | exact lay_h1 (by omega)) (by first | decide | omega) (by first | assumption | exact CL0_0 (by assumption) | exact CL0_1 (by assumption) | exact CL0_3 (by assumption) | exact CL0_4 (by assumption) | exact CL0_5 (by assumption) | exact CL0_6 (by assumption) | exact CL0_7 (by assumption) | exact CL0_8 (by assumption) | exact CL0_9 (by assumption) | exact CL0_10 (by assumption) | exact CL0_11 (by assumption) | exact CL0_12 (by assumption) | exact CL0_13 (by assumption) | exact CL1_2 (by assumption) | exact CL1_3 (by assumption) | exact CL80_2 (by assumption) | exact CL_slot (by assumption) (by omega) | exact (CL_sh (by assumption) (by omega)).1 | exact (CL_sh (by assumption) (by omega)).2.1 | rfl) ?_
            refine V_iloadn1 dX9_item_22 ?_
            refine U_aald dX9_item_23 (by with_reducible rfl) (by first | assumption | rfl | exact lay_s0 (by omega) | exact lay_s1 (by omega) | exact lay_s2 (by omega) | exact lay_h0 (by omega) | exact lay_h1 (by omega)) (by decide) (by first | decide | omega) (by omega) (by first | assumption | exact CL0_0 (by assumption) | exact CL0_1 (by assumption) | exact CL0_3 (by assumption) | exact CL0_4 (by assumption) | exact CL0_5 (by assumption) | exact CL0_6 (by assumption) | exact CL0_7 (by assumption) | exact CL0_8 (by assumption) | exact CL0_9 (by assumption) | exact CL0_10 (by assumption) | exact CL0_11 (by assumption) | exact CL0_12 (by assumption) | exact CL0_13 (by assumption) | exact CL1_2 (by assumption) | exact CL1_3 (by assumption) | exact CL80_2 (by assumption) | exact CL_slot (by assumption) (by omega) | exact (CL_sh (by assumption) (by omega)).1 | exact (CL_sh (by assumption) (by omega)).2.1 | rfl) ?_
            refine V_astorew4 dX9_item_24 (by decide) rfl ?_
            refine V_aloadw4 dX9_item_26 ?_
            refine V_callV0 (μ' := mX5_isMissing) dX9_item_28 okX5_isMissing lX9_293 rfl (by first | assumption | rfl | exact lay_s0 (by omega) | exact lay_s1 (by omega) | exact lay_s2 (by omega) | exact lay_h0 (by omega) | exact lay_h1 (by omega)) (by first | decide | omega) (Nat.le_of_ble_eq_true rfl) (Nat.le_of_ble_eq_true rfl) (by omega) ?_
            refine c_isMissing y0 x0 ?_
            rw [soI_z _ b1, decide_eq_false hm]
            dsimp only [gPush]
            first | refine U_ifB_eq (tgt := 37) dX9_item_31 (by decide) (by with_reducible rfl) (fun c31 => ?_) (fun c31 => ?_) | refine U_if_eq (tgt := 37) dX9_item_31 (by decide) (by with_reducible rfl) (by omega) (fun c31 => ?_) (fun c31 => ?_) | refine V_if_eq (tgt := 37) dX9_item_31 (by decide) (fun c31 => ?_) (fun c31 => ?_)
            · skip
              refine V_aloadw4 dX9_item_37 ?_
              refine V_getI dX9_item_39 fX9_302 (Or.inl rfl) (by first | assumption | rfl | exact lay_s0 (by omega) | exact lay_s1 (by omega) | exact lay_s2 (by omega) | exact lay_h0 (by omega) | exact lay_h1 (by omega)) (by first | decide | omega) (by first | assumption | exact CL0_0 (by assumption) | exact CL0_1 (by assumption) | exact CL0_3 (by assumption) | exact CL0_4 (by assumption) | exact CL0_5 (by assumption) | exact CL0_6 (by assumption) | exact CL0_7 (by assumption) | exact CL0_8 (by assumption) | exact CL0_9 (by assumption) | exact CL0_10 (by assumption) | exact CL0_11 (by assumption) | exact CL0_12 (by assumption) | exact CL0_13 (by assumption) | exact CL1_2 (by assumption) | exact CL1_3 (by assumption) | exact CL80_2 (by assumption) | exact CL_slot (by assumption) (by omega) | exact (CL_sh (by assumption) (by omega)).1 | exact (CL_sh (by assumption) (by omega)).2.1 | rfl) ?_
              refine V_iloadn2 dX9_item_42 ?_
              first | refine U_icmp_eq (tgt := 49) dX9_item_43 (by decide) (by with_reducible rfl) (by with_reducible rfl) (by omega) (by omega) (fun c43 => ?_) (fun c43 => ?_) | refine V_icmp_eq (tgt := 49) dX9_item_43 (by decide) (fun c43 => ?_) (fun c43 => ?_)
              · skip
                omega
              · skip
                refine V_bipush (v := -13) dX9_item_46 (by decide) ?_
                refine V_iret dX9_item_48 rfl rfl ?_
                exact hQ9
            · skip
              cases c31
          · skip
            omega
  · have hQ9 := hQ h hR FrC.rf
    have eq0 : g_item S x so i = -1 := if_neg hg
    rw [eq0] at hQ9
    refine V_iloadn1 dX9_item_0 ?_
    refine V_callS1 (μ' := mX9_isSheet) dX9_item_1 okX9_isSheet lX9_283 (Nat.le_of_ble_eq_true rfl) (Nat.le_of_ble_eq_true rfl) (by omega) ?_
    refine c_isSheet ?_
    dsimp only [gPush]
    first | refine U_ifB_eq (tgt := 16) dX9_item_4 (by decide) (by with_reducible rfl) (fun c4 => ?_) (fun c4 => ?_) | refine U_if_eq (tgt := 16) dX9_item_4 (by decide) (by with_reducible rfl) (by omega) (fun c4 => ?_) (fun c4 => ?_) | refine V_if_eq (tgt := 16) dX9_item_4 (by decide) (fun c4 => ?_) (fun c4 => ?_)
    · skip
      refine V_iconst (v := -1) dX9_item_16 (by decide) ?_
      refine V_iret dX9_item_17 rfl rfl ?_
      exact hQ9
    · skip
      refine V_iloadn2 dX9_item_7 ?_
      refine V_if_lt (tgt := 16) dX9_item_8 (by decide) (fun c8 => ?_) (fun c8 => ?_)
      · skip
        refine V_iconst (v := -1) dX9_item_16 (by decide) ?_
        refine V_iret dX9_item_17 rfl rfl ?_
        exact hQ9
      · skip
        refine V_iloadn2 dX9_item_11 ?_
        refine V_iconst (v := nI 2) dX9_item_12 (by decide) ?_
        first | refine U_icmp_le (tgt := 18) dX9_item_13 (by decide) (by with_reducible rfl) (by with_reducible rfl) (by omega) (by omega) (fun c13 => ?_) (fun c13 => ?_) | refine V_icmp_le (tgt := 18) dX9_item_13 (by decide) (fun c13 => ?_) (fun c13 => ?_)
        · skip
          exact absurd (by rw [c4, inR_in0 c8 c13]; rfl) hg
        · skip
          refine V_iconst (v := -1) dX9_item_16 (by decide) ?_
          refine V_iret dX9_item_17 rfl rfl ?_
          exact hQ9

set_option maxRecDepth 100000 in
set_option maxHeartbeats 4000000 in
theorem c_copy {x i y j n : Int32} (hd : 1 ≤ d) (hR : RC h S) (hQ : ∀ h', RC h' (f_copy S x i y j n).2 → FrC h h' → Q (some (.int (f_copy S x i y j n).1)) h') : V Γ mX9_copy d 124 124 h 0 [some (.ref 0), some (.int x), some (.int i), some (.int y), some (.int j), some (.int n), none, none] [] Q := by
  obtain ⟨hC, hW, hA, hK, hK2, hB, hSh, hFm⟩ := id hR
  have n0 := hA.1
  have hn2 := hW.1.1
  have hn5 := hW.1.2.1
  by_cases hg : (inB x 4 && inB y 4) = true
  · have hg2 := hg
    rw [Bool.and_eq_true] at hg2
    obtain ⟨s, hs, rfl⟩ := inB_t (by decide) hg2.1
    obtain ⟨q, hq, rfl⟩ := inB_t (by decide) hg2.2
    obtain ⟨x0, x1, x2⟩ := hSh s hs
    obtain ⟨b1, b2, b3⟩ := hW.2.2.2 s hs
    obtain ⟨r45, r2, y0, y1⟩ := CL_sh hC hs
    obtain ⟨z0, z1, z2⟩ := hSh q hq
    obtain ⟨a1, a2, a3⟩ := hW.2.2.2 q hq
    obtain ⟨s45, s2, v0, v1⟩ := CL_sh hC hq
    have eq0 : f_copy S (nI s) i (nI q) j n = _ := if_t hg
    rw [eq0, cN_nI (by omega), cN_nI (by omega)] at hQ
    by_cases hm : (S.2.2.2 s).1 = 0 ∨ (S.2.2.2 q).1 = 0
    · rw [if_pos hm] at hQ
      have hQ9 := hQ h hR FrC.rf
      refine V_iloadn1 dX9_copy_0 ?_
      refine V_callS1 (μ' := mX9_isSheet) dX9_copy_1 okX9_isSheet lX9_283 (Nat.le_of_ble_eq_true rfl) (Nat.le_of_ble_eq_true rfl) (by omega) ?_
      refine c_isSheet ?_
      rw [hg2.1]
      dsimp only [gPush]
      first | refine U_ifB_eq (tgt := 14) dX9_copy_4 (by decide) (by with_reducible rfl) (fun c4 => ?_) (fun c4 => ?_) | refine U_if_eq (tgt := 14) dX9_copy_4 (by decide) (by with_reducible rfl) (by omega) (fun c4 => ?_) (fun c4 => ?_) | refine V_if_eq (tgt := 14) dX9_copy_4 (by decide) (fun c4 => ?_) (fun c4 => ?_)
      · skip
        cases c4
      · skip
        refine V_iloadn3 dX9_copy_7 ?_
        refine V_callS1 (μ' := mX9_isSheet) dX9_copy_8 okX9_isSheet lX9_283 (Nat.le_of_ble_eq_true rfl) (Nat.le_of_ble_eq_true rfl) (by omega) ?_
        refine c_isSheet ?_
        rw [hg2.2]
        dsimp only [gPush]
        first | refine U_ifB_ne (tgt := 16) dX9_copy_11 (by decide) (by with_reducible rfl) (fun c11 => ?_) (fun c11 => ?_) | refine U_if_ne (tgt := 16) dX9_copy_11 (by decide) (by with_reducible rfl) (by omega) (fun c11 => ?_) (fun c11 => ?_) | refine V_if_ne (tgt := 16) dX9_copy_11 (by decide) (fun c11 => ?_) (fun c11 => ?_)
        · skip
          refine V_aloadn0 dX9_copy_16 ?_
          refine V_getR dX9_copy_17 fX9_28 (by first | assumption | rfl | exact lay_s0 (by omega) | exact lay_s1 (by omega) | exact lay_s2 (by omega) | exact lay_h0 (by omega) | exact lay_h1 (by omega)) (by first | decide | omega) (by first | assumption | exact CL0_0 (by assumption) | exact CL0_1 (by assumption) | exact CL0_3 (by assumption) | exact CL0_4 (by assumption) | exact CL0_5 (by assumption) | exact CL0_6 (by assumption) | exact CL0_7 (by assumption) | exact CL0_8 (by assumption) | exact CL0_9 (by assumption) | exact CL0_10 (by assumption) | exact CL0_11 (by assumption) | exact CL0_12 (by assumption) | exact CL0_13 (by assumption) | exact CL1_2 (by assumption) | exact CL1_3 (by assumption) | exact CL80_2 (by assumption) | exact CL_slot (by assumption) (by omega) | exact (CL_sh (by assumption) (by omega)).1 | exact (CL_sh (by assumption) (by omega)).2.1 | rfl) ?_
          refine V_iloadn1 dX9_copy_20 ?_
          refine U_aald dX9_copy_21 (by with_reducible rfl) (by first | assumption | rfl | exact lay_s0 (by omega) | exact lay_s1 (by omega) | exact lay_s2 (by omega) | exact lay_h0 (by omega) | exact lay_h1 (by omega)) (by decide) (by first | decide | omega) (by omega) (by first | assumption | exact CL0_0 (by assumption) | exact CL0_1 (by assumption) | exact CL0_3 (by assumption) | exact CL0_4 (by assumption) | exact CL0_5 (by assumption) | exact CL0_6 (by assumption) | exact CL0_7 (by assumption) | exact CL0_8 (by assumption) | exact CL0_9 (by assumption) | exact CL0_10 (by assumption) | exact CL0_11 (by assumption) | exact CL0_12 (by assumption) | exact CL0_13 (by assumption) | exact CL1_2 (by assumption) | exact CL1_3 (by assumption) | exact CL80_2 (by assumption) | exact CL_slot (by assumption) (by omega) | exact (CL_sh (by assumption) (by omega)).1 | exact (CL_sh (by assumption) (by omega)).2.1 | rfl) ?_
          refine V_astorew6 dX9_copy_22 (by decide) rfl ?_
          refine V_aloadn0 dX9_copy_24 ?_
          refine V_getR dX9_copy_25 fX9_28 (by first | assumption | rfl | exact lay_s0 (by omega) | exact lay_s1 (by omega) | exact lay_s2 (by omega) | exact lay_h0 (by omega) | exact lay_h1 (by omega)) (by first | decide | omega) (by first | assumption | exact CL0_0 (by assumption) | exact CL0_1 (by assumption) | exact CL0_3 (by assumption) | exact CL0_4 (by assumption) | exact CL0_5 (by assumption) | exact CL0_6 (by assumption) | exact CL0_7 (by assumption) | exact CL0_8 (by assumption) | exact CL0_9 (by assumption) | exact CL0_10 (by assumption) | exact CL0_11 (by assumption) | exact CL0_12 (by assumption) | exact CL0_13 (by assumption) | exact CL1_2 (by assumption) | exact CL1_3 (by assumption) | exact CL80_2 (by assumption) | exact CL_slot (by assumption) (by omega) | exact (CL_sh (by assumption) (by omega)).1 | exact (CL_sh (by assumption) (by omega)).2.1 | rfl) ?_
          refine V_iloadn3 dX9_copy_28 ?_
          refine U_aald dX9_copy_29 (by with_reducible rfl) (by first | assumption | rfl | exact lay_s0 (by omega) | exact lay_s1 (by omega) | exact lay_s2 (by omega) | exact lay_h0 (by omega) | exact lay_h1 (by omega)) (by decide) (by first | decide | omega) (by omega) (by first | assumption | exact CL0_0 (by assumption) | exact CL0_1 (by assumption) | exact CL0_3 (by assumption) | exact CL0_4 (by assumption) | exact CL0_5 (by assumption) | exact CL0_6 (by assumption) | exact CL0_7 (by assumption) | exact CL0_8 (by assumption) | exact CL0_9 (by assumption) | exact CL0_10 (by assumption) | exact CL0_11 (by assumption) | exact CL0_12 (by assumption) | exact CL0_13 (by assumption) | exact CL1_2 (by assumption) | exact CL1_3 (by assumption) | exact CL80_2 (by assumption) | exact CL_slot (by assumption) (by omega) | exact (CL_sh (by assumption) (by omega)).1 | exact (CL_sh (by assumption) (by omega)).2.1 | rfl) ?_
          refine V_astorew7 dX9_copy_30 (by decide) rfl ?_
          refine V_aloadw6 dX9_copy_32 ?_
          refine V_callV0 (μ' := mX5_isMissing) dX9_copy_34 okX5_isMissing lX9_293 rfl (by first | assumption | rfl | exact lay_s0 (by omega) | exact lay_s1 (by omega) | exact lay_s2 (by omega) | exact lay_h0 (by omega) | exact lay_h1 (by omega)) (by first | decide | omega) (Nat.le_of_ble_eq_true rfl) (Nat.le_of_ble_eq_true rfl) (by omega) ?_
          refine c_isMissing y0 x0 ?_
          rw [soI_z _ b1]
          dsimp only [gPush]
          first | refine U_ifB_ne (tgt := 48) dX9_copy_37 (by decide) (by with_reducible rfl) (fun c37 => ?_) (fun c37 => ?_) | refine U_if_ne (tgt := 48) dX9_copy_37 (by decide) (by with_reducible rfl) (by omega) (fun c37 => ?_) (fun c37 => ?_) | refine V_if_ne (tgt := 48) dX9_copy_37 (by decide) (fun c37 => ?_) (fun c37 => ?_)
          · skip
            refine V_bipush (v := -11) dX9_copy_48 (by decide) ?_
            refine V_iret dX9_copy_50 rfl rfl ?_
            exact hQ9
          · skip
            refine V_aloadw7 dX9_copy_40 ?_
            refine V_callV0 (μ' := mX5_isMissing) dX9_copy_42 okX5_isMissing lX9_293 rfl (by first | assumption | rfl | exact lay_s0 (by omega) | exact lay_s1 (by omega) | exact lay_s2 (by omega) | exact lay_h0 (by omega) | exact lay_h1 (by omega)) (by first | decide | omega) (Nat.le_of_ble_eq_true rfl) (Nat.le_of_ble_eq_true rfl) (by omega) ?_
            refine c_isMissing v0 z0 ?_
            rw [soI_z _ a1]
            dsimp only [gPush]
            first | refine U_ifB_eq (tgt := 51) dX9_copy_45 (by decide) (by with_reducible rfl) (fun c45 => ?_) (fun c45 => ?_) | refine U_if_eq (tgt := 51) dX9_copy_45 (by decide) (by with_reducible rfl) (by omega) (fun c45 => ?_) (fun c45 => ?_) | refine V_if_eq (tgt := 51) dX9_copy_45 (by decide) (fun c45 => ?_) (fun c45 => ?_)
            · skip
              exact absurd hm (fun z => z.elim (of_decide_eq_false c37) (of_decide_eq_false c45))
            · skip
              refine V_bipush (v := -11) dX9_copy_48 (by decide) ?_
              refine V_iret dX9_copy_50 rfl rfl ?_
              exact hQ9
        · skip
          cases c11
    rw [if_neg hm] at hQ
    have m1 : ¬ (S.2.2.2 s).1 = 0 := fun z => hm (Or.inl z)
    have m2 : ¬ (S.2.2.2 q).1 = 0 := fun z => hm (Or.inr z)
    have x0' : gI h (86 + 2 * s) 0 = nI ((S.2.2.2 s).1 - 1) := by rw [x0, soI_p m1]
    have z0' : gI h (86 + 2 * q) 0 = nI ((S.2.2.2 q).1 - 1) := by rw [z0, soI_p m2]
    by_cases ho : (S.2.2.2 s).1 ≠ (S.2.2.2 q).1
    · rw [if_pos ho] at hQ
      have hQ9 := hQ h hR FrC.rf
      refine V_iloadn1 dX9_copy_0 ?_
      refine V_callS1 (μ' := mX9_isSheet) dX9_copy_1 okX9_isSheet lX9_283 (Nat.le_of_ble_eq_true rfl) (Nat.le_of_ble_eq_true rfl) (by omega) ?_
      refine c_isSheet ?_
      rw [hg2.1]
      dsimp only [gPush]
      first | refine U_ifB_eq (tgt := 14) dX9_copy_4 (by decide) (by with_reducible rfl) (fun c4 => ?_) (fun c4 => ?_) | refine U_if_eq (tgt := 14) dX9_copy_4 (by decide) (by with_reducible rfl) (by omega) (fun c4 => ?_) (fun c4 => ?_) | refine V_if_eq (tgt := 14) dX9_copy_4 (by decide) (fun c4 => ?_) (fun c4 => ?_)
      · skip
        cases c4
      · skip
        refine V_iloadn3 dX9_copy_7 ?_
        refine V_callS1 (μ' := mX9_isSheet) dX9_copy_8 okX9_isSheet lX9_283 (Nat.le_of_ble_eq_true rfl) (Nat.le_of_ble_eq_true rfl) (by omega) ?_
        refine c_isSheet ?_
        rw [hg2.2]
        dsimp only [gPush]
        first | refine U_ifB_ne (tgt := 16) dX9_copy_11 (by decide) (by with_reducible rfl) (fun c11 => ?_) (fun c11 => ?_) | refine U_if_ne (tgt := 16) dX9_copy_11 (by decide) (by with_reducible rfl) (by omega) (fun c11 => ?_) (fun c11 => ?_) | refine V_if_ne (tgt := 16) dX9_copy_11 (by decide) (fun c11 => ?_) (fun c11 => ?_)
        · skip
          refine V_aloadn0 dX9_copy_16 ?_
          refine V_getR dX9_copy_17 fX9_28 (by first | assumption | rfl | exact lay_s0 (by omega) | exact lay_s1 (by omega) | exact lay_s2 (by omega) | exact lay_h0 (by omega) | exact lay_h1 (by omega)) (by first | decide | omega) (by first | assumption | exact CL0_0 (by assumption) | exact CL0_1 (by assumption) | exact CL0_3 (by assumption) | exact CL0_4 (by assumption) | exact CL0_5 (by assumption) | exact CL0_6 (by assumption) | exact CL0_7 (by assumption) | exact CL0_8 (by assumption) | exact CL0_9 (by assumption) | exact CL0_10 (by assumption) | exact CL0_11 (by assumption) | exact CL0_12 (by assumption) | exact CL0_13 (by assumption) | exact CL1_2 (by assumption) | exact CL1_3 (by assumption) | exact CL80_2 (by assumption) | exact CL_slot (by assumption) (by omega) | exact (CL_sh (by assumption) (by omega)).1 | exact (CL_sh (by assumption) (by omega)).2.1 | rfl) ?_
          refine V_iloadn1 dX9_copy_20 ?_
          refine U_aald dX9_copy_21 (by with_reducible rfl) (by first | assumption | rfl | exact lay_s0 (by omega) | exact lay_s1 (by omega) | exact lay_s2 (by omega) | exact lay_h0 (by omega) | exact lay_h1 (by omega)) (by decide) (by first | decide | omega) (by omega) (by first | assumption | exact CL0_0 (by assumption) | exact CL0_1 (by assumption) | exact CL0_3 (by assumption) | exact CL0_4 (by assumption) | exact CL0_5 (by assumption) | exact CL0_6 (by assumption) | exact CL0_7 (by assumption) | exact CL0_8 (by assumption) | exact CL0_9 (by assumption) | exact CL0_10 (by assumption) | exact CL0_11 (by assumption) | exact CL0_12 (by assumption) | exact CL0_13 (by assumption) | exact CL1_2 (by assumption) | exact CL1_3 (by assumption) | exact CL80_2 (by assumption) | exact CL_slot (by assumption) (by omega) | exact (CL_sh (by assumption) (by omega)).1 | exact (CL_sh (by assumption) (by omega)).2.1 | rfl) ?_
          refine V_astorew6 dX9_copy_22 (by decide) rfl ?_
          refine V_aloadn0 dX9_copy_24 ?_
          refine V_getR dX9_copy_25 fX9_28 (by first | assumption | rfl | exact lay_s0 (by omega) | exact lay_s1 (by omega) | exact lay_s2 (by omega) | exact lay_h0 (by omega) | exact lay_h1 (by omega)) (by first | decide | omega) (by first | assumption | exact CL0_0 (by assumption) | exact CL0_1 (by assumption) | exact CL0_3 (by assumption) | exact CL0_4 (by assumption) | exact CL0_5 (by assumption) | exact CL0_6 (by assumption) | exact CL0_7 (by assumption) | exact CL0_8 (by assumption) | exact CL0_9 (by assumption) | exact CL0_10 (by assumption) | exact CL0_11 (by assumption) | exact CL0_12 (by assumption) | exact CL0_13 (by assumption) | exact CL1_2 (by assumption) | exact CL1_3 (by assumption) | exact CL80_2 (by assumption) | exact CL_slot (by assumption) (by omega) | exact (CL_sh (by assumption) (by omega)).1 | exact (CL_sh (by assumption) (by omega)).2.1 | rfl) ?_
          refine V_iloadn3 dX9_copy_28 ?_
          refine U_aald dX9_copy_29 (by with_reducible rfl) (by first | assumption | rfl | exact lay_s0 (by omega) | exact lay_s1 (by omega) | exact lay_s2 (by omega) | exact lay_h0 (by omega) | exact lay_h1 (by omega)) (by decide) (by first | decide | omega) (by omega) (by first | assumption | exact CL0_0 (by assumption) | exact CL0_1 (by assumption) | exact CL0_3 (by assumption) | exact CL0_4 (by assumption) | exact CL0_5 (by assumption) | exact CL0_6 (by assumption) | exact CL0_7 (by assumption) | exact CL0_8 (by assumption) | exact CL0_9 (by assumption) | exact CL0_10 (by assumption) | exact CL0_11 (by assumption) | exact CL0_12 (by assumption) | exact CL0_13 (by assumption) | exact CL1_2 (by assumption) | exact CL1_3 (by assumption) | exact CL80_2 (by assumption) | exact CL_slot (by assumption) (by omega) | exact (CL_sh (by assumption) (by omega)).1 | exact (CL_sh (by assumption) (by omega)).2.1 | rfl) ?_
          refine V_astorew7 dX9_copy_30 (by decide) rfl ?_
          refine V_aloadw6 dX9_copy_32 ?_
          refine V_callV0 (μ' := mX5_isMissing) dX9_copy_34 okX5_isMissing lX9_293 rfl (by first | assumption | rfl | exact lay_s0 (by omega) | exact lay_s1 (by omega) | exact lay_s2 (by omega) | exact lay_h0 (by omega) | exact lay_h1 (by omega)) (by first | decide | omega) (Nat.le_of_ble_eq_true rfl) (Nat.le_of_ble_eq_true rfl) (by omega) ?_
          refine c_isMissing y0 x0 ?_
          rw [soI_z _ b1, decide_eq_false m1]
          dsimp only [gPush]
          first | refine U_ifB_ne (tgt := 48) dX9_copy_37 (by decide) (by with_reducible rfl) (fun c37 => ?_) (fun c37 => ?_) | refine U_if_ne (tgt := 48) dX9_copy_37 (by decide) (by with_reducible rfl) (by omega) (fun c37 => ?_) (fun c37 => ?_) | refine V_if_ne (tgt := 48) dX9_copy_37 (by decide) (fun c37 => ?_) (fun c37 => ?_)
          · skip
            cases c37
          · skip
            refine V_aloadw7 dX9_copy_40 ?_
            refine V_callV0 (μ' := mX5_isMissing) dX9_copy_42 okX5_isMissing lX9_293 rfl (by first | assumption | rfl | exact lay_s0 (by omega) | exact lay_s1 (by omega) | exact lay_s2 (by omega) | exact lay_h0 (by omega) | exact lay_h1 (by omega)) (by first | decide | omega) (Nat.le_of_ble_eq_true rfl) (Nat.le_of_ble_eq_true rfl) (by omega) ?_
            refine c_isMissing v0 z0 ?_
            rw [soI_z _ a1, decide_eq_false m2]
            dsimp only [gPush]
            first | refine U_ifB_eq (tgt := 51) dX9_copy_45 (by decide) (by with_reducible rfl) (fun c45 => ?_) (fun c45 => ?_) | refine U_if_eq (tgt := 51) dX9_copy_45 (by decide) (by with_reducible rfl) (by omega) (fun c45 => ?_) (fun c45 => ?_) | refine V_if_eq (tgt := 51) dX9_copy_45 (by decide) (fun c45 => ?_) (fun c45 => ?_)
            · skip
              refine V_aloadw6 dX9_copy_51 ?_
              refine V_getI dX9_copy_53 fX9_302 (Or.inl rfl) (by first | assumption | rfl | exact lay_s0 (by omega) | exact lay_s1 (by omega) | exact lay_s2 (by omega) | exact lay_h0 (by omega) | exact lay_h1 (by omega)) (by first | decide | omega) (by first | assumption | exact CL0_0 (by assumption) | exact CL0_1 (by assumption) | exact CL0_3 (by assumption) | exact CL0_4 (by assumption) | exact CL0_5 (by assumption) | exact CL0_6 (by assumption) | exact CL0_7 (by assumption) | exact CL0_8 (by assumption) | exact CL0_9 (by assumption) | exact CL0_10 (by assumption) | exact CL0_11 (by assumption) | exact CL0_12 (by assumption) | exact CL0_13 (by assumption) | exact CL1_2 (by assumption) | exact CL1_3 (by assumption) | exact CL80_2 (by assumption) | exact CL_slot (by assumption) (by omega) | exact (CL_sh (by assumption) (by omega)).1 | exact (CL_sh (by assumption) (by omega)).2.1 | rfl) ?_
              refine V_aloadw7 dX9_copy_56 ?_
              refine V_getI dX9_copy_58 fX9_302 (Or.inl rfl) (by first | assumption | rfl | exact lay_s0 (by omega) | exact lay_s1 (by omega) | exact lay_s2 (by omega) | exact lay_h0 (by omega) | exact lay_h1 (by omega)) (by first | decide | omega) (by first | assumption | exact CL0_0 (by assumption) | exact CL0_1 (by assumption) | exact CL0_3 (by assumption) | exact CL0_4 (by assumption) | exact CL0_5 (by assumption) | exact CL0_6 (by assumption) | exact CL0_7 (by assumption) | exact CL0_8 (by assumption) | exact CL0_9 (by assumption) | exact CL0_10 (by assumption) | exact CL0_11 (by assumption) | exact CL0_12 (by assumption) | exact CL0_13 (by assumption) | exact CL1_2 (by assumption) | exact CL1_3 (by assumption) | exact CL80_2 (by assumption) | exact CL_slot (by assumption) (by omega) | exact (CL_sh (by assumption) (by omega)).1 | exact (CL_sh (by assumption) (by omega)).2.1 | rfl) ?_
              first | refine U_icmp_eq (tgt := 67) dX9_copy_61 (by decide) (by with_reducible rfl) (by with_reducible rfl) (by omega) (by omega) (fun c61 => ?_) (fun c61 => ?_) | refine V_icmp_eq (tgt := 67) dX9_copy_61 (by decide) (fun c61 => ?_) (fun c61 => ?_)
              · skip
                omega
              · skip
                refine V_bipush (v := -13) dX9_copy_64 (by decide) ?_
                refine V_iret dX9_copy_66 rfl rfl ?_
                exact hQ9
            · skip
              cases c45
        · skip
          cases c11
    rw [if_neg ho] at hQ
    by_cases hp : (hpB i n (S.2.2.2 s).2.1 && hpB j n (S.2.2.2 q).2.1) = true
    · rw [if_t hp] at hQ
      have hp2 := hp
      rw [Bool.and_eq_true] at hp2
      obtain ⟨i', n', i1, n1, rfl, rfl, in1⟩ := hp_t (by omega) hp2.1
      obtain ⟨j', n'', j1, n2, rfl, en, jn1⟩ := hp_t (by omega) hp2.2
      have en' := (nI_eq n1 n2).mp en
      subst en'
      rw [cN_nI i1, cN_nI j1, cN_nI n1] at hQ
      have fin : Q (some (.int (nI n'))) (sLa h (86 + 2 * q + 1) (va_cpy (gL h (86 + 2 * s + 1)) (gL h (86 + 2 * q + 1)) i' j' n')) := by
        refine hQ _ (RC_sh hR hq ⟨z0, z1, fun z k hk => ?_⟩ ⟨a1, a2, a3⟩ (fun a ha => rfl) (fun a ha => ?_) rfl) ⟨fun a ha => rfl, fun a ha => ?_, fun a ha => rfl⟩
        · rw [gL_sLa, if_pos rfl]
          show va_cpy (gL h (86 + 2 * s + 1)) (gL h (86 + 2 * q + 1)) i' j' n' k = (if j' ≤ k ∧ k < j' + n' then (S.2.2.2 s).2.2 (i' + (k - j')) else (S.2.2.2 q).2.2 k).toInt64
          by_cases e : j' ≤ k ∧ k < j' + n'
          · rw [if_pos e, pk_cpy_in e.1 e.2]
            exact x2 m1 _ (by omega)
          · rw [if_neg e, pk_cpy_out (by omega)]
            exact z2 m2 k hk
        · rw [gL_sLa, if_neg ha]
        · rw [gL_sLa, if_neg (by omega)]
      refine V_iloadn1 dX9_copy_0 ?_
      refine V_callS1 (μ' := mX9_isSheet) dX9_copy_1 okX9_isSheet lX9_283 (Nat.le_of_ble_eq_true rfl) (Nat.le_of_ble_eq_true rfl) (by omega) ?_
      refine c_isSheet ?_
      rw [hg2.1]
      dsimp only [gPush]
      first | refine U_ifB_eq (tgt := 14) dX9_copy_4 (by decide) (by with_reducible rfl) (fun c4 => ?_) (fun c4 => ?_) | refine U_if_eq (tgt := 14) dX9_copy_4 (by decide) (by with_reducible rfl) (by omega) (fun c4 => ?_) (fun c4 => ?_) | refine V_if_eq (tgt := 14) dX9_copy_4 (by decide) (fun c4 => ?_) (fun c4 => ?_)
      · skip
        cases c4
      · skip
        refine V_iloadn3 dX9_copy_7 ?_
        refine V_callS1 (μ' := mX9_isSheet) dX9_copy_8 okX9_isSheet lX9_283 (Nat.le_of_ble_eq_true rfl) (Nat.le_of_ble_eq_true rfl) (by omega) ?_
        refine c_isSheet ?_
        rw [hg2.2]
        dsimp only [gPush]
        first | refine U_ifB_ne (tgt := 16) dX9_copy_11 (by decide) (by with_reducible rfl) (fun c11 => ?_) (fun c11 => ?_) | refine U_if_ne (tgt := 16) dX9_copy_11 (by decide) (by with_reducible rfl) (by omega) (fun c11 => ?_) (fun c11 => ?_) | refine V_if_ne (tgt := 16) dX9_copy_11 (by decide) (fun c11 => ?_) (fun c11 => ?_)
        · skip
          refine V_aloadn0 dX9_copy_16 ?_
          refine V_getR dX9_copy_17 fX9_28 (by first | assumption | rfl | exact lay_s0 (by omega) | exact lay_s1 (by omega) | exact lay_s2 (by omega) | exact lay_h0 (by omega) | exact lay_h1 (by omega)) (by first | decide | omega) (by first | assumption | exact CL0_0 (by assumption) | exact CL0_1 (by assumption) | exact CL0_3 (by assumption) | exact CL0_4 (by assumption) | exact CL0_5 (by assumption) | exact CL0_6 (by assumption) | exact CL0_7 (by assumption) | exact CL0_8 (by assumption) | exact CL0_9 (by assumption) | exact CL0_10 (by assumption) | exact CL0_11 (by assumption) | exact CL0_12 (by assumption) | exact CL0_13 (by assumption) | exact CL1_2 (by assumption) | exact CL1_3 (by assumption) | exact CL80_2 (by assumption) | exact CL_slot (by assumption) (by omega) | exact (CL_sh (by assumption) (by omega)).1 | exact (CL_sh (by assumption) (by omega)).2.1 | rfl) ?_
          refine V_iloadn1 dX9_copy_20 ?_
          refine U_aald dX9_copy_21 (by with_reducible rfl) (by first | assumption | rfl | exact lay_s0 (by omega) | exact lay_s1 (by omega) | exact lay_s2 (by omega) | exact lay_h0 (by omega) | exact lay_h1 (by omega)) (by decide) (by first | decide | omega) (by omega) (by first | assumption | exact CL0_0 (by assumption) | exact CL0_1 (by assumption) | exact CL0_3 (by assumption) | exact CL0_4 (by assumption) | exact CL0_5 (by assumption) | exact CL0_6 (by assumption) | exact CL0_7 (by assumption) | exact CL0_8 (by assumption) | exact CL0_9 (by assumption) | exact CL0_10 (by assumption) | exact CL0_11 (by assumption) | exact CL0_12 (by assumption) | exact CL0_13 (by assumption) | exact CL1_2 (by assumption) | exact CL1_3 (by assumption) | exact CL80_2 (by assumption) | exact CL_slot (by assumption) (by omega) | exact (CL_sh (by assumption) (by omega)).1 | exact (CL_sh (by assumption) (by omega)).2.1 | rfl) ?_
          refine V_astorew6 dX9_copy_22 (by decide) rfl ?_
          refine V_aloadn0 dX9_copy_24 ?_
          refine V_getR dX9_copy_25 fX9_28 (by first | assumption | rfl | exact lay_s0 (by omega) | exact lay_s1 (by omega) | exact lay_s2 (by omega) | exact lay_h0 (by omega) | exact lay_h1 (by omega)) (by first | decide | omega) (by first | assumption | exact CL0_0 (by assumption) | exact CL0_1 (by assumption) | exact CL0_3 (by assumption) | exact CL0_4 (by assumption) | exact CL0_5 (by assumption) | exact CL0_6 (by assumption) | exact CL0_7 (by assumption) | exact CL0_8 (by assumption) | exact CL0_9 (by assumption) | exact CL0_10 (by assumption) | exact CL0_11 (by assumption) | exact CL0_12 (by assumption) | exact CL0_13 (by assumption) | exact CL1_2 (by assumption) | exact CL1_3 (by assumption) | exact CL80_2 (by assumption) | exact CL_slot (by assumption) (by omega) | exact (CL_sh (by assumption) (by omega)).1 | exact (CL_sh (by assumption) (by omega)).2.1 | rfl) ?_
          refine V_iloadn3 dX9_copy_28 ?_
          refine U_aald dX9_copy_29 (by with_reducible rfl) (by first | assumption | rfl | exact lay_s0 (by omega) | exact lay_s1 (by omega) | exact lay_s2 (by omega) | exact lay_h0 (by omega) | exact lay_h1 (by omega)) (by decide) (by first | decide | omega) (by omega) (by first | assumption | exact CL0_0 (by assumption) | exact CL0_1 (by assumption) | exact CL0_3 (by assumption) | exact CL0_4 (by assumption) | exact CL0_5 (by assumption) | exact CL0_6 (by assumption) | exact CL0_7 (by assumption) | exact CL0_8 (by assumption) | exact CL0_9 (by assumption) | exact CL0_10 (by assumption) | exact CL0_11 (by assumption) | exact CL0_12 (by assumption) | exact CL0_13 (by assumption) | exact CL1_2 (by assumption) | exact CL1_3 (by assumption) | exact CL80_2 (by assumption) | exact CL_slot (by assumption) (by omega) | exact (CL_sh (by assumption) (by omega)).1 | exact (CL_sh (by assumption) (by omega)).2.1 | rfl) ?_
          refine V_astorew7 dX9_copy_30 (by decide) rfl ?_
          refine V_aloadw6 dX9_copy_32 ?_
          refine V_callV0 (μ' := mX5_isMissing) dX9_copy_34 okX5_isMissing lX9_293 rfl (by first | assumption | rfl | exact lay_s0 (by omega) | exact lay_s1 (by omega) | exact lay_s2 (by omega) | exact lay_h0 (by omega) | exact lay_h1 (by omega)) (by first | decide | omega) (Nat.le_of_ble_eq_true rfl) (Nat.le_of_ble_eq_true rfl) (by omega) ?_
          refine c_isMissing y0 x0 ?_
          rw [soI_z _ b1, decide_eq_false m1]
          dsimp only [gPush]
          first | refine U_ifB_ne (tgt := 48) dX9_copy_37 (by decide) (by with_reducible rfl) (fun c37 => ?_) (fun c37 => ?_) | refine U_if_ne (tgt := 48) dX9_copy_37 (by decide) (by with_reducible rfl) (by omega) (fun c37 => ?_) (fun c37 => ?_) | refine V_if_ne (tgt := 48) dX9_copy_37 (by decide) (fun c37 => ?_) (fun c37 => ?_)
          · skip
            cases c37
          · skip
            refine V_aloadw7 dX9_copy_40 ?_
            refine V_callV0 (μ' := mX5_isMissing) dX9_copy_42 okX5_isMissing lX9_293 rfl (by first | assumption | rfl | exact lay_s0 (by omega) | exact lay_s1 (by omega) | exact lay_s2 (by omega) | exact lay_h0 (by omega) | exact lay_h1 (by omega)) (by first | decide | omega) (Nat.le_of_ble_eq_true rfl) (Nat.le_of_ble_eq_true rfl) (by omega) ?_
            refine c_isMissing v0 z0 ?_
            rw [soI_z _ a1, decide_eq_false m2]
            dsimp only [gPush]
            first | refine U_ifB_eq (tgt := 51) dX9_copy_45 (by decide) (by with_reducible rfl) (fun c45 => ?_) (fun c45 => ?_) | refine U_if_eq (tgt := 51) dX9_copy_45 (by decide) (by with_reducible rfl) (by omega) (fun c45 => ?_) (fun c45 => ?_) | refine V_if_eq (tgt := 51) dX9_copy_45 (by decide) (fun c45 => ?_) (fun c45 => ?_)
            · skip
              refine V_aloadw6 dX9_copy_51 ?_
              refine V_getI dX9_copy_53 fX9_302 (Or.inl rfl) (by first | assumption | rfl | exact lay_s0 (by omega) | exact lay_s1 (by omega) | exact lay_s2 (by omega) | exact lay_h0 (by omega) | exact lay_h1 (by omega)) (by first | decide | omega) (by first | assumption | exact CL0_0 (by assumption) | exact CL0_1 (by assumption) | exact CL0_3 (by assumption) | exact CL0_4 (by assumption) | exact CL0_5 (by assumption) | exact CL0_6 (by assumption) | exact CL0_7 (by assumption) | exact CL0_8 (by assumption) | exact CL0_9 (by assumption) | exact CL0_10 (by assumption) | exact CL0_11 (by assumption) | exact CL0_12 (by assumption) | exact CL0_13 (by assumption) | exact CL1_2 (by assumption) | exact CL1_3 (by assumption) | exact CL80_2 (by assumption) | exact CL_slot (by assumption) (by omega) | exact (CL_sh (by assumption) (by omega)).1 | exact (CL_sh (by assumption) (by omega)).2.1 | rfl) ?_
              refine V_aloadw7 dX9_copy_56 ?_
              refine V_getI dX9_copy_58 fX9_302 (Or.inl rfl) (by first | assumption | rfl | exact lay_s0 (by omega) | exact lay_s1 (by omega) | exact lay_s2 (by omega) | exact lay_h0 (by omega) | exact lay_h1 (by omega)) (by first | decide | omega) (by first | assumption | exact CL0_0 (by assumption) | exact CL0_1 (by assumption) | exact CL0_3 (by assumption) | exact CL0_4 (by assumption) | exact CL0_5 (by assumption) | exact CL0_6 (by assumption) | exact CL0_7 (by assumption) | exact CL0_8 (by assumption) | exact CL0_9 (by assumption) | exact CL0_10 (by assumption) | exact CL0_11 (by assumption) | exact CL0_12 (by assumption) | exact CL0_13 (by assumption) | exact CL1_2 (by assumption) | exact CL1_3 (by assumption) | exact CL80_2 (by assumption) | exact CL_slot (by assumption) (by omega) | exact (CL_sh (by assumption) (by omega)).1 | exact (CL_sh (by assumption) (by omega)).2.1 | rfl) ?_
              first | refine U_icmp_eq (tgt := 67) dX9_copy_61 (by decide) (by with_reducible rfl) (by with_reducible rfl) (by omega) (by omega) (fun c61 => ?_) (fun c61 => ?_) | refine V_icmp_eq (tgt := 67) dX9_copy_61 (by decide) (fun c61 => ?_) (fun c61 => ?_)
              · skip
                refine V_aloadw6 dX9_copy_67 ?_
                refine V_iloadn2 dX9_copy_69 ?_
                refine V_iloadw5 dX9_copy_70 ?_
                refine V_callV2 (μ' := mX5_hasPlaces) dX9_copy_72 okX5_hasPlaces lX9_296 rfl (by first | assumption | rfl | exact lay_s0 (by omega) | exact lay_s1 (by omega) | exact lay_s2 (by omega) | exact lay_h0 (by omega) | exact lay_h1 (by omega)) (by first | decide | omega) (Nat.le_of_ble_eq_true rfl) (Nat.le_of_ble_eq_true rfl) (by omega) ?_
                refine c_hasPlaces y0 x1 ?_
                rw [hp2.1]
                dsimp only [gPush]
                first | refine U_ifB_eq (tgt := 90) dX9_copy_75 (by decide) (by with_reducible rfl) (fun c75 => ?_) (fun c75 => ?_) | refine U_if_eq (tgt := 90) dX9_copy_75 (by decide) (by with_reducible rfl) (by omega) (fun c75 => ?_) (fun c75 => ?_) | refine V_if_eq (tgt := 90) dX9_copy_75 (by decide) (fun c75 => ?_) (fun c75 => ?_)
                · skip
                  cases c75
                · skip
                  refine V_aloadw7 dX9_copy_78 ?_
                  refine V_iloadw4 dX9_copy_80 ?_
                  refine V_iloadw5 dX9_copy_82 ?_
                  refine V_callV2 (μ' := mX5_hasPlaces) dX9_copy_84 okX5_hasPlaces lX9_296 rfl (by first | assumption | rfl | exact lay_s0 (by omega) | exact lay_s1 (by omega) | exact lay_s2 (by omega) | exact lay_h0 (by omega) | exact lay_h1 (by omega)) (by first | decide | omega) (Nat.le_of_ble_eq_true rfl) (Nat.le_of_ble_eq_true rfl) (by omega) ?_
                  refine c_hasPlaces v0 z1 ?_
                  rw [hp2.2]
                  dsimp only [gPush]
                  first | refine U_ifB_ne (tgt := 93) dX9_copy_87 (by decide) (by with_reducible rfl) (fun c87 => ?_) (fun c87 => ?_) | refine U_if_ne (tgt := 93) dX9_copy_87 (by decide) (by with_reducible rfl) (by omega) (fun c87 => ?_) (fun c87 => ?_) | refine V_if_ne (tgt := 93) dX9_copy_87 (by decide) (fun c87 => ?_) (fun c87 => ?_)
                  · skip
                    refine V_aloadw6 dX9_copy_93 ?_
                    refine V_getR dX9_copy_95 fX9_305 (by first | assumption | rfl | exact lay_s0 (by omega) | exact lay_s1 (by omega) | exact lay_s2 (by omega) | exact lay_h0 (by omega) | exact lay_h1 (by omega)) (by first | decide | omega) (by first | assumption | exact CL0_0 (by assumption) | exact CL0_1 (by assumption) | exact CL0_3 (by assumption) | exact CL0_4 (by assumption) | exact CL0_5 (by assumption) | exact CL0_6 (by assumption) | exact CL0_7 (by assumption) | exact CL0_8 (by assumption) | exact CL0_9 (by assumption) | exact CL0_10 (by assumption) | exact CL0_11 (by assumption) | exact CL0_12 (by assumption) | exact CL0_13 (by assumption) | exact CL1_2 (by assumption) | exact CL1_3 (by assumption) | exact CL80_2 (by assumption) | exact CL_slot (by assumption) (by omega) | exact (CL_sh (by assumption) (by omega)).1 | exact (CL_sh (by assumption) (by omega)).2.1 | rfl) ?_
                    refine V_iloadn2 dX9_copy_98 ?_
                    refine V_aloadw7 dX9_copy_99 ?_
                    refine V_getR dX9_copy_101 fX9_305 (by first | assumption | rfl | exact lay_s0 (by omega) | exact lay_s1 (by omega) | exact lay_s2 (by omega) | exact lay_h0 (by omega) | exact lay_h1 (by omega)) (by first | decide | omega) (by first | assumption | exact CL0_0 (by assumption) | exact CL0_1 (by assumption) | exact CL0_3 (by assumption) | exact CL0_4 (by assumption) | exact CL0_5 (by assumption) | exact CL0_6 (by assumption) | exact CL0_7 (by assumption) | exact CL0_8 (by assumption) | exact CL0_9 (by assumption) | exact CL0_10 (by assumption) | exact CL0_11 (by assumption) | exact CL0_12 (by assumption) | exact CL0_13 (by assumption) | exact CL1_2 (by assumption) | exact CL1_3 (by assumption) | exact CL80_2 (by assumption) | exact CL_slot (by assumption) (by omega) | exact (CL_sh (by assumption) (by omega)).1 | exact (CL_sh (by assumption) (by omega)).2.1 | rfl) ?_
                    refine V_iloadw4 dX9_copy_104 ?_
                    refine V_iloadw5 dX9_copy_106 ?_
                    first | refine U_copyI dX9_copy_108 (by with_reducible rfl) (by with_reducible rfl) (by with_reducible rfl) lX9_309 (by first | assumption | rfl | exact lay_s0 (by omega) | exact lay_s1 (by omega) | exact lay_s2 (by omega) | exact lay_h0 (by omega) | exact lay_h1 (by omega)) (by first | assumption | rfl | exact lay_s0 (by omega) | exact lay_s1 (by omega) | exact lay_s2 (by omega) | exact lay_h0 (by omega) | exact lay_h1 (by omega)) (by first | decide | omega) (by first | decide | omega) (by omega) (by omega) (Nat.le_of_ble_eq_true rfl) (by omega) ?_ | refine U_copyL dX9_copy_108 (by with_reducible rfl) (by with_reducible rfl) (by with_reducible rfl) lX9_309 (by first | assumption | rfl | exact lay_s0 (by omega) | exact lay_s1 (by omega) | exact lay_s2 (by omega) | exact lay_h0 (by omega) | exact lay_h1 (by omega)) (by first | assumption | rfl | exact lay_s0 (by omega) | exact lay_s1 (by omega) | exact lay_s2 (by omega) | exact lay_h0 (by omega) | exact lay_h1 (by omega)) (by first | decide | omega) (by first | decide | omega) (by omega) (by omega) (Nat.le_of_ble_eq_true rfl) (by omega) ?_
                    refine V_iloadw5 dX9_copy_111 ?_
                    refine V_iret dX9_copy_113 rfl rfl ?_
                    exact fin
                  · skip
                    cases c87
              · skip
                omega
            · skip
              cases c45
        · skip
          cases c11
    · rw [if_neg hp] at hQ
      have hQ9 := hQ h hR FrC.rf
      refine V_iloadn1 dX9_copy_0 ?_
      refine V_callS1 (μ' := mX9_isSheet) dX9_copy_1 okX9_isSheet lX9_283 (Nat.le_of_ble_eq_true rfl) (Nat.le_of_ble_eq_true rfl) (by omega) ?_
      refine c_isSheet ?_
      rw [hg2.1]
      dsimp only [gPush]
      first | refine U_ifB_eq (tgt := 14) dX9_copy_4 (by decide) (by with_reducible rfl) (fun c4 => ?_) (fun c4 => ?_) | refine U_if_eq (tgt := 14) dX9_copy_4 (by decide) (by with_reducible rfl) (by omega) (fun c4 => ?_) (fun c4 => ?_) | refine V_if_eq (tgt := 14) dX9_copy_4 (by decide) (fun c4 => ?_) (fun c4 => ?_)
      · skip
        cases c4
      · skip
        refine V_iloadn3 dX9_copy_7 ?_
        refine V_callS1 (μ' := mX9_isSheet) dX9_copy_8 okX9_isSheet lX9_283 (Nat.le_of_ble_eq_true rfl) (Nat.le_of_ble_eq_true rfl) (by omega) ?_
        refine c_isSheet ?_
        rw [hg2.2]
        dsimp only [gPush]
        first | refine U_ifB_ne (tgt := 16) dX9_copy_11 (by decide) (by with_reducible rfl) (fun c11 => ?_) (fun c11 => ?_) | refine U_if_ne (tgt := 16) dX9_copy_11 (by decide) (by with_reducible rfl) (by omega) (fun c11 => ?_) (fun c11 => ?_) | refine V_if_ne (tgt := 16) dX9_copy_11 (by decide) (fun c11 => ?_) (fun c11 => ?_)
        · skip
          refine V_aloadn0 dX9_copy_16 ?_
          refine V_getR dX9_copy_17 fX9_28 (by first | assumption | rfl | exact lay_s0 (by omega) | exact lay_s1 (by omega) | exact lay_s2 (by omega) | exact lay_h0 (by omega) | exact lay_h1 (by omega)) (by first | decide | omega) (by first | assumption | exact CL0_0 (by assumption) | exact CL0_1 (by assumption) | exact CL0_3 (by assumption) | exact CL0_4 (by assumption) | exact CL0_5 (by assumption) | exact CL0_6 (by assumption) | exact CL0_7 (by assumption) | exact CL0_8 (by assumption) | exact CL0_9 (by assumption) | exact CL0_10 (by assumption) | exact CL0_11 (by assumption) | exact CL0_12 (by assumption) | exact CL0_13 (by assumption) | exact CL1_2 (by assumption) | exact CL1_3 (by assumption) | exact CL80_2 (by assumption) | exact CL_slot (by assumption) (by omega) | exact (CL_sh (by assumption) (by omega)).1 | exact (CL_sh (by assumption) (by omega)).2.1 | rfl) ?_
          refine V_iloadn1 dX9_copy_20 ?_
          refine U_aald dX9_copy_21 (by with_reducible rfl) (by first | assumption | rfl | exact lay_s0 (by omega) | exact lay_s1 (by omega) | exact lay_s2 (by omega) | exact lay_h0 (by omega) | exact lay_h1 (by omega)) (by decide) (by first | decide | omega) (by omega) (by first | assumption | exact CL0_0 (by assumption) | exact CL0_1 (by assumption) | exact CL0_3 (by assumption) | exact CL0_4 (by assumption) | exact CL0_5 (by assumption) | exact CL0_6 (by assumption) | exact CL0_7 (by assumption) | exact CL0_8 (by assumption) | exact CL0_9 (by assumption) | exact CL0_10 (by assumption) | exact CL0_11 (by assumption) | exact CL0_12 (by assumption) | exact CL0_13 (by assumption) | exact CL1_2 (by assumption) | exact CL1_3 (by assumption) | exact CL80_2 (by assumption) | exact CL_slot (by assumption) (by omega) | exact (CL_sh (by assumption) (by omega)).1 | exact (CL_sh (by assumption) (by omega)).2.1 | rfl) ?_
          refine V_astorew6 dX9_copy_22 (by decide) rfl ?_
          refine V_aloadn0 dX9_copy_24 ?_
          refine V_getR dX9_copy_25 fX9_28 (by first | assumption | rfl | exact lay_s0 (by omega) | exact lay_s1 (by omega) | exact lay_s2 (by omega) | exact lay_h0 (by omega) | exact lay_h1 (by omega)) (by first | decide | omega) (by first | assumption | exact CL0_0 (by assumption) | exact CL0_1 (by assumption) | exact CL0_3 (by assumption) | exact CL0_4 (by assumption) | exact CL0_5 (by assumption) | exact CL0_6 (by assumption) | exact CL0_7 (by assumption) | exact CL0_8 (by assumption) | exact CL0_9 (by assumption) | exact CL0_10 (by assumption) | exact CL0_11 (by assumption) | exact CL0_12 (by assumption) | exact CL0_13 (by assumption) | exact CL1_2 (by assumption) | exact CL1_3 (by assumption) | exact CL80_2 (by assumption) | exact CL_slot (by assumption) (by omega) | exact (CL_sh (by assumption) (by omega)).1 | exact (CL_sh (by assumption) (by omega)).2.1 | rfl) ?_
          refine V_iloadn3 dX9_copy_28 ?_
          refine U_aald dX9_copy_29 (by with_reducible rfl) (by first | assumption | rfl | exact lay_s0 (by omega) | exact lay_s1 (by omega) | exact lay_s2 (by omega) | exact lay_h0 (by omega) | exact lay_h1 (by omega)) (by decide) (by first | decide | omega) (by omega) (by first | assumption | exact CL0_0 (by assumption) | exact CL0_1 (by assumption) | exact CL0_3 (by assumption) | exact CL0_4 (by assumption) | exact CL0_5 (by assumption) | exact CL0_6 (by assumption) | exact CL0_7 (by assumption) | exact CL0_8 (by assumption) | exact CL0_9 (by assumption) | exact CL0_10 (by assumption) | exact CL0_11 (by assumption) | exact CL0_12 (by assumption) | exact CL0_13 (by assumption) | exact CL1_2 (by assumption) | exact CL1_3 (by assumption) | exact CL80_2 (by assumption) | exact CL_slot (by assumption) (by omega) | exact (CL_sh (by assumption) (by omega)).1 | exact (CL_sh (by assumption) (by omega)).2.1 | rfl) ?_
          refine V_astorew7 dX9_copy_30 (by decide) rfl ?_
          refine V_aloadw6 dX9_copy_32 ?_
          refine V_callV0 (μ' := mX5_isMissing) dX9_copy_34 okX5_isMissing lX9_293 rfl (by first | assumption | rfl | exact lay_s0 (by omega) | exact lay_s1 (by omega) | exact lay_s2 (by omega) | exact lay_h0 (by omega) | exact lay_h1 (by omega)) (by first | decide | omega) (Nat.le_of_ble_eq_true rfl) (Nat.le_of_ble_eq_true rfl) (by omega) ?_
          refine c_isMissing y0 x0 ?_
          rw [soI_z _ b1, decide_eq_false m1]
          dsimp only [gPush]
          first | refine U_ifB_ne (tgt := 48) dX9_copy_37 (by decide) (by with_reducible rfl) (fun c37 => ?_) (fun c37 => ?_) | refine U_if_ne (tgt := 48) dX9_copy_37 (by decide) (by with_reducible rfl) (by omega) (fun c37 => ?_) (fun c37 => ?_) | refine V_if_ne (tgt := 48) dX9_copy_37 (by decide) (fun c37 => ?_) (fun c37 => ?_)
          · skip
            cases c37
          · skip
            refine V_aloadw7 dX9_copy_40 ?_
            refine V_callV0 (μ' := mX5_isMissing) dX9_copy_42 okX5_isMissing lX9_293 rfl (by first | assumption | rfl | exact lay_s0 (by omega) | exact lay_s1 (by omega) | exact lay_s2 (by omega) | exact lay_h0 (by omega) | exact lay_h1 (by omega)) (by first | decide | omega) (Nat.le_of_ble_eq_true rfl) (Nat.le_of_ble_eq_true rfl) (by omega) ?_
            refine c_isMissing v0 z0 ?_
            rw [soI_z _ a1, decide_eq_false m2]
            dsimp only [gPush]
            first | refine U_ifB_eq (tgt := 51) dX9_copy_45 (by decide) (by with_reducible rfl) (fun c45 => ?_) (fun c45 => ?_) | refine U_if_eq (tgt := 51) dX9_copy_45 (by decide) (by with_reducible rfl) (by omega) (fun c45 => ?_) (fun c45 => ?_) | refine V_if_eq (tgt := 51) dX9_copy_45 (by decide) (fun c45 => ?_) (fun c45 => ?_)
            · skip
              refine V_aloadw6 dX9_copy_51 ?_
              refine V_getI dX9_copy_53 fX9_302 (Or.inl rfl) (by first | assumption | rfl | exact lay_s0 (by omega) | exact lay_s1 (by omega) | exact lay_s2 (by omega) | exact lay_h0 (by omega) | exact lay_h1 (by omega)) (by first | decide | omega) (by first | assumption | exact CL0_0 (by assumption) | exact CL0_1 (by assumption) | exact CL0_3 (by assumption) | exact CL0_4 (by assumption) | exact CL0_5 (by assumption) | exact CL0_6 (by assumption) | exact CL0_7 (by assumption) | exact CL0_8 (by assumption) | exact CL0_9 (by assumption) | exact CL0_10 (by assumption) | exact CL0_11 (by assumption) | exact CL0_12 (by assumption) | exact CL0_13 (by assumption) | exact CL1_2 (by assumption) | exact CL1_3 (by assumption) | exact CL80_2 (by assumption) | exact CL_slot (by assumption) (by omega) | exact (CL_sh (by assumption) (by omega)).1 | exact (CL_sh (by assumption) (by omega)).2.1 | rfl) ?_
              refine V_aloadw7 dX9_copy_56 ?_
              refine V_getI dX9_copy_58 fX9_302 (Or.inl rfl) (by first | assumption | rfl | exact lay_s0 (by omega) | exact lay_s1 (by omega) | exact lay_s2 (by omega) | exact lay_h0 (by omega) | exact lay_h1 (by omega)) (by first | decide | omega) (by first | assumption | exact CL0_0 (by assumption) | exact CL0_1 (by assumption) | exact CL0_3 (by assumption) | exact CL0_4 (by assumption) | exact CL0_5 (by assumption) | exact CL0_6 (by assumption) | exact CL0_7 (by assumption) | exact CL0_8 (by assumption) | exact CL0_9 (by assumption) | exact CL0_10 (by assumption) | exact CL0_11 (by assumption) | exact CL0_12 (by assumption) | exact CL0_13 (by assumption) | exact CL1_2 (by assumption) | exact CL1_3 (by assumption) | exact CL80_2 (by assumption) | exact CL_slot (by assumption) (by omega) | exact (CL_sh (by assumption) (by omega)).1 | exact (CL_sh (by assumption) (by omega)).2.1 | rfl) ?_
              first | refine U_icmp_eq (tgt := 67) dX9_copy_61 (by decide) (by with_reducible rfl) (by with_reducible rfl) (by omega) (by omega) (fun c61 => ?_) (fun c61 => ?_) | refine V_icmp_eq (tgt := 67) dX9_copy_61 (by decide) (fun c61 => ?_) (fun c61 => ?_)
              · skip
                refine V_aloadw6 dX9_copy_67 ?_
                refine V_iloadn2 dX9_copy_69 ?_
                refine V_iloadw5 dX9_copy_70 ?_
                refine V_callV2 (μ' := mX5_hasPlaces) dX9_copy_72 okX5_hasPlaces lX9_296 rfl (by first | assumption | rfl | exact lay_s0 (by omega) | exact lay_s1 (by omega) | exact lay_s2 (by omega) | exact lay_h0 (by omega) | exact lay_h1 (by omega)) (by first | decide | omega) (Nat.le_of_ble_eq_true rfl) (Nat.le_of_ble_eq_true rfl) (by omega) ?_
                refine c_hasPlaces y0 x1 ?_
                dsimp only [gPush]
                first | refine U_ifB_eq (tgt := 90) dX9_copy_75 (by decide) (by with_reducible rfl) (fun c75 => ?_) (fun c75 => ?_) | refine U_if_eq (tgt := 90) dX9_copy_75 (by decide) (by with_reducible rfl) (by omega) (fun c75 => ?_) (fun c75 => ?_) | refine V_if_eq (tgt := 90) dX9_copy_75 (by decide) (fun c75 => ?_) (fun c75 => ?_)
                · skip
                  refine V_bipush (v := -12) dX9_copy_90 (by decide) ?_
                  refine V_iret dX9_copy_92 rfl rfl ?_
                  exact hQ9
                · skip
                  refine V_aloadw7 dX9_copy_78 ?_
                  refine V_iloadw4 dX9_copy_80 ?_
                  refine V_iloadw5 dX9_copy_82 ?_
                  refine V_callV2 (μ' := mX5_hasPlaces) dX9_copy_84 okX5_hasPlaces lX9_296 rfl (by first | assumption | rfl | exact lay_s0 (by omega) | exact lay_s1 (by omega) | exact lay_s2 (by omega) | exact lay_h0 (by omega) | exact lay_h1 (by omega)) (by first | decide | omega) (Nat.le_of_ble_eq_true rfl) (Nat.le_of_ble_eq_true rfl) (by omega) ?_
                  refine c_hasPlaces v0 z1 ?_
                  dsimp only [gPush]
                  first | refine U_ifB_ne (tgt := 93) dX9_copy_87 (by decide) (by with_reducible rfl) (fun c87 => ?_) (fun c87 => ?_) | refine U_if_ne (tgt := 93) dX9_copy_87 (by decide) (by with_reducible rfl) (by omega) (fun c87 => ?_) (fun c87 => ?_) | refine V_if_ne (tgt := 93) dX9_copy_87 (by decide) (fun c87 => ?_) (fun c87 => ?_)
                  · skip
                    exact absurd (by rw [c75, c87]; rfl) hp
                  · skip
                    refine V_bipush (v := -12) dX9_copy_90 (by decide) ?_
                    refine V_iret dX9_copy_92 rfl rfl ?_
                    exact hQ9
              · skip
                omega
            · skip
              cases c45
        · skip
          cases c11
  · have eq0 : f_copy S x i y j n = (-1, S) := if_neg hg
    rw [eq0] at hQ
    have hQ9 := hQ h hR FrC.rf
    refine V_iloadn1 dX9_copy_0 ?_
    refine V_callS1 (μ' := mX9_isSheet) dX9_copy_1 okX9_isSheet lX9_283 (Nat.le_of_ble_eq_true rfl) (Nat.le_of_ble_eq_true rfl) (by omega) ?_
    refine c_isSheet ?_
    dsimp only [gPush]
    first | refine U_ifB_eq (tgt := 14) dX9_copy_4 (by decide) (by with_reducible rfl) (fun c4 => ?_) (fun c4 => ?_) | refine U_if_eq (tgt := 14) dX9_copy_4 (by decide) (by with_reducible rfl) (by omega) (fun c4 => ?_) (fun c4 => ?_) | refine V_if_eq (tgt := 14) dX9_copy_4 (by decide) (fun c4 => ?_) (fun c4 => ?_)
    · skip
      refine V_iconst (v := -1) dX9_copy_14 (by decide) ?_
      refine V_iret dX9_copy_15 rfl rfl ?_
      exact hQ9
    · skip
      refine V_iloadn3 dX9_copy_7 ?_
      refine V_callS1 (μ' := mX9_isSheet) dX9_copy_8 okX9_isSheet lX9_283 (Nat.le_of_ble_eq_true rfl) (Nat.le_of_ble_eq_true rfl) (by omega) ?_
      refine c_isSheet ?_
      dsimp only [gPush]
      first | refine U_ifB_ne (tgt := 16) dX9_copy_11 (by decide) (by with_reducible rfl) (fun c11 => ?_) (fun c11 => ?_) | refine U_if_ne (tgt := 16) dX9_copy_11 (by decide) (by with_reducible rfl) (by omega) (fun c11 => ?_) (fun c11 => ?_) | refine V_if_ne (tgt := 16) dX9_copy_11 (by decide) (fun c11 => ?_) (fun c11 => ?_)
      · skip
        exact absurd (by rw [c4, c11]; rfl) hg
      · skip
        refine V_iconst (v := -1) dX9_copy_14 (by decide) ?_
        refine V_iret dX9_copy_15 rfl rfl ?_
        exact hQ9

end C52
