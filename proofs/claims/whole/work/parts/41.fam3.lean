/-! ===== the class: which one it is, the i-th one ===== -/
theorem cnt_low {v b : Nat} (hb : b ≤ 64) : cntN (v % 2 ^ b) 64 = cntN v b := by
  have h1 := cntN_shift (v % 2 ^ b) b (64 - b)
  rw [show b + (64 - b) = 64 by omega] at h1
  have h2 : v % 2 ^ b / 2 ^ b = 0 := Nat.div_eq_of_lt (Nat.mod_lt _ (Nat.two_pow_pos b))
  have h3 : ∀ k, cntN 0 k = 0 := fun k => by
    induction k with
    | zero => rfl
    | succ k ih => rw [cntN, ih, Nat.zero_testBit]; rfl
  rw [h1, h2, h3, Nat.add_zero, cntN_mod (Nat.le_refl _)]
theorem nI_shl6 {k : Nat} (hk : k < 1000) : nI k <<< (nI 6 &&& 31) = nI (k * 64) := pk_shlN _ 6 (by decide) (by omega)
section C41
variable {Γ : gM} {d : Nat} {h : gH} {Q : Option Value → gH → Prop} {t : Nat}
set_option maxRecDepth 100000 in
set_option maxHeartbeats 4000000 in
theorem c_placeOf {n kd : Nat} {w L : List Nat} (hd : 1 ≤ d) (hn : 2 ≤ n) (hn5 : n ≤ 5) (hL : FmL h) (hT : TL h t) (hI : TI h t kd w L) (hw : LtW n w) (hF : FamOf h n w) (hQ : Q (some (.int (nI (cF (famB n w) (cdF n w w.length))))) h) : V Γ mX0_placeOf d 124 124 h 0 [some (.ref 58), some (.ref t), none, none, none, none] [] Q := by
  obtain ⟨f3, f4, f5, f6, hT5, hT6⟩ := id hL
  obtain ⟨hM, hm, hi1, hi2⟩ := hF
  have hwl : w.length ≤ 6 := hI.2.2.2.2.2.1
  have hc := lt_pow_code hn5 hwl (cdF_lt (by omega) hw _ (Nat.le_refl _))
  generalize hcc : cdF n w w.length = c at hc hQ
  have e6 := nI_shr6 (c := c) (by omega)
  have e63 := nI_and63 (c := c) (by omega)
  have loop : ∀ j k, c / 64 - k = j → k ≤ c / 64 → V Γ mX0_placeOf d 124 124 h 11 [some (.ref 58), some (.ref t), some (.int (nI c)), some (.int (nI (cF (famB n w) (64 * k)))), some (.int (nI k)), none] [] Q := by
    intro j
    induction j using Nat.strongRecOn with
    | _ j ih =>
      intro k hj hk
      obtain ⟨v, hv, hg, hb⟩ := hM k (by omega)
      have hcnt := cF_cnt hb 64 (Nat.le_refl _)
      have hp2 : 2 ^ (c % 64) < 2 ^ 64 := Nat.pow_lt_pow_right (by decide) (by omega)
      have e1 : lN (1 * 2 ^ (c % 64)) - lN 1 = lN (2 ^ (c % 64) - 1) := by rw [Nat.one_mul, lN_sub (Nat.two_pow_pos _)]
      have e2 : lN v &&& lN (2 ^ (c % 64) - 1) = lN (v % 2 ^ (c % 64)) := wb_mask hv (by omega)
      refine V_iloadw4 dX0_placeOf_11 ?_
      refine V_iloadn2 dX0_placeOf_13 ?_
      refine V_bipush (v := nI 6) dX0_placeOf_14 (by decide) ?_
      refine V_ishr dX0_placeOf_16 ?_
      refine V_topI e6 ?_
      first | refine U_icmp_ge (tgt := 39) dX0_placeOf_17 (by decide) (by with_reducible rfl) (by with_reducible rfl) (by omega) (by omega) (fun c17 => ?_) (fun c17 => ?_) | refine V_icmp_ge (tgt := 39) dX0_placeOf_17 (by decide) (fun c17 => ?_) (fun c17 => ?_)
      · skip
        have ek : k = c / 64 := by omega
        subst ek
        have hcnt2 := cF_cnt hb (c % 64) (by omega)
        rw [show 64 * (c / 64) + c % 64 = c by omega] at hcnt2
        refine V_lconst (v := lN 1) dX0_placeOf_39 (by decide) ?_
        refine V_iloadn2 dX0_placeOf_40 ?_
        refine V_bipush (v := nI 63) dX0_placeOf_41 (by decide) ?_
        refine V_iand dX0_placeOf_43 ?_
        refine V_topI e63 ?_
        refine V_lshl dX0_placeOf_44 (wb_shl _ (by omega)) ?_
        refine V_lconst (v := lN 1) dX0_placeOf_45 (by decide) ?_
        refine V_lsub dX0_placeOf_46 ?_
        refine V_topL e1 ?_
        refine V_lstorew4 dX0_placeOf_47 (by decide) rfl ?_
        refine V_iloadn3 dX0_placeOf_49 ?_
        refine V_aloadn0 dX0_placeOf_50 ?_
        refine V_getR dX0_placeOf_51 fX0_15 (by first | assumption | rfl) (by first | decide | omega) (by first | assumption | rfl) ?_
        refine V_iloadn2 dX0_placeOf_54 ?_
        refine V_bipush (v := nI 6) dX0_placeOf_55 (by decide) ?_
        refine V_ishr dX0_placeOf_57 ?_
        refine V_topI e6 ?_
        refine U_lald dX0_placeOf_58 (by with_reducible rfl) (by first | assumption | rfl) (by first | decide | omega) (by omega) (by first | assumption | rfl) ?_
        refine V_lloadw4 dX0_placeOf_59 ?_
        refine V_land dX0_placeOf_61 ?_
        refine V_topL e2 ?_
        refine V_callS1 (μ' := mJ13_bitCount_95d88) dX0_placeOf_62 okJ13_bitCount_95d88 lX0_85 (Nat.le_of_ble_eq_true rfl) (Nat.le_of_ble_eq_true rfl) (by omega) ?_
        refine c_bitCount (Nat.lt_of_le_of_lt (Nat.mod_le _ _) hv) ?_
        rw [cnt_low (by omega)]
        dsimp only [gPush]
        first | refine U_iadd dX0_placeOf_65 (by with_reducible rfl) (by with_reducible rfl) ?_ | refine V_iadd dX0_placeOf_65 ?_
        refine V_iret dX0_placeOf_66 rfl rfl ?_
        rw [hcnt2] at hQ
        exact hQ
      · skip
        refine V_iloadn3 dX0_placeOf_20 ?_
        refine V_aloadn0 dX0_placeOf_21 ?_
        refine V_getR dX0_placeOf_22 fX0_15 (by first | assumption | rfl) (by first | decide | omega) (by first | assumption | rfl) ?_
        refine V_iloadw4 dX0_placeOf_25 ?_
        refine U_lald dX0_placeOf_27 (by with_reducible rfl) (by first | assumption | rfl) (by first | decide | omega) (by omega) (by first | assumption | rfl) ?_
        refine V_callS1 (μ' := mJ13_bitCount_95d88) dX0_placeOf_28 okJ13_bitCount_95d88 lX0_85 (Nat.le_of_ble_eq_true rfl) (Nat.le_of_ble_eq_true rfl) (by omega) ?_
        refine c_bitCount hv ?_
        dsimp only [gPush]
        first | refine U_iadd dX0_placeOf_31 (by with_reducible rfl) (by with_reducible rfl) ?_ | refine V_iadd dX0_placeOf_31 ?_
        refine V_istoren3 dX0_placeOf_32 (by decide) rfl ?_
        refine V_iinc4 dX0_placeOf_33 (by first | exact ginc1 _ | rfl) (by decide) rfl ?_
        refine V_goto (tgt := 11) dX0_placeOf_36 (by decide) ?_
        rw [← hcnt, show 64 * k + 64 = 64 * (k + 1) by omega]
        exact ih (c / 64 - (k + 1)) (by omega) (k + 1) rfl (by omega)
  refine V_aloadn0 dX0_placeOf_0 ?_
  refine V_aloadn1 dX0_placeOf_1 ?_
  refine V_callV1 (μ' := mX0_codeOf) dX0_placeOf_2 okX0_codeOf lX0_40 rfl (by first | assumption | rfl) (by first | decide | omega) (Nat.le_of_ble_eq_true rfl) (Nat.le_of_ble_eq_true rfl) (by omega) ?_
  refine c_codeOf hT hI (fun p hp => (hw p hp).1) hi1 ?_
  rw [hcc]
  dsimp only [gPush]
  refine V_istoren2 dX0_placeOf_5 (by decide) rfl ?_
  refine V_iconst (v := nI 0) dX0_placeOf_6 (by decide) ?_
  refine V_istoren3 dX0_placeOf_7 (by decide) rfl ?_
  refine V_iconst (v := nI 0) dX0_placeOf_8 (by decide) ?_
  refine V_istorew4 dX0_placeOf_9 (by decide) rfl ?_
  exact loop _ 0 rfl (by omega)
set_option maxRecDepth 100000 in
set_option maxHeartbeats 4000000 in
theorem c_numberOfMember {n pl : Nat} {w : List Nat} (hd : 3 ≤ d) (hn : 2 ≤ n) (hn5 : n ≤ 5) (hwl : w.length ≤ 6) (hL : FmL h) (hF : FamOf h n w) (hp : pl < cF (famB n w) 15680) (hQ : ∀ c h', c < 15680 → famB n w c = true → cF (famB n w) c = pl → Fr1 h h' 61 64 → Q (some (.int (nI (numF (dcF n w.length c) 0 w.length)))) h') : V Γ mX0_numberOfMember d 124 124 h 0 [some (.ref 58), some (.int (nI pl)), none, none, none] [] Q := by
  obtain ⟨f3, f4, f5, f6, hT5, hT6⟩ := id hL
  obtain ⟨hM, hm, hi1, hi2⟩ := hF
  have hpl := cF_le (famB n w) 15680
  have loop : ∀ j k x, 245 - k = j → k ≤ 245 → cF (famB n w) (64 * k) ≤ pl → V Γ mX0_numberOfMember d 124 124 h 4 [some (.ref 58), some (.int (nI pl)), some (.int (nI (cF (famB n w) (64 * k)))), some (.int (nI k)), x] [] Q := by
    intro j
    induction j using Nat.strongRecOn with
    | _ j ih =>
      intro k x hj hk hle
      by_cases hk2 : k = 245
      · subst hk2
        rw [show 64 * 245 = 15680 from rfl] at hle
        omega
      obtain ⟨v, hv, hg, hb⟩ := hM k (by omega)
      have hcnt := cF_cnt hb 64 (Nat.le_refl _)
      have hle1 := cF_le (famB n w) (64 * k)
      have hc64 : cntN v 64 ≤ 64 := by
        have := cF_le (fun b => v.testBit b) 64
        have h2 := cF_cnt (M := fun b => v.testBit b) (v := v) (k := 0) (fun b hb => by simp) 64 (Nat.le_refl _)
        simp only [Nat.mul_zero, Nat.zero_add] at h2
        have h3 : cF (fun b => v.testBit b) 0 = 0 := rfl
        omega
      have es := nI_shl6 (k := k) (by omega)
      refine V_iloadn3 dX0_numberOfMember_4 ?_
      refine V_sipush (v := nI 245) dX0_numberOfMember_5 (by decide) ?_
      first | refine U_icmp_ge (tgt := 70) dX0_numberOfMember_8 (by decide) (by with_reducible rfl) (by with_reducible rfl) (by omega) (by omega) (fun c8 => ?_) (fun c8 => ?_) | refine V_icmp_ge (tgt := 70) dX0_numberOfMember_8 (by decide) (fun c8 => ?_) (fun c8 => ?_)
      · skip
        omega
      · skip
        refine V_aloadn0 dX0_numberOfMember_11 ?_
        refine V_getR dX0_numberOfMember_12 fX0_15 (by first | assumption | rfl) (by first | decide | omega) (by first | assumption | rfl) ?_
        refine V_iloadn3 dX0_numberOfMember_15 ?_
        refine U_lald dX0_numberOfMember_16 (by with_reducible rfl) (by first | assumption | rfl) (by first | decide | omega) (by omega) (by first | assumption | rfl) ?_
        refine V_callS1 (μ' := mJ13_bitCount_95d88) dX0_numberOfMember_17 okJ13_bitCount_95d88 lX0_85 (Nat.le_of_ble_eq_true rfl) (Nat.le_of_ble_eq_true rfl) (by omega) ?_
        refine c_bitCount hv ?_
        dsimp only [gPush]
        refine V_istorew4 dX0_numberOfMember_20 (by decide) rfl ?_
        refine V_iloadn2 dX0_numberOfMember_22 ?_
        refine V_iloadw4 dX0_numberOfMember_23 ?_
        first | refine U_iadd dX0_numberOfMember_25 (by with_reducible rfl) (by with_reducible rfl) ?_ | refine V_iadd dX0_numberOfMember_25 ?_
        refine V_iloadn1 dX0_numberOfMember_26 ?_
        first | refine U_icmp_le (tgt := 59) dX0_numberOfMember_27 (by decide) (by with_reducible rfl) (by with_reducible rfl) (by omega) (by omega) (fun c27 => ?_) (fun c27 => ?_) | refine V_icmp_le (tgt := 59) dX0_numberOfMember_27 (by decide) (fun c27 => ?_) (fun c27 => ?_)
        · skip
          refine V_iloadn2 dX0_numberOfMember_59 ?_
          refine V_iloadw4 dX0_numberOfMember_60 ?_
          first | refine U_iadd dX0_numberOfMember_62 (by with_reducible rfl) (by with_reducible rfl) ?_ | refine V_iadd dX0_numberOfMember_62 ?_
          refine V_istoren2 dX0_numberOfMember_63 (by decide) rfl ?_
          refine V_iinc3 dX0_numberOfMember_64 (by first | exact ginc1 _ | rfl) (by decide) rfl ?_
          refine V_goto (tgt := 4) dX0_numberOfMember_67 (by decide) ?_
          rw [← hcnt, show 64 * k + 64 = 64 * (k + 1) by omega]
          exact ih (245 - (k + 1)) (by omega) (k + 1) _ rfl (by omega) (by rw [show 64 * (k + 1) = 64 * k + 64 by omega, hcnt]; omega)
        · skip
          skip
          refine V_aloadn0 dX0_numberOfMember_30 ?_
          refine V_iloadn3 dX0_numberOfMember_31 ?_
          refine V_bipush (v := nI 6) dX0_numberOfMember_32 (by decide) ?_
          refine V_ishl dX0_numberOfMember_34 ?_
          refine V_topI es ?_
          refine V_aloadn0 dX0_numberOfMember_35 ?_
          refine V_getR dX0_numberOfMember_36 fX0_15 (by first | assumption | rfl) (by first | decide | omega) (by first | assumption | rfl) ?_
          refine V_iloadn3 dX0_numberOfMember_39 ?_
          refine U_lald dX0_numberOfMember_40 (by with_reducible rfl) (by first | assumption | rfl) (by first | decide | omega) (by omega) (by first | assumption | rfl) ?_
          refine V_iloadn1 dX0_numberOfMember_41 ?_
          refine V_iloadn2 dX0_numberOfMember_42 ?_
          first | refine U_isub dX0_numberOfMember_43 (by with_reducible rfl) (by with_reducible rfl) (by omega) ?_ | refine V_isub dX0_numberOfMember_43 ?_
          refine V_callS2 (μ' := mX0_bitOf) dX0_numberOfMember_44 okX0_bitOf lX0_91 (Nat.le_of_ble_eq_true rfl) (Nat.le_of_ble_eq_true rfl) (by omega) ?_
          refine c_bitOf (by omega) hv (by omega) (by omega) (fun b hb64 hbt hbc => ?_)
          have hcb := cF_cnt hb b (by omega)
          dsimp only [gPush]
          first | refine U_iadd dX0_numberOfMember_47 (by with_reducible rfl) (by with_reducible rfl) ?_ | refine V_iadd dX0_numberOfMember_47 ?_
          refine V_callV1 (μ' := mX0_readCode) dX0_numberOfMember_48 okX0_readCode lX0_68 rfl (by first | assumption | rfl) (by first | decide | omega) (Nat.le_of_ble_eq_true rfl) (Nat.le_of_ble_eq_true rfl) (by omega) ?_
          refine c_readCode (by omega) (by omega) hn hn5 hwl hL hi1 hi2 (fun h2 hU hF2 => ?_)
          have r25 : gR h2 58 5 = some 61 := by rw [hF2.2.2]; exact f5
          dsimp only [gPush]
          refine V_aloadn0 dX0_numberOfMember_51 ?_
          refine V_getR dX0_numberOfMember_52 fX0_26 (by first | assumption | rfl) (by first | decide | omega) (by first | assumption | rfl) ?_
          refine V_callV0 (μ' := mX8_number) dX0_numberOfMember_55 okX8_number lX0_95 rfl (by first | assumption | rfl) (by first | decide | omega) (Nat.le_of_ble_eq_true rfl) (Nat.le_of_ble_eq_true rfl) (by omega) ?_
          refine c_number (by omega) (TL_fr hT5 hF2.2.2) hU ?_
          rw [dcF_len]
          dsimp only [gPush]
          refine V_iret dX0_numberOfMember_58 rfl rfl ?_
          rw [show k * 64 + b = 64 * k + b by omega]
          exact hQ (64 * k + b) h2 (by omega) (by rw [← hb b hb64]; exact hbt) (by rw [hcb, hbc]; omega) hF2
  refine V_iconst (v := nI 0) dX0_numberOfMember_0 (by decide) ?_
  refine V_istoren2 dX0_numberOfMember_1 (by decide) rfl ?_
  refine V_iconst (v := nI 0) dX0_numberOfMember_2 (by decide) ?_
  refine V_istoren3 dX0_numberOfMember_3 (by decide) rfl ?_
  exact loop _ 0 _ rfl (by omega) (Nat.zero_le _)
end C41
