/-! ===== the reference: of, row, taken, feed ===== -/
theorem startF_sh {L : List Nat} {r : Nat} : ∀ k, L.length - r - 1 ≤ k → startF L r k = startF L r (L.length - r - 1)
  | 0, h => by rw [show L.length - r - 1 = 0 by omega]
  | k + 1, h => by
    by_cases e : L.length - r - 1 = k + 1
    · rw [e]
    · have ih := startF_sh (L := L) (r := r) k (by omega)
      show startF L r k + L.getD (r + 1 + k) 0 = _
      rw [ih]
      have z : L.getD (r + 1 + k) 0 = 0 := by rw [List.getD_eq_getElem?_getD, List.getElem?_eq_none (by omega)]; rfl
      rw [z, Nat.add_zero]
theorem l255 (m : Nat) {k : Nat} (hm : m < 2 ^ 64) (hk : k ≤ 56) : (lN m >>> ((nI k).toInt64 &&& 63)) &&& 255 = lN (m / 2 ^ k % 256) := by
  rw [wb_c k (by omega)]
  apply wb_inj
  rw [Int64.toBitVec_and, Int64.toBitVec_shiftRight, wb_tb, wb_tb, wb_sm k (by omega), wb_tb]
  apply BitVec.eq_of_getLsbD_eq
  intro i hi
  rw [BitVec.getLsbD_and]
  have e255 : (255 : Int64).toBitVec.getLsbD i = decide (i < 8) := by
    have : ∀ i, i < 64 → (255 : Int64).toBitVec.getLsbD i = decide (i < 8) := by decide
    exact this i hi
  rw [e255, BitVec.getLsbD_ofNat]
  have hs : (BitVec.ofNat 64 k).toNat = k := by rw [BitVec.toNat_ofNat, Nat.mod_eq_of_lt (by omega)]
  rw [show (BitVec.ofNat 64 m).sshiftRight' (BitVec.ofNat 64 k) = (BitVec.ofNat 64 m).sshiftRight k by show (BitVec.ofNat 64 m).sshiftRight (BitVec.ofNat 64 k).toNat = _; rw [hs]]
  by_cases h8 : i < 8
  · rw [decide_eq_true h8, Bool.and_true, BitVec.getLsbD_sshiftRight, decide_eq_true hi, Bool.true_and, decide_eq_false (by omega : ¬ 64 ≤ i), Bool.not_false, Bool.true_and, if_pos (by omega), BitVec.getLsbD_ofNat, decide_eq_true (by omega), Bool.true_and]
    rw [show (256 : Nat) = 2 ^ 8 from rfl, Nat.testBit_mod_two_pow, decide_eq_true h8, Bool.true_and, Nat.testBit_div_two_pow, Nat.add_comm]
  · rw [decide_eq_false h8, Bool.and_false]
    symm
    rw [show (256 : Nat) = 2 ^ 8 from rfl, Nat.testBit_mod_two_pow, decide_eq_false h8, Bool.false_and, Bool.and_false]
section C63
variable {Γ : gM} {d : Nat} {h : gH} {Q : Option Value → gH → Prop} {S : GS}

set_option maxRecDepth 100000 in
set_option maxHeartbeats 4000000 in
theorem m_of {x y : Int32} (hd : 2 ≤ d) (hR : RM h S) (hWG : WG S) (hQ : ∀ h', RM h' S → FrD h h' → Q (some (.int (g_of S x y))) h') : V Γ mX10_of d 124 124 h 0 [some (.ref 94), some (.int x), some (.int y)] [] Q := by
  obtain ⟨hM, ⟨r0, r1, rT, rW⟩, rK, rK2, rB, rS⟩ := id hR
  obtain ⟨hWS, hWK, hWB, hWX⟩ := id hWG
  have hn2 := hWS.1
  have hn5 := hWS.2.1
  by_cases hg : (inB x 6 && inR y 0 4) = true
  · have hg2 := hg
    rw [Bool.and_eq_true] at hg2
    obtain ⟨s, hs, rfl⟩ := inB_t (by decide) hg2.1
    obtain ⟨k, k0, k4, rfl⟩ := inR_t (by decide) (by decide) hg2.2
    have hWT := hWS.2.2.1 s hs
    obtain ⟨t0, tz⟩ := rT s hs
    have kd2 := hWT.1
    have eS : tS S (nI s) = S.1.2.2.1 s := by unfold tS; rw [cN_nI (by omega)]
    have eq0 : g_of S (nI s) (nI k) = _ := if_t hg
    rw [eq0, eS] at hQ
    by_cases hz : (S.1.2.2.1 s).1 = 0
    · rw [if_pos hz] at hQ
      refine V_iloadn1 dX10_of_0 ?_
      refine V_callS1 (μ' := mX10_isSlot) dX10_of_1 okX10_isSlot lX10_114 (Nat.le_of_ble_eq_true rfl) (Nat.le_of_ble_eq_true rfl) (by omega) ?_
      refine m_isSlot (by omega) ?_
      rw [hg2.1]
      dsimp only [gPush]
      first | refine U_ifB_eq (tgt := 16) dX10_of_4 (by decide) (by with_reducible rfl) (fun c4 => ?_) (fun c4 => ?_) | refine U_if_eq (tgt := 16) dX10_of_4 (by decide) (by with_reducible rfl) (by omega) (fun c4 => ?_) (fun c4 => ?_) | refine V_if_eq (tgt := 16) dX10_of_4 (by decide) (fun c4 => ?_) (fun c4 => ?_)
      · skip
        cases c4
      · skip
        refine V_iloadn2 dX10_of_7 ?_
        refine V_iconst (v := nI 0) dX10_of_8 (by decide) ?_
        refine V_iconst (v := nI 4) dX10_of_9 (by decide) ?_
        refine V_callS3 (μ' := mX10_in) dX10_of_10 okX10_in lX10_104 (Nat.le_of_ble_eq_true rfl) (Nat.le_of_ble_eq_true rfl) (by omega) ?_
        refine m_inR ?_
        rw [hg2.2]
        dsimp only [gPush]
        first | refine U_ifB_ne (tgt := 18) dX10_of_13 (by decide) (by with_reducible rfl) (fun c13 => ?_) (fun c13 => ?_) | refine U_if_ne (tgt := 18) dX10_of_13 (by decide) (by with_reducible rfl) (by omega) (fun c13 => ?_) (fun c13 => ?_) | refine V_if_ne (tgt := 18) dX10_of_13 (by decide) (fun c13 => ?_) (fun c13 => ?_)
        · skip
          refine V_aloadn0 dX10_of_18 ?_
          refine V_getR dX10_of_19 fX10_16 (by first | assumption | rfl) (by first | decide | omega) (by first | assumption | exact ML_4 (by assumption) | exact ML_5 (by assumption) | exact ML_6 (by assumption) | exact ML_7 (by assumption) | exact ML_8 (by assumption) | exact ML_9 (by assumption) | exact ML_10 (by assumption) | exact ML_11 (by assumption) | exact ML_12 (by assumption) | exact ML_13 (by assumption) | exact ML_15 (by assumption) | exact ML_16 (by assumption) | exact ML_17 (by assumption) | exact ML_20 (by assumption) | exact ML_23 (by assumption) | exact ML_24 (by assumption) | exact ML_30 (by assumption) | exact ML_31 (by assumption) | exact ML_32 (by assumption) | exact ML_33 (by assumption) | exact ML_35 (by assumption) | exact ML_36 (by assumption) | exact ML_37 (by assumption) | exact ML_38 (by assumption) | exact ML_41 (by assumption) | exact ML_42 (by assumption) | exact ML_43 (by assumption) | exact ML_44 (by assumption) | exact ML_45 (by assumption) | rfl) ?_
          refine V_iloadn1 dX10_of_22 ?_
          refine U_iald dX10_of_23 (by with_reducible rfl) (by first | assumption | rfl) (by first | decide | omega) (by omega) (by first | assumption | exact ML_4 (by assumption) | exact ML_5 (by assumption) | exact ML_6 (by assumption) | exact ML_7 (by assumption) | exact ML_8 (by assumption) | exact ML_9 (by assumption) | exact ML_10 (by assumption) | exact ML_11 (by assumption) | exact ML_12 (by assumption) | exact ML_13 (by assumption) | exact ML_15 (by assumption) | exact ML_16 (by assumption) | exact ML_17 (by assumption) | exact ML_20 (by assumption) | exact ML_23 (by assumption) | exact ML_24 (by assumption) | exact ML_30 (by assumption) | exact ML_31 (by assumption) | exact ML_32 (by assumption) | exact ML_33 (by assumption) | exact ML_35 (by assumption) | exact ML_36 (by assumption) | exact ML_37 (by assumption) | exact ML_38 (by assumption) | exact ML_41 (by assumption) | exact ML_42 (by assumption) | exact ML_43 (by assumption) | exact ML_44 (by assumption) | exact ML_45 (by assumption) | rfl) ?_
          first | refine U_ifB_ne (tgt := 30) dX10_of_24 (by decide) (by with_reducible rfl) (fun c24 => ?_) (fun c24 => ?_) | refine U_if_ne (tgt := 30) dX10_of_24 (by decide) (by with_reducible rfl) (by omega) (fun c24 => ?_) (fun c24 => ?_) | refine V_if_ne (tgt := 30) dX10_of_24 (by decide) (fun c24 => ?_) (fun c24 => ?_)
          · skip
            omega
          · skip
            refine V_bipush (v := -11) dX10_of_27 (by decide) ?_
            refine V_iret dX10_of_29 rfl rfl ?_
            exact hQ h hR FrD.rf
        · skip
          cases c13
    · rw [if_neg hz] at hQ
      obtain ⟨lp, l6⟩ := L_pos hWT
      by_cases hk0 : k = 0
      · subst hk0
        rw [if_pos rfl] at hQ
        refine V_iloadn1 dX10_of_0 ?_
        refine V_callS1 (μ' := mX10_isSlot) dX10_of_1 okX10_isSlot lX10_114 (Nat.le_of_ble_eq_true rfl) (Nat.le_of_ble_eq_true rfl) (by omega) ?_
        refine m_isSlot (by omega) ?_
        rw [hg2.1]
        dsimp only [gPush]
        first | refine U_ifB_eq (tgt := 16) dX10_of_4 (by decide) (by with_reducible rfl) (fun c4 => ?_) (fun c4 => ?_) | refine U_if_eq (tgt := 16) dX10_of_4 (by decide) (by with_reducible rfl) (by omega) (fun c4 => ?_) (fun c4 => ?_) | refine V_if_eq (tgt := 16) dX10_of_4 (by decide) (fun c4 => ?_) (fun c4 => ?_)
        · skip
          cases c4
        · skip
          refine V_iloadn2 dX10_of_7 ?_
          refine V_iconst (v := nI 0) dX10_of_8 (by decide) ?_
          refine V_iconst (v := nI 4) dX10_of_9 (by decide) ?_
          refine V_callS3 (μ' := mX10_in) dX10_of_10 okX10_in lX10_104 (Nat.le_of_ble_eq_true rfl) (Nat.le_of_ble_eq_true rfl) (by omega) ?_
          refine m_inR ?_
          rw [hg2.2]
          dsimp only [gPush]
          first | refine U_ifB_ne (tgt := 18) dX10_of_13 (by decide) (by with_reducible rfl) (fun c13 => ?_) (fun c13 => ?_) | refine U_if_ne (tgt := 18) dX10_of_13 (by decide) (by with_reducible rfl) (by omega) (fun c13 => ?_) (fun c13 => ?_) | refine V_if_ne (tgt := 18) dX10_of_13 (by decide) (fun c13 => ?_) (fun c13 => ?_)
          · skip
            refine V_aloadn0 dX10_of_18 ?_
            refine V_getR dX10_of_19 fX10_16 (by first | assumption | rfl) (by first | decide | omega) (by first | assumption | exact ML_4 (by assumption) | exact ML_5 (by assumption) | exact ML_6 (by assumption) | exact ML_7 (by assumption) | exact ML_8 (by assumption) | exact ML_9 (by assumption) | exact ML_10 (by assumption) | exact ML_11 (by assumption) | exact ML_12 (by assumption) | exact ML_13 (by assumption) | exact ML_15 (by assumption) | exact ML_16 (by assumption) | exact ML_17 (by assumption) | exact ML_20 (by assumption) | exact ML_23 (by assumption) | exact ML_24 (by assumption) | exact ML_30 (by assumption) | exact ML_31 (by assumption) | exact ML_32 (by assumption) | exact ML_33 (by assumption) | exact ML_35 (by assumption) | exact ML_36 (by assumption) | exact ML_37 (by assumption) | exact ML_38 (by assumption) | exact ML_41 (by assumption) | exact ML_42 (by assumption) | exact ML_43 (by assumption) | exact ML_44 (by assumption) | exact ML_45 (by assumption) | rfl) ?_
            refine V_iloadn1 dX10_of_22 ?_
            refine U_iald dX10_of_23 (by with_reducible rfl) (by first | assumption | rfl) (by first | decide | omega) (by omega) (by first | assumption | exact ML_4 (by assumption) | exact ML_5 (by assumption) | exact ML_6 (by assumption) | exact ML_7 (by assumption) | exact ML_8 (by assumption) | exact ML_9 (by assumption) | exact ML_10 (by assumption) | exact ML_11 (by assumption) | exact ML_12 (by assumption) | exact ML_13 (by assumption) | exact ML_15 (by assumption) | exact ML_16 (by assumption) | exact ML_17 (by assumption) | exact ML_20 (by assumption) | exact ML_23 (by assumption) | exact ML_24 (by assumption) | exact ML_30 (by assumption) | exact ML_31 (by assumption) | exact ML_32 (by assumption) | exact ML_33 (by assumption) | exact ML_35 (by assumption) | exact ML_36 (by assumption) | exact ML_37 (by assumption) | exact ML_38 (by assumption) | exact ML_41 (by assumption) | exact ML_42 (by assumption) | exact ML_43 (by assumption) | exact ML_44 (by assumption) | exact ML_45 (by assumption) | rfl) ?_
            first | refine U_ifB_ne (tgt := 30) dX10_of_24 (by decide) (by with_reducible rfl) (fun c24 => ?_) (fun c24 => ?_) | refine U_if_ne (tgt := 30) dX10_of_24 (by decide) (by with_reducible rfl) (by omega) (fun c24 => ?_) (fun c24 => ?_) | refine V_if_ne (tgt := 30) dX10_of_24 (by decide) (fun c24 => ?_) (fun c24 => ?_)
            · skip
              refine V_aloadn0 dX10_of_30 ?_
              refine V_iloadn1 dX10_of_31 ?_
              refine V_callV1 (μ' := mX10_takes) dX10_of_32 okX10_takes lX10_146 rfl (by first | assumption | rfl) (by first | decide | omega) (Nat.le_of_ble_eq_true rfl) (Nat.le_of_ble_eq_true rfl) (by omega) ?_
              refine m_takes hs hR hWT hn5 hz (fun h1 hk1 hW1 hL1 hR1 hF1 => ?_)
              have hM1 := hR1.1
              have hQ' := hQ h1 hR1 hF1.D
              have w18 := hW1.1
              have n1 : gI h1 94 0 = nI S.1.1 := hR1.2.1.1
              have ek : (if (S.1.2.2.1 s).1 = 2 then nI 1 else nI 0) = nI ((S.1.2.2.1 s).1 - 1) := by
                by_cases q : (S.1.2.2.1 s).1 = 2
                · rw [if_pos q, q]
                · rw [if_neg q, show (S.1.2.2.1 s).1 - 1 = 0 by omega]
              dsimp only [gPush]
              refine V_iloadn2 dX10_of_35 ?_
              refine V_tableIn (tgt := 68) dX10_of_36 (by decide) (by decide) rfl (by decide) ?_
              refine V_aloadn0 dX10_of_68 ?_
              refine V_getI dX10_of_69 fX10_108 (Or.inl rfl) (by first | assumption | rfl) (by first | decide | omega) (by first | assumption | exact ML_4 (by assumption) | exact ML_5 (by assumption) | exact ML_6 (by assumption) | exact ML_7 (by assumption) | exact ML_8 (by assumption) | exact ML_9 (by assumption) | exact ML_10 (by assumption) | exact ML_11 (by assumption) | exact ML_12 (by assumption) | exact ML_13 (by assumption) | exact ML_15 (by assumption) | exact ML_16 (by assumption) | exact ML_17 (by assumption) | exact ML_20 (by assumption) | exact ML_23 (by assumption) | exact ML_24 (by assumption) | exact ML_30 (by assumption) | exact ML_31 (by assumption) | exact ML_32 (by assumption) | exact ML_33 (by assumption) | exact ML_35 (by assumption) | exact ML_36 (by assumption) | exact ML_37 (by assumption) | exact ML_38 (by assumption) | exact ML_41 (by assumption) | exact ML_42 (by assumption) | exact ML_43 (by assumption) | exact ML_44 (by assumption) | exact ML_45 (by assumption) | rfl) ?_
              refine V_iconst (v := nI 1) dX10_of_72 (by decide) ?_
              first | refine U_isub dX10_of_73 (by with_reducible rfl) (by with_reducible rfl) (by omega) ?_ | refine V_isub dX10_of_73 ?_
              refine V_iret dX10_of_74 rfl rfl ?_
              first | exact hQ' | (rw [ek] at hQ'; exact hQ')
            · skip
              omega
          · skip
            cases c13
      by_cases hk1 : k = 1
      · subst hk1
        rw [if_neg (by decide), if_pos rfl] at hQ
        refine V_iloadn1 dX10_of_0 ?_
        refine V_callS1 (μ' := mX10_isSlot) dX10_of_1 okX10_isSlot lX10_114 (Nat.le_of_ble_eq_true rfl) (Nat.le_of_ble_eq_true rfl) (by omega) ?_
        refine m_isSlot (by omega) ?_
        rw [hg2.1]
        dsimp only [gPush]
        first | refine U_ifB_eq (tgt := 16) dX10_of_4 (by decide) (by with_reducible rfl) (fun c4 => ?_) (fun c4 => ?_) | refine U_if_eq (tgt := 16) dX10_of_4 (by decide) (by with_reducible rfl) (by omega) (fun c4 => ?_) (fun c4 => ?_) | refine V_if_eq (tgt := 16) dX10_of_4 (by decide) (fun c4 => ?_) (fun c4 => ?_)
        · skip
          cases c4
        · skip
          refine V_iloadn2 dX10_of_7 ?_
          refine V_iconst (v := nI 0) dX10_of_8 (by decide) ?_
          refine V_iconst (v := nI 4) dX10_of_9 (by decide) ?_
          refine V_callS3 (μ' := mX10_in) dX10_of_10 okX10_in lX10_104 (Nat.le_of_ble_eq_true rfl) (Nat.le_of_ble_eq_true rfl) (by omega) ?_
          refine m_inR ?_
          rw [hg2.2]
          dsimp only [gPush]
          first | refine U_ifB_ne (tgt := 18) dX10_of_13 (by decide) (by with_reducible rfl) (fun c13 => ?_) (fun c13 => ?_) | refine U_if_ne (tgt := 18) dX10_of_13 (by decide) (by with_reducible rfl) (by omega) (fun c13 => ?_) (fun c13 => ?_) | refine V_if_ne (tgt := 18) dX10_of_13 (by decide) (fun c13 => ?_) (fun c13 => ?_)
          · skip
            refine V_aloadn0 dX10_of_18 ?_
            refine V_getR dX10_of_19 fX10_16 (by first | assumption | rfl) (by first | decide | omega) (by first | assumption | exact ML_4 (by assumption) | exact ML_5 (by assumption) | exact ML_6 (by assumption) | exact ML_7 (by assumption) | exact ML_8 (by assumption) | exact ML_9 (by assumption) | exact ML_10 (by assumption) | exact ML_11 (by assumption) | exact ML_12 (by assumption) | exact ML_13 (by assumption) | exact ML_15 (by assumption) | exact ML_16 (by assumption) | exact ML_17 (by assumption) | exact ML_20 (by assumption) | exact ML_23 (by assumption) | exact ML_24 (by assumption) | exact ML_30 (by assumption) | exact ML_31 (by assumption) | exact ML_32 (by assumption) | exact ML_33 (by assumption) | exact ML_35 (by assumption) | exact ML_36 (by assumption) | exact ML_37 (by assumption) | exact ML_38 (by assumption) | exact ML_41 (by assumption) | exact ML_42 (by assumption) | exact ML_43 (by assumption) | exact ML_44 (by assumption) | exact ML_45 (by assumption) | rfl) ?_
            refine V_iloadn1 dX10_of_22 ?_
            refine U_iald dX10_of_23 (by with_reducible rfl) (by first | assumption | rfl) (by first | decide | omega) (by omega) (by first | assumption | exact ML_4 (by assumption) | exact ML_5 (by assumption) | exact ML_6 (by assumption) | exact ML_7 (by assumption) | exact ML_8 (by assumption) | exact ML_9 (by assumption) | exact ML_10 (by assumption) | exact ML_11 (by assumption) | exact ML_12 (by assumption) | exact ML_13 (by assumption) | exact ML_15 (by assumption) | exact ML_16 (by assumption) | exact ML_17 (by assumption) | exact ML_20 (by assumption) | exact ML_23 (by assumption) | exact ML_24 (by assumption) | exact ML_30 (by assumption) | exact ML_31 (by assumption) | exact ML_32 (by assumption) | exact ML_33 (by assumption) | exact ML_35 (by assumption) | exact ML_36 (by assumption) | exact ML_37 (by assumption) | exact ML_38 (by assumption) | exact ML_41 (by assumption) | exact ML_42 (by assumption) | exact ML_43 (by assumption) | exact ML_44 (by assumption) | exact ML_45 (by assumption) | rfl) ?_
            first | refine U_ifB_ne (tgt := 30) dX10_of_24 (by decide) (by with_reducible rfl) (fun c24 => ?_) (fun c24 => ?_) | refine U_if_ne (tgt := 30) dX10_of_24 (by decide) (by with_reducible rfl) (by omega) (fun c24 => ?_) (fun c24 => ?_) | refine V_if_ne (tgt := 30) dX10_of_24 (by decide) (fun c24 => ?_) (fun c24 => ?_)
            · skip
              refine V_aloadn0 dX10_of_30 ?_
              refine V_iloadn1 dX10_of_31 ?_
              refine V_callV1 (μ' := mX10_takes) dX10_of_32 okX10_takes lX10_146 rfl (by first | assumption | rfl) (by first | decide | omega) (Nat.le_of_ble_eq_true rfl) (Nat.le_of_ble_eq_true rfl) (by omega) ?_
              refine m_takes hs hR hWT hn5 hz (fun h1 hk1 hW1 hL1 hR1 hF1 => ?_)
              have hM1 := hR1.1
              have hQ' := hQ h1 hR1 hF1.D
              have w18 := hW1.1
              have n1 : gI h1 94 0 = nI S.1.1 := hR1.2.1.1
              have ek : (if (S.1.2.2.1 s).1 = 2 then nI 1 else nI 0) = nI ((S.1.2.2.1 s).1 - 1) := by
                by_cases q : (S.1.2.2.1 s).1 = 2
                · rw [if_pos q, q]
                · rw [if_neg q, show (S.1.2.2.1 s).1 - 1 = 0 by omega]
              dsimp only [gPush]
              refine V_iloadn2 dX10_of_35 ?_
              refine V_tableIn (tgt := 75) dX10_of_36 (by decide) (by decide) rfl (by decide) ?_
              refine V_aloadn0 dX10_of_75 ?_
              refine V_getI dX10_of_76 fX10_111 (Or.inl rfl) (by first | assumption | rfl) (by first | decide | omega) (by first | assumption | exact ML_4 (by assumption) | exact ML_5 (by assumption) | exact ML_6 (by assumption) | exact ML_7 (by assumption) | exact ML_8 (by assumption) | exact ML_9 (by assumption) | exact ML_10 (by assumption) | exact ML_11 (by assumption) | exact ML_12 (by assumption) | exact ML_13 (by assumption) | exact ML_15 (by assumption) | exact ML_16 (by assumption) | exact ML_17 (by assumption) | exact ML_20 (by assumption) | exact ML_23 (by assumption) | exact ML_24 (by assumption) | exact ML_30 (by assumption) | exact ML_31 (by assumption) | exact ML_32 (by assumption) | exact ML_33 (by assumption) | exact ML_35 (by assumption) | exact ML_36 (by assumption) | exact ML_37 (by assumption) | exact ML_38 (by assumption) | exact ML_41 (by assumption) | exact ML_42 (by assumption) | exact ML_43 (by assumption) | exact ML_44 (by assumption) | exact ML_45 (by assumption) | rfl) ?_
              refine V_iret dX10_of_79 rfl rfl ?_
              first | exact hQ' | (rw [ek] at hQ'; exact hQ')
            · skip
              omega
          · skip
            cases c13
      by_cases hk2 : k = 2
      · subst hk2
        rw [if_neg (by decide), if_neg (by decide), if_pos rfl] at hQ
        refine V_iloadn1 dX10_of_0 ?_
        refine V_callS1 (μ' := mX10_isSlot) dX10_of_1 okX10_isSlot lX10_114 (Nat.le_of_ble_eq_true rfl) (Nat.le_of_ble_eq_true rfl) (by omega) ?_
        refine m_isSlot (by omega) ?_
        rw [hg2.1]
        dsimp only [gPush]
        first | refine U_ifB_eq (tgt := 16) dX10_of_4 (by decide) (by with_reducible rfl) (fun c4 => ?_) (fun c4 => ?_) | refine U_if_eq (tgt := 16) dX10_of_4 (by decide) (by with_reducible rfl) (by omega) (fun c4 => ?_) (fun c4 => ?_) | refine V_if_eq (tgt := 16) dX10_of_4 (by decide) (fun c4 => ?_) (fun c4 => ?_)
        · skip
          cases c4
        · skip
          refine V_iloadn2 dX10_of_7 ?_
          refine V_iconst (v := nI 0) dX10_of_8 (by decide) ?_
          refine V_iconst (v := nI 4) dX10_of_9 (by decide) ?_
          refine V_callS3 (μ' := mX10_in) dX10_of_10 okX10_in lX10_104 (Nat.le_of_ble_eq_true rfl) (Nat.le_of_ble_eq_true rfl) (by omega) ?_
          refine m_inR ?_
          rw [hg2.2]
          dsimp only [gPush]
          first | refine U_ifB_ne (tgt := 18) dX10_of_13 (by decide) (by with_reducible rfl) (fun c13 => ?_) (fun c13 => ?_) | refine U_if_ne (tgt := 18) dX10_of_13 (by decide) (by with_reducible rfl) (by omega) (fun c13 => ?_) (fun c13 => ?_) | refine V_if_ne (tgt := 18) dX10_of_13 (by decide) (fun c13 => ?_) (fun c13 => ?_)
          · skip
            refine V_aloadn0 dX10_of_18 ?_
            refine V_getR dX10_of_19 fX10_16 (by first | assumption | rfl) (by first | decide | omega) (by first | assumption | exact ML_4 (by assumption) | exact ML_5 (by assumption) | exact ML_6 (by assumption) | exact ML_7 (by assumption) | exact ML_8 (by assumption) | exact ML_9 (by assumption) | exact ML_10 (by assumption) | exact ML_11 (by assumption) | exact ML_12 (by assumption) | exact ML_13 (by assumption) | exact ML_15 (by assumption) | exact ML_16 (by assumption) | exact ML_17 (by assumption) | exact ML_20 (by assumption) | exact ML_23 (by assumption) | exact ML_24 (by assumption) | exact ML_30 (by assumption) | exact ML_31 (by assumption) | exact ML_32 (by assumption) | exact ML_33 (by assumption) | exact ML_35 (by assumption) | exact ML_36 (by assumption) | exact ML_37 (by assumption) | exact ML_38 (by assumption) | exact ML_41 (by assumption) | exact ML_42 (by assumption) | exact ML_43 (by assumption) | exact ML_44 (by assumption) | exact ML_45 (by assumption) | rfl) ?_
            refine V_iloadn1 dX10_of_22 ?_
            refine U_iald dX10_of_23 (by with_reducible rfl) (by first | assumption | rfl) (by first | decide | omega) (by omega) (by first | assumption | exact ML_4 (by assumption) | exact ML_5 (by assumption) | exact ML_6 (by assumption) | exact ML_7 (by assumption) | exact ML_8 (by assumption) | exact ML_9 (by assumption) | exact ML_10 (by assumption) | exact ML_11 (by assumption) | exact ML_12 (by assumption) | exact ML_13 (by assumption) | exact ML_15 (by assumption) | exact ML_16 (by assumption) | exact ML_17 (by assumption) | exact ML_20 (by assumption) | exact ML_23 (by assumption) | exact ML_24 (by assumption) | exact ML_30 (by assumption) | exact ML_31 (by assumption) | exact ML_32 (by assumption) | exact ML_33 (by assumption) | exact ML_35 (by assumption) | exact ML_36 (by assumption) | exact ML_37 (by assumption) | exact ML_38 (by assumption) | exact ML_41 (by assumption) | exact ML_42 (by assumption) | exact ML_43 (by assumption) | exact ML_44 (by assumption) | exact ML_45 (by assumption) | rfl) ?_
            first | refine U_ifB_ne (tgt := 30) dX10_of_24 (by decide) (by with_reducible rfl) (fun c24 => ?_) (fun c24 => ?_) | refine U_if_ne (tgt := 30) dX10_of_24 (by decide) (by with_reducible rfl) (by omega) (fun c24 => ?_) (fun c24 => ?_) | refine V_if_ne (tgt := 30) dX10_of_24 (by decide) (fun c24 => ?_) (fun c24 => ?_)
            · skip
              refine V_aloadn0 dX10_of_30 ?_
              refine V_iloadn1 dX10_of_31 ?_
              refine V_callV1 (μ' := mX10_takes) dX10_of_32 okX10_takes lX10_146 rfl (by first | assumption | rfl) (by first | decide | omega) (Nat.le_of_ble_eq_true rfl) (Nat.le_of_ble_eq_true rfl) (by omega) ?_
              refine m_takes hs hR hWT hn5 hz (fun h1 hk1 hW1 hL1 hR1 hF1 => ?_)
              have hM1 := hR1.1
              have hQ' := hQ h1 hR1 hF1.D
              have w18 := hW1.1
              have n1 : gI h1 94 0 = nI S.1.1 := hR1.2.1.1
              have ek : (if (S.1.2.2.1 s).1 = 2 then nI 1 else nI 0) = nI ((S.1.2.2.1 s).1 - 1) := by
                by_cases q : (S.1.2.2.1 s).1 = 2
                · rw [if_pos q, q]
                · rw [if_neg q, show (S.1.2.2.1 s).1 - 1 = 0 by omega]
              dsimp only [gPush]
              refine V_iloadn2 dX10_of_35 ?_
              refine V_tableIn (tgt := 80) dX10_of_36 (by decide) (by decide) rfl (by decide) ?_
              refine V_aloadn0 dX10_of_80 ?_
              refine V_callV0 (μ' := mX10_read) dX10_of_81 okX10_read lX10_149 rfl (by first | assumption | rfl) (by first | decide | omega) (Nat.le_of_ble_eq_true rfl) (Nat.le_of_ble_eq_true rfl) (by omega) ?_
              refine m_read hM1 hW1 ?_
              dsimp only [gPush]
              refine V_iret dX10_of_84 rfl rfl ?_
              first | exact hQ' | (rw [ek] at hQ'; exact hQ')
            · skip
              omega
          · skip
            cases c13
      by_cases hk3 : k = 3
      · subst hk3
        rw [if_neg (by decide), if_neg (by decide), if_neg (by decide), if_pos rfl] at hQ
        refine V_iloadn1 dX10_of_0 ?_
        refine V_callS1 (μ' := mX10_isSlot) dX10_of_1 okX10_isSlot lX10_114 (Nat.le_of_ble_eq_true rfl) (Nat.le_of_ble_eq_true rfl) (by omega) ?_
        refine m_isSlot (by omega) ?_
        rw [hg2.1]
        dsimp only [gPush]
        first | refine U_ifB_eq (tgt := 16) dX10_of_4 (by decide) (by with_reducible rfl) (fun c4 => ?_) (fun c4 => ?_) | refine U_if_eq (tgt := 16) dX10_of_4 (by decide) (by with_reducible rfl) (by omega) (fun c4 => ?_) (fun c4 => ?_) | refine V_if_eq (tgt := 16) dX10_of_4 (by decide) (fun c4 => ?_) (fun c4 => ?_)
        · skip
          cases c4
        · skip
          refine V_iloadn2 dX10_of_7 ?_
          refine V_iconst (v := nI 0) dX10_of_8 (by decide) ?_
          refine V_iconst (v := nI 4) dX10_of_9 (by decide) ?_
          refine V_callS3 (μ' := mX10_in) dX10_of_10 okX10_in lX10_104 (Nat.le_of_ble_eq_true rfl) (Nat.le_of_ble_eq_true rfl) (by omega) ?_
          refine m_inR ?_
          rw [hg2.2]
          dsimp only [gPush]
          first | refine U_ifB_ne (tgt := 18) dX10_of_13 (by decide) (by with_reducible rfl) (fun c13 => ?_) (fun c13 => ?_) | refine U_if_ne (tgt := 18) dX10_of_13 (by decide) (by with_reducible rfl) (by omega) (fun c13 => ?_) (fun c13 => ?_) | refine V_if_ne (tgt := 18) dX10_of_13 (by decide) (fun c13 => ?_) (fun c13 => ?_)
          · skip
            refine V_aloadn0 dX10_of_18 ?_
            refine V_getR dX10_of_19 fX10_16 (by first | assumption | rfl) (by first | decide | omega) (by first | assumption | exact ML_4 (by assumption) | exact ML_5 (by assumption) | exact ML_6 (by assumption) | exact ML_7 (by assumption) | exact ML_8 (by assumption) | exact ML_9 (by assumption) | exact ML_10 (by assumption) | exact ML_11 (by assumption) | exact ML_12 (by assumption) | exact ML_13 (by assumption) | exact ML_15 (by assumption) | exact ML_16 (by assumption) | exact ML_17 (by assumption) | exact ML_20 (by assumption) | exact ML_23 (by assumption) | exact ML_24 (by assumption) | exact ML_30 (by assumption) | exact ML_31 (by assumption) | exact ML_32 (by assumption) | exact ML_33 (by assumption) | exact ML_35 (by assumption) | exact ML_36 (by assumption) | exact ML_37 (by assumption) | exact ML_38 (by assumption) | exact ML_41 (by assumption) | exact ML_42 (by assumption) | exact ML_43 (by assumption) | exact ML_44 (by assumption) | exact ML_45 (by assumption) | rfl) ?_
            refine V_iloadn1 dX10_of_22 ?_
            refine U_iald dX10_of_23 (by with_reducible rfl) (by first | assumption | rfl) (by first | decide | omega) (by omega) (by first | assumption | exact ML_4 (by assumption) | exact ML_5 (by assumption) | exact ML_6 (by assumption) | exact ML_7 (by assumption) | exact ML_8 (by assumption) | exact ML_9 (by assumption) | exact ML_10 (by assumption) | exact ML_11 (by assumption) | exact ML_12 (by assumption) | exact ML_13 (by assumption) | exact ML_15 (by assumption) | exact ML_16 (by assumption) | exact ML_17 (by assumption) | exact ML_20 (by assumption) | exact ML_23 (by assumption) | exact ML_24 (by assumption) | exact ML_30 (by assumption) | exact ML_31 (by assumption) | exact ML_32 (by assumption) | exact ML_33 (by assumption) | exact ML_35 (by assumption) | exact ML_36 (by assumption) | exact ML_37 (by assumption) | exact ML_38 (by assumption) | exact ML_41 (by assumption) | exact ML_42 (by assumption) | exact ML_43 (by assumption) | exact ML_44 (by assumption) | exact ML_45 (by assumption) | rfl) ?_
            first | refine U_ifB_ne (tgt := 30) dX10_of_24 (by decide) (by with_reducible rfl) (fun c24 => ?_) (fun c24 => ?_) | refine U_if_ne (tgt := 30) dX10_of_24 (by decide) (by with_reducible rfl) (by omega) (fun c24 => ?_) (fun c24 => ?_) | refine V_if_ne (tgt := 30) dX10_of_24 (by decide) (fun c24 => ?_) (fun c24 => ?_)
            · skip
              refine V_aloadn0 dX10_of_30 ?_
              refine V_iloadn1 dX10_of_31 ?_
              refine V_callV1 (μ' := mX10_takes) dX10_of_32 okX10_takes lX10_146 rfl (by first | assumption | rfl) (by first | decide | omega) (Nat.le_of_ble_eq_true rfl) (Nat.le_of_ble_eq_true rfl) (by omega) ?_
              refine m_takes hs hR hWT hn5 hz (fun h1 hk1 hW1 hL1 hR1 hF1 => ?_)
              have hM1 := hR1.1
              have hQ' := hQ h1 hR1 hF1.D
              have w18 := hW1.1
              have n1 : gI h1 94 0 = nI S.1.1 := hR1.2.1.1
              have ek : (if (S.1.2.2.1 s).1 = 2 then nI 1 else nI 0) = nI ((S.1.2.2.1 s).1 - 1) := by
                by_cases q : (S.1.2.2.1 s).1 = 2
                · rw [if_pos q, q]
                · rw [if_neg q, show (S.1.2.2.1 s).1 - 1 = 0 by omega]
              dsimp only [gPush]
              refine V_iloadn2 dX10_of_35 ?_
              refine V_tableIn (tgt := 85) dX10_of_36 (by decide) (by decide) rfl (by decide) ?_
              refine V_aloadn0 dX10_of_85 ?_
              refine V_callV0 (μ' := mX10_content) dX10_of_86 okX10_content lX10_152 rfl (by first | assumption | rfl) (by first | decide | omega) (Nat.le_of_ble_eq_true rfl) (Nat.le_of_ble_eq_true rfl) (by omega) ?_
              refine m_content hM1 hn5 n1 hW1 ?_
              dsimp only [gPush]
              refine V_iret dX10_of_89 rfl rfl ?_
              first | exact hQ' | (rw [ek] at hQ'; exact hQ')
            · skip
              omega
          · skip
            cases c13
      by_cases hk4 : k = 4
      · subst hk4
        rw [if_neg (by decide), if_neg (by decide), if_neg (by decide), if_neg (by decide)] at hQ
        refine V_iloadn1 dX10_of_0 ?_
        refine V_callS1 (μ' := mX10_isSlot) dX10_of_1 okX10_isSlot lX10_114 (Nat.le_of_ble_eq_true rfl) (Nat.le_of_ble_eq_true rfl) (by omega) ?_
        refine m_isSlot (by omega) ?_
        rw [hg2.1]
        dsimp only [gPush]
        first | refine U_ifB_eq (tgt := 16) dX10_of_4 (by decide) (by with_reducible rfl) (fun c4 => ?_) (fun c4 => ?_) | refine U_if_eq (tgt := 16) dX10_of_4 (by decide) (by with_reducible rfl) (by omega) (fun c4 => ?_) (fun c4 => ?_) | refine V_if_eq (tgt := 16) dX10_of_4 (by decide) (fun c4 => ?_) (fun c4 => ?_)
        · skip
          cases c4
        · skip
          refine V_iloadn2 dX10_of_7 ?_
          refine V_iconst (v := nI 0) dX10_of_8 (by decide) ?_
          refine V_iconst (v := nI 4) dX10_of_9 (by decide) ?_
          refine V_callS3 (μ' := mX10_in) dX10_of_10 okX10_in lX10_104 (Nat.le_of_ble_eq_true rfl) (Nat.le_of_ble_eq_true rfl) (by omega) ?_
          refine m_inR ?_
          rw [hg2.2]
          dsimp only [gPush]
          first | refine U_ifB_ne (tgt := 18) dX10_of_13 (by decide) (by with_reducible rfl) (fun c13 => ?_) (fun c13 => ?_) | refine U_if_ne (tgt := 18) dX10_of_13 (by decide) (by with_reducible rfl) (by omega) (fun c13 => ?_) (fun c13 => ?_) | refine V_if_ne (tgt := 18) dX10_of_13 (by decide) (fun c13 => ?_) (fun c13 => ?_)
          · skip
            refine V_aloadn0 dX10_of_18 ?_
            refine V_getR dX10_of_19 fX10_16 (by first | assumption | rfl) (by first | decide | omega) (by first | assumption | exact ML_4 (by assumption) | exact ML_5 (by assumption) | exact ML_6 (by assumption) | exact ML_7 (by assumption) | exact ML_8 (by assumption) | exact ML_9 (by assumption) | exact ML_10 (by assumption) | exact ML_11 (by assumption) | exact ML_12 (by assumption) | exact ML_13 (by assumption) | exact ML_15 (by assumption) | exact ML_16 (by assumption) | exact ML_17 (by assumption) | exact ML_20 (by assumption) | exact ML_23 (by assumption) | exact ML_24 (by assumption) | exact ML_30 (by assumption) | exact ML_31 (by assumption) | exact ML_32 (by assumption) | exact ML_33 (by assumption) | exact ML_35 (by assumption) | exact ML_36 (by assumption) | exact ML_37 (by assumption) | exact ML_38 (by assumption) | exact ML_41 (by assumption) | exact ML_42 (by assumption) | exact ML_43 (by assumption) | exact ML_44 (by assumption) | exact ML_45 (by assumption) | rfl) ?_
            refine V_iloadn1 dX10_of_22 ?_
            refine U_iald dX10_of_23 (by with_reducible rfl) (by first | assumption | rfl) (by first | decide | omega) (by omega) (by first | assumption | exact ML_4 (by assumption) | exact ML_5 (by assumption) | exact ML_6 (by assumption) | exact ML_7 (by assumption) | exact ML_8 (by assumption) | exact ML_9 (by assumption) | exact ML_10 (by assumption) | exact ML_11 (by assumption) | exact ML_12 (by assumption) | exact ML_13 (by assumption) | exact ML_15 (by assumption) | exact ML_16 (by assumption) | exact ML_17 (by assumption) | exact ML_20 (by assumption) | exact ML_23 (by assumption) | exact ML_24 (by assumption) | exact ML_30 (by assumption) | exact ML_31 (by assumption) | exact ML_32 (by assumption) | exact ML_33 (by assumption) | exact ML_35 (by assumption) | exact ML_36 (by assumption) | exact ML_37 (by assumption) | exact ML_38 (by assumption) | exact ML_41 (by assumption) | exact ML_42 (by assumption) | exact ML_43 (by assumption) | exact ML_44 (by assumption) | exact ML_45 (by assumption) | rfl) ?_
            first | refine U_ifB_ne (tgt := 30) dX10_of_24 (by decide) (by with_reducible rfl) (fun c24 => ?_) (fun c24 => ?_) | refine U_if_ne (tgt := 30) dX10_of_24 (by decide) (by with_reducible rfl) (by omega) (fun c24 => ?_) (fun c24 => ?_) | refine V_if_ne (tgt := 30) dX10_of_24 (by decide) (fun c24 => ?_) (fun c24 => ?_)
            · skip
              refine V_aloadn0 dX10_of_30 ?_
              refine V_iloadn1 dX10_of_31 ?_
              refine V_callV1 (μ' := mX10_takes) dX10_of_32 okX10_takes lX10_146 rfl (by first | assumption | rfl) (by first | decide | omega) (Nat.le_of_ble_eq_true rfl) (Nat.le_of_ble_eq_true rfl) (by omega) ?_
              refine m_takes hs hR hWT hn5 hz (fun h1 hk1 hW1 hL1 hR1 hF1 => ?_)
              have hM1 := hR1.1
              have hQ' := hQ h1 hR1 hF1.D
              have w18 := hW1.1
              have n1 : gI h1 94 0 = nI S.1.1 := hR1.2.1.1
              have ek : (if (S.1.2.2.1 s).1 = 2 then nI 1 else nI 0) = nI ((S.1.2.2.1 s).1 - 1) := by
                by_cases q : (S.1.2.2.1 s).1 = 2
                · rw [if_pos q, q]
                · rw [if_neg q, show (S.1.2.2.1 s).1 - 1 = 0 by omega]
              dsimp only [gPush]
              refine V_iloadn2 dX10_of_35 ?_
              refine V_tableOut (tgt := 90) dX10_of_36 (by first | assumption | decide) (by decide) ?_
              refine V_aloadn0 dX10_of_90 ?_
              refine V_callV0 (μ' := mX10_manyRows) dX10_of_91 okX10_manyRows lX10_155 rfl (by first | assumption | rfl) (by first | decide | omega) (Nat.le_of_ble_eq_true rfl) (Nat.le_of_ble_eq_true rfl) (by omega) ?_
              refine m_manyRows hM1 hL1 lp l6 ?_
              dsimp only [gPush]
              refine V_iret dX10_of_94 rfl rfl ?_
              first | exact hQ' | (rw [ek] at hQ'; exact hQ')
            · skip
              omega
          · skip
            cases c13
      omega
  · have hQ9 := hQ h hR FrD.rf
    have eq0 : g_of S x y = -1 := if_neg hg
    rw [eq0] at hQ9
    refine V_iloadn1 dX10_of_0 ?_
    refine V_callS1 (μ' := mX10_isSlot) dX10_of_1 okX10_isSlot lX10_114 (Nat.le_of_ble_eq_true rfl) (Nat.le_of_ble_eq_true rfl) (by omega) ?_
    refine m_isSlot (by omega) ?_
    dsimp only [gPush]
    first | refine U_ifB_eq (tgt := 16) dX10_of_4 (by decide) (by with_reducible rfl) (fun c4 => ?_) (fun c4 => ?_) | refine U_if_eq (tgt := 16) dX10_of_4 (by decide) (by with_reducible rfl) (by omega) (fun c4 => ?_) (fun c4 => ?_) | refine V_if_eq (tgt := 16) dX10_of_4 (by decide) (fun c4 => ?_) (fun c4 => ?_)
    · skip
      refine V_iconst (v := -1) dX10_of_16 (by decide) ?_
      refine V_iret dX10_of_17 rfl rfl ?_
      exact hQ9
    · skip
      refine V_iloadn2 dX10_of_7 ?_
      refine V_iconst (v := nI 0) dX10_of_8 (by decide) ?_
      refine V_iconst (v := nI 4) dX10_of_9 (by decide) ?_
      refine V_callS3 (μ' := mX10_in) dX10_of_10 okX10_in lX10_104 (Nat.le_of_ble_eq_true rfl) (Nat.le_of_ble_eq_true rfl) (by omega) ?_
      refine m_inR ?_
      dsimp only [gPush]
      first | refine U_ifB_ne (tgt := 18) dX10_of_13 (by decide) (by with_reducible rfl) (fun c13 => ?_) (fun c13 => ?_) | refine U_if_ne (tgt := 18) dX10_of_13 (by decide) (by with_reducible rfl) (by omega) (fun c13 => ?_) (fun c13 => ?_) | refine V_if_ne (tgt := 18) dX10_of_13 (by decide) (fun c13 => ?_) (fun c13 => ?_)
      · skip
        exact absurd (by rw [c4, c13]; rfl) hg
      · skip
        refine V_iconst (v := -1) dX10_of_16 (by decide) ?_
        refine V_iret dX10_of_17 rfl rfl ?_
        exact hQ9

set_option maxRecDepth 100000 in
set_option maxHeartbeats 4000000 in
theorem m_taken {x y : Int32} (hd : 2 ≤ d) (hR : RM h S) (hWG : WG S) (hQ : ∀ h', RM h' S → FrD h h' → Q (some (.int (g_taken S x y))) h') : V Γ mX10_taken d 124 124 h 0 [some (.ref 94), some (.int x), some (.int y)] [] Q := by
  obtain ⟨hM, ⟨r0, r1, rT, rW⟩, rK, rK2, rB, rS⟩ := id hR
  obtain ⟨hWS, hWK, hWB, hWX⟩ := id hWG
  have hn2 := hWS.1
  have hn5 := hWS.2.1
  by_cases hg : (inB x 6 && inR y 0 1) = true
  · have hg2 := hg
    rw [Bool.and_eq_true] at hg2
    obtain ⟨s, hs, rfl⟩ := inB_t (by decide) hg2.1
    obtain ⟨k, k0, k1, rfl⟩ := inR_t (by decide) (by decide) hg2.2
    have hWT := hWS.2.2.1 s hs
    obtain ⟨t0, tz⟩ := rT s hs
    have kd2 := hWT.1
    have eS : tS S (nI s) = S.1.2.2.1 s := by unfold tS; rw [cN_nI (by omega)]
    have eq0 : g_taken S (nI s) (nI k) = _ := if_t hg
    rw [eq0, eS, cN_nI (by omega)] at hQ
    have hQ9 := hQ h hR FrD.rf
    refine V_iloadn1 dX10_taken_0 ?_
    refine V_callS1 (μ' := mX10_isSlot) dX10_taken_1 okX10_isSlot lX10_114 (Nat.le_of_ble_eq_true rfl) (Nat.le_of_ble_eq_true rfl) (by omega) ?_
    refine m_isSlot (by omega) ?_
    rw [hg2.1]
    dsimp only [gPush]
    first | refine U_ifB_eq (tgt := 16) dX10_taken_4 (by decide) (by with_reducible rfl) (fun c4 => ?_) (fun c4 => ?_) | refine U_if_eq (tgt := 16) dX10_taken_4 (by decide) (by with_reducible rfl) (by omega) (fun c4 => ?_) (fun c4 => ?_) | refine V_if_eq (tgt := 16) dX10_taken_4 (by decide) (fun c4 => ?_) (fun c4 => ?_)
    · skip
      cases c4
    · skip
      refine V_iloadn2 dX10_taken_7 ?_
      refine V_iconst (v := nI 0) dX10_taken_8 (by decide) ?_
      refine V_iconst (v := nI 1) dX10_taken_9 (by decide) ?_
      refine V_callS3 (μ' := mX10_in) dX10_taken_10 okX10_in lX10_104 (Nat.le_of_ble_eq_true rfl) (Nat.le_of_ble_eq_true rfl) (by omega) ?_
      refine m_inR ?_
      rw [hg2.2]
      dsimp only [gPush]
      first | refine U_ifB_ne (tgt := 18) dX10_taken_13 (by decide) (by with_reducible rfl) (fun c13 => ?_) (fun c13 => ?_) | refine U_if_ne (tgt := 18) dX10_taken_13 (by decide) (by with_reducible rfl) (by omega) (fun c13 => ?_) (fun c13 => ?_) | refine V_if_ne (tgt := 18) dX10_taken_13 (by decide) (fun c13 => ?_) (fun c13 => ?_)
      · skip
        refine V_aloadn0 dX10_taken_18 ?_
        refine V_getR dX10_taken_19 fX10_16 (by first | assumption | rfl) (by first | decide | omega) (by first | assumption | exact ML_4 (by assumption) | exact ML_5 (by assumption) | exact ML_6 (by assumption) | exact ML_7 (by assumption) | exact ML_8 (by assumption) | exact ML_9 (by assumption) | exact ML_10 (by assumption) | exact ML_11 (by assumption) | exact ML_12 (by assumption) | exact ML_13 (by assumption) | exact ML_15 (by assumption) | exact ML_16 (by assumption) | exact ML_17 (by assumption) | exact ML_20 (by assumption) | exact ML_23 (by assumption) | exact ML_24 (by assumption) | exact ML_30 (by assumption) | exact ML_31 (by assumption) | exact ML_32 (by assumption) | exact ML_33 (by assumption) | exact ML_35 (by assumption) | exact ML_36 (by assumption) | exact ML_37 (by assumption) | exact ML_38 (by assumption) | exact ML_41 (by assumption) | exact ML_42 (by assumption) | exact ML_43 (by assumption) | exact ML_44 (by assumption) | exact ML_45 (by assumption) | rfl) ?_
        refine V_iloadn1 dX10_taken_22 ?_
        refine U_iald dX10_taken_23 (by with_reducible rfl) (by first | assumption | rfl) (by first | decide | omega) (by omega) (by first | assumption | exact ML_4 (by assumption) | exact ML_5 (by assumption) | exact ML_6 (by assumption) | exact ML_7 (by assumption) | exact ML_8 (by assumption) | exact ML_9 (by assumption) | exact ML_10 (by assumption) | exact ML_11 (by assumption) | exact ML_12 (by assumption) | exact ML_13 (by assumption) | exact ML_15 (by assumption) | exact ML_16 (by assumption) | exact ML_17 (by assumption) | exact ML_20 (by assumption) | exact ML_23 (by assumption) | exact ML_24 (by assumption) | exact ML_30 (by assumption) | exact ML_31 (by assumption) | exact ML_32 (by assumption) | exact ML_33 (by assumption) | exact ML_35 (by assumption) | exact ML_36 (by assumption) | exact ML_37 (by assumption) | exact ML_38 (by assumption) | exact ML_41 (by assumption) | exact ML_42 (by assumption) | exact ML_43 (by assumption) | exact ML_44 (by assumption) | exact ML_45 (by assumption) | rfl) ?_
        first | refine U_ifB_ne (tgt := 32) dX10_taken_24 (by decide) (by with_reducible rfl) (fun c24 => ?_) (fun c24 => ?_) | refine U_if_ne (tgt := 32) dX10_taken_24 (by decide) (by with_reducible rfl) (by omega) (fun c24 => ?_) (fun c24 => ?_) | refine V_if_ne (tgt := 32) dX10_taken_24 (by decide) (fun c24 => ?_) (fun c24 => ?_)
        · skip
          rw [if_neg c24] at hQ9
          have t1 := (tz c24).1
          refine V_aloadn0 dX10_taken_32 ?_
          refine V_getR dX10_taken_33 fX10_16 (by first | assumption | rfl) (by first | decide | omega) (by first | assumption | exact ML_4 (by assumption) | exact ML_5 (by assumption) | exact ML_6 (by assumption) | exact ML_7 (by assumption) | exact ML_8 (by assumption) | exact ML_9 (by assumption) | exact ML_10 (by assumption) | exact ML_11 (by assumption) | exact ML_12 (by assumption) | exact ML_13 (by assumption) | exact ML_15 (by assumption) | exact ML_16 (by assumption) | exact ML_17 (by assumption) | exact ML_20 (by assumption) | exact ML_23 (by assumption) | exact ML_24 (by assumption) | exact ML_30 (by assumption) | exact ML_31 (by assumption) | exact ML_32 (by assumption) | exact ML_33 (by assumption) | exact ML_35 (by assumption) | exact ML_36 (by assumption) | exact ML_37 (by assumption) | exact ML_38 (by assumption) | exact ML_41 (by assumption) | exact ML_42 (by assumption) | exact ML_43 (by assumption) | exact ML_44 (by assumption) | exact ML_45 (by assumption) | rfl) ?_
          refine V_iloadn1 dX10_taken_36 ?_
          refine U_iald dX10_taken_37 (by with_reducible rfl) (by first | assumption | rfl) (by first | decide | omega) (by omega) (by first | assumption | exact ML_4 (by assumption) | exact ML_5 (by assumption) | exact ML_6 (by assumption) | exact ML_7 (by assumption) | exact ML_8 (by assumption) | exact ML_9 (by assumption) | exact ML_10 (by assumption) | exact ML_11 (by assumption) | exact ML_12 (by assumption) | exact ML_13 (by assumption) | exact ML_15 (by assumption) | exact ML_16 (by assumption) | exact ML_17 (by assumption) | exact ML_20 (by assumption) | exact ML_23 (by assumption) | exact ML_24 (by assumption) | exact ML_30 (by assumption) | exact ML_31 (by assumption) | exact ML_32 (by assumption) | exact ML_33 (by assumption) | exact ML_35 (by assumption) | exact ML_36 (by assumption) | exact ML_37 (by assumption) | exact ML_38 (by assumption) | exact ML_41 (by assumption) | exact ML_42 (by assumption) | exact ML_43 (by assumption) | exact ML_44 (by assumption) | exact ML_45 (by assumption) | rfl) ?_
          refine V_iloadn2 dX10_taken_38 ?_
          refine V_iconst (v := nI 1) dX10_taken_39 (by decide) ?_
          first | refine U_iadd dX10_taken_40 (by with_reducible rfl) (by with_reducible rfl) ?_ | refine V_iadd dX10_taken_40 ?_
          first | refine U_icmp_ne (tgt := 53) dX10_taken_41 (by decide) (by with_reducible rfl) (by with_reducible rfl) (by omega) (by omega) (fun c41 => ?_) (fun c41 => ?_) | refine V_icmp_ne (tgt := 53) dX10_taken_41 (by decide) (fun c41 => ?_) (fun c41 => ?_)
          · skip
            rw [if_neg c41] at hQ9
            refine V_bipush (v := -13) dX10_taken_53 (by decide) ?_
            refine V_iret dX10_taken_55 rfl rfl ?_
            exact hQ9
          · skip
            rw [if_pos c41] at hQ9
            refine V_aloadn0 dX10_taken_44 ?_
            refine V_getR dX10_taken_45 fX10_20 (by first | assumption | rfl) (by first | decide | omega) (by first | assumption | exact ML_4 (by assumption) | exact ML_5 (by assumption) | exact ML_6 (by assumption) | exact ML_7 (by assumption) | exact ML_8 (by assumption) | exact ML_9 (by assumption) | exact ML_10 (by assumption) | exact ML_11 (by assumption) | exact ML_12 (by assumption) | exact ML_13 (by assumption) | exact ML_15 (by assumption) | exact ML_16 (by assumption) | exact ML_17 (by assumption) | exact ML_20 (by assumption) | exact ML_23 (by assumption) | exact ML_24 (by assumption) | exact ML_30 (by assumption) | exact ML_31 (by assumption) | exact ML_32 (by assumption) | exact ML_33 (by assumption) | exact ML_35 (by assumption) | exact ML_36 (by assumption) | exact ML_37 (by assumption) | exact ML_38 (by assumption) | exact ML_41 (by assumption) | exact ML_42 (by assumption) | exact ML_43 (by assumption) | exact ML_44 (by assumption) | exact ML_45 (by assumption) | rfl) ?_
            refine V_iloadn1 dX10_taken_48 ?_
            refine U_iald dX10_taken_49 (by with_reducible rfl) (by first | assumption | rfl) (by first | decide | omega) (by omega) (by first | assumption | exact ML_4 (by assumption) | exact ML_5 (by assumption) | exact ML_6 (by assumption) | exact ML_7 (by assumption) | exact ML_8 (by assumption) | exact ML_9 (by assumption) | exact ML_10 (by assumption) | exact ML_11 (by assumption) | exact ML_12 (by assumption) | exact ML_13 (by assumption) | exact ML_15 (by assumption) | exact ML_16 (by assumption) | exact ML_17 (by assumption) | exact ML_20 (by assumption) | exact ML_23 (by assumption) | exact ML_24 (by assumption) | exact ML_30 (by assumption) | exact ML_31 (by assumption) | exact ML_32 (by assumption) | exact ML_33 (by assumption) | exact ML_35 (by assumption) | exact ML_36 (by assumption) | exact ML_37 (by assumption) | exact ML_38 (by assumption) | exact ML_41 (by assumption) | exact ML_42 (by assumption) | exact ML_43 (by assumption) | exact ML_44 (by assumption) | exact ML_45 (by assumption) | rfl) ?_
            refine V_goto (tgt := 55) dX10_taken_50 (by decide) ?_
            refine V_iret dX10_taken_55 rfl rfl ?_
            exact hQ9
        · skip
          rw [if_pos c24] at hQ9
          refine V_bipush (v := -11) dX10_taken_27 (by decide) ?_
          refine V_goto (tgt := 55) dX10_taken_29 (by decide) ?_
          refine V_iret dX10_taken_55 rfl rfl ?_
          exact hQ9
      · skip
        cases c13
  · have hQ9 := hQ h hR FrD.rf
    have eq0 : g_taken S x y = -1 := if_neg hg
    rw [eq0] at hQ9
    refine V_iloadn1 dX10_taken_0 ?_
    refine V_callS1 (μ' := mX10_isSlot) dX10_taken_1 okX10_isSlot lX10_114 (Nat.le_of_ble_eq_true rfl) (Nat.le_of_ble_eq_true rfl) (by omega) ?_
    refine m_isSlot (by omega) ?_
    dsimp only [gPush]
    first | refine U_ifB_eq (tgt := 16) dX10_taken_4 (by decide) (by with_reducible rfl) (fun c4 => ?_) (fun c4 => ?_) | refine U_if_eq (tgt := 16) dX10_taken_4 (by decide) (by with_reducible rfl) (by omega) (fun c4 => ?_) (fun c4 => ?_) | refine V_if_eq (tgt := 16) dX10_taken_4 (by decide) (fun c4 => ?_) (fun c4 => ?_)
    · skip
      refine V_iconst (v := -1) dX10_taken_16 (by decide) ?_
      refine V_iret dX10_taken_17 rfl rfl ?_
      exact hQ9
    · skip
      refine V_iloadn2 dX10_taken_7 ?_
      refine V_iconst (v := nI 0) dX10_taken_8 (by decide) ?_
      refine V_iconst (v := nI 1) dX10_taken_9 (by decide) ?_
      refine V_callS3 (μ' := mX10_in) dX10_taken_10 okX10_in lX10_104 (Nat.le_of_ble_eq_true rfl) (Nat.le_of_ble_eq_true rfl) (by omega) ?_
      refine m_inR ?_
      dsimp only [gPush]
      first | refine U_ifB_ne (tgt := 18) dX10_taken_13 (by decide) (by with_reducible rfl) (fun c13 => ?_) (fun c13 => ?_) | refine U_if_ne (tgt := 18) dX10_taken_13 (by decide) (by with_reducible rfl) (by omega) (fun c13 => ?_) (fun c13 => ?_) | refine V_if_ne (tgt := 18) dX10_taken_13 (by decide) (fun c13 => ?_) (fun c13 => ?_)
      · skip
        exact absurd (by rw [c4, c13]; rfl) hg
      · skip
        refine V_iconst (v := -1) dX10_taken_16 (by decide) ?_
        refine V_iret dX10_taken_17 rfl rfl ?_
        exact hQ9

set_option maxRecDepth 100000 in
set_option maxHeartbeats 4000000 in
theorem m_row {x r : Int32} (hd : 2 ≤ d) (hR : RM h S) (hWG : WG S) (hQ : ∀ h', RM h' S → FrD h h' → Q (some (.int (g_row S x r))) h') : V Γ mX10_row d 124 124 h 0 [some (.ref 94), some (.int x), some (.int r), none, none, none] [] Q := by
  obtain ⟨hM, ⟨r0, r1, rT, rW⟩, rK, rK2, rB, rS⟩ := id hR
  obtain ⟨hWS, hWK, hWB, hWX⟩ := id hWG
  have hn2 := hWS.1
  have hn5 := hWS.2.1
  cases hg : inB x 6 with
  | false =>
    have hQ9 := hQ h hR FrD.rf
    have eq0 : g_row S x r = -1 := if_f hg
    rw [eq0] at hQ9
    refine V_iloadn1 dX10_row_0 ?_
    refine V_callS1 (μ' := mX10_isSlot) dX10_row_1 okX10_isSlot lX10_114 (Nat.le_of_ble_eq_true rfl) (Nat.le_of_ble_eq_true rfl) (by omega) ?_
    refine m_isSlot (by omega) ?_
    rw [hg]
    dsimp only [gPush]
    first | refine U_ifB_ne (tgt := 9) dX10_row_4 (by decide) (by with_reducible rfl) (fun c4 => ?_) (fun c4 => ?_) | refine U_if_ne (tgt := 9) dX10_row_4 (by decide) (by with_reducible rfl) (by omega) (fun c4 => ?_) (fun c4 => ?_) | refine V_if_ne (tgt := 9) dX10_row_4 (by decide) (fun c4 => ?_) (fun c4 => ?_)
    · skip
      cases c4
    · skip
      refine V_iconst (v := -1) dX10_row_7 (by decide) ?_
      refine V_iret dX10_row_8 rfl rfl ?_
      exact hQ9
  | true =>
    obtain ⟨s, hs, rfl⟩ := inB_t (by decide) hg
    have hWT := hWS.2.2.1 s hs
    obtain ⟨t0, tz⟩ := rT s hs
    have kd2 := hWT.1
    have eS : tS S (nI s) = S.1.2.2.1 s := by unfold tS; rw [cN_nI (by omega)]
    have eq0 : g_row S (nI s) r = _ := if_t hg
    rw [eq0, eS] at hQ
    by_cases hk : (S.1.2.2.1 s).1 = 2
    · rw [if_neg (by omega), if_neg (fun q => q hk)] at hQ
      obtain ⟨lp, l6⟩ := L_pos hWT
      have hsum := rnL_sum6 hWT hk
      have hwl := hWT.2.1
      generalize hLL : (S.1.2.2.1 s).2.2 = L at hQ lp l6 hsum
      generalize hww : (S.1.2.2.1 s).2.1 = w at hQ hsum hwl
      have inner : ∀ q h1, q < L.length → MLay h1 → WW h1 w → SH h1 L → Q (some (.int (nI (numF w (startF L q (L.length - q - 1)) (L.getD q 0))))) h1 → V Γ mX10_row d 124 124 h1 58 [some (.ref 94), some (.int (nI s)), some (.int (nI q)), none, none, none] [] Q := by
        intro q h1 hq hM1 hW1 hL1 hQ1
        obtain ⟨w0, w1, w6, w9⟩ := hW1
        obtain ⟨l1, l2⟩ := hL1
        have hst := startF_le L q (L.length - q - 1) (by omega)
        generalize hfr : startF L q (L.length - q - 1) = fr at hst hQ1
        have hLq := l2 q
        have num : ∀ f k, k + f = L.getD q 0 → V Γ mX10_row d 124 124 h1 94 [some (.ref 94), some (.int (nI s)), some (.int (nI q)), some (.int (nI fr)), some (.int (nI (numF w fr k))), some (.int (nI k))] [] Q := by
          intro f
          induction f with
          | zero =>
            intro k hk
            have e : k = L.getD q 0 := by omega
            subst e
            have g106 := l1 q (by omega)
            refine V_iloadw5 dX10_row_94 ?_
            refine V_aloadn0 dX10_row_96 ?_
            refine V_getR dX10_row_97 fX10_50 (by first | assumption | rfl) (by first | decide | omega) (by first | assumption | exact ML_4 (by assumption) | exact ML_5 (by assumption) | exact ML_6 (by assumption) | exact ML_7 (by assumption) | exact ML_8 (by assumption) | exact ML_9 (by assumption) | exact ML_10 (by assumption) | exact ML_11 (by assumption) | exact ML_12 (by assumption) | exact ML_13 (by assumption) | exact ML_15 (by assumption) | exact ML_16 (by assumption) | exact ML_17 (by assumption) | exact ML_20 (by assumption) | exact ML_23 (by assumption) | exact ML_24 (by assumption) | exact ML_30 (by assumption) | exact ML_31 (by assumption) | exact ML_32 (by assumption) | exact ML_33 (by assumption) | exact ML_35 (by assumption) | exact ML_36 (by assumption) | exact ML_37 (by assumption) | exact ML_38 (by assumption) | exact ML_41 (by assumption) | exact ML_42 (by assumption) | exact ML_43 (by assumption) | exact ML_44 (by assumption) | exact ML_45 (by assumption) | rfl) ?_
            refine V_iloadn2 dX10_row_100 ?_
            refine U_iald dX10_row_101 (by with_reducible rfl) (by first | assumption | rfl) (by first | decide | omega) (by omega) (by first | assumption | exact ML_4 (by assumption) | exact ML_5 (by assumption) | exact ML_6 (by assumption) | exact ML_7 (by assumption) | exact ML_8 (by assumption) | exact ML_9 (by assumption) | exact ML_10 (by assumption) | exact ML_11 (by assumption) | exact ML_12 (by assumption) | exact ML_13 (by assumption) | exact ML_15 (by assumption) | exact ML_16 (by assumption) | exact ML_17 (by assumption) | exact ML_20 (by assumption) | exact ML_23 (by assumption) | exact ML_24 (by assumption) | exact ML_30 (by assumption) | exact ML_31 (by assumption) | exact ML_32 (by assumption) | exact ML_33 (by assumption) | exact ML_35 (by assumption) | exact ML_36 (by assumption) | exact ML_37 (by assumption) | exact ML_38 (by assumption) | exact ML_41 (by assumption) | exact ML_42 (by assumption) | exact ML_43 (by assumption) | exact ML_44 (by assumption) | exact ML_45 (by assumption) | rfl) ?_
            first | refine U_icmp_ge (tgt := 128) dX10_row_102 (by decide) (by with_reducible rfl) (by with_reducible rfl) (by omega) (by omega) (fun c102 => ?_) (fun c102 => ?_) | refine V_icmp_ge (tgt := 128) dX10_row_102 (by decide) (fun c102 => ?_) (fun c102 => ?_)
            · skip
              refine V_iloadw4 dX10_row_128 ?_
              refine V_iret dX10_row_130 rfl rfl ?_
              exact hQ1
            · skip
              omega
          | succ f ih =>
            intro k hk
            have g106 := l1 q (by omega)
            have e : 10 * numF w fr k + w.getD (fr + k) 0 = numF w fr (k + 1) := by rw [numF]; omega
            refine V_iloadw5 dX10_row_94 ?_
            refine V_aloadn0 dX10_row_96 ?_
            refine V_getR dX10_row_97 fX10_50 (by first | assumption | rfl) (by first | decide | omega) (by first | assumption | exact w1 _ (by omega) | exact ML_4 (by assumption) | exact ML_5 (by assumption) | exact ML_6 (by assumption) | exact ML_7 (by assumption) | exact ML_8 (by assumption) | exact ML_9 (by assumption) | exact ML_10 (by assumption) | exact ML_11 (by assumption) | exact ML_12 (by assumption) | exact ML_13 (by assumption) | exact ML_15 (by assumption) | exact ML_16 (by assumption) | exact ML_17 (by assumption) | exact ML_20 (by assumption) | exact ML_23 (by assumption) | exact ML_24 (by assumption) | exact ML_30 (by assumption) | exact ML_31 (by assumption) | exact ML_32 (by assumption) | exact ML_33 (by assumption) | exact ML_35 (by assumption) | exact ML_36 (by assumption) | exact ML_37 (by assumption) | exact ML_38 (by assumption) | exact ML_41 (by assumption) | exact ML_42 (by assumption) | exact ML_43 (by assumption) | exact ML_44 (by assumption) | exact ML_45 (by assumption) | rfl) ?_
            refine V_iloadn2 dX10_row_100 ?_
            refine U_iald dX10_row_101 (by with_reducible rfl) (by first | assumption | rfl) (by first | decide | omega) (by omega) (by first | assumption | exact w1 _ (by omega) | exact ML_4 (by assumption) | exact ML_5 (by assumption) | exact ML_6 (by assumption) | exact ML_7 (by assumption) | exact ML_8 (by assumption) | exact ML_9 (by assumption) | exact ML_10 (by assumption) | exact ML_11 (by assumption) | exact ML_12 (by assumption) | exact ML_13 (by assumption) | exact ML_15 (by assumption) | exact ML_16 (by assumption) | exact ML_17 (by assumption) | exact ML_20 (by assumption) | exact ML_23 (by assumption) | exact ML_24 (by assumption) | exact ML_30 (by assumption) | exact ML_31 (by assumption) | exact ML_32 (by assumption) | exact ML_33 (by assumption) | exact ML_35 (by assumption) | exact ML_36 (by assumption) | exact ML_37 (by assumption) | exact ML_38 (by assumption) | exact ML_41 (by assumption) | exact ML_42 (by assumption) | exact ML_43 (by assumption) | exact ML_44 (by assumption) | exact ML_45 (by assumption) | rfl) ?_
            first | refine U_icmp_ge (tgt := 128) dX10_row_102 (by decide) (by with_reducible rfl) (by with_reducible rfl) (by omega) (by omega) (fun c102 => ?_) (fun c102 => ?_) | refine V_icmp_ge (tgt := 128) dX10_row_102 (by decide) (fun c102 => ?_) (fun c102 => ?_)
            · skip
              omega
            · skip
              refine V_bipush (v := nI 10) dX10_row_105 (by decide) ?_
              refine V_iloadw4 dX10_row_107 ?_
              first | refine U_imul dX10_row_109 (by with_reducible rfl) (by with_reducible rfl) ?_ | refine V_imul dX10_row_109 ?_
              refine V_aloadn0 dX10_row_110 ?_
              refine V_getR dX10_row_111 fX10_47 (by first | assumption | rfl) (by first | decide | omega) (by first | assumption | exact w1 _ (by omega) | exact ML_4 (by assumption) | exact ML_5 (by assumption) | exact ML_6 (by assumption) | exact ML_7 (by assumption) | exact ML_8 (by assumption) | exact ML_9 (by assumption) | exact ML_10 (by assumption) | exact ML_11 (by assumption) | exact ML_12 (by assumption) | exact ML_13 (by assumption) | exact ML_15 (by assumption) | exact ML_16 (by assumption) | exact ML_17 (by assumption) | exact ML_20 (by assumption) | exact ML_23 (by assumption) | exact ML_24 (by assumption) | exact ML_30 (by assumption) | exact ML_31 (by assumption) | exact ML_32 (by assumption) | exact ML_33 (by assumption) | exact ML_35 (by assumption) | exact ML_36 (by assumption) | exact ML_37 (by assumption) | exact ML_38 (by assumption) | exact ML_41 (by assumption) | exact ML_42 (by assumption) | exact ML_43 (by assumption) | exact ML_44 (by assumption) | exact ML_45 (by assumption) | rfl) ?_
              refine V_iloadn3 dX10_row_114 ?_
              refine V_iloadw5 dX10_row_115 ?_
              first | refine U_iadd dX10_row_117 (by with_reducible rfl) (by with_reducible rfl) ?_ | refine V_iadd dX10_row_117 ?_
              refine U_iald dX10_row_118 (by with_reducible rfl) (by first | assumption | rfl) (by first | decide | omega) (by omega) (by first | assumption | exact w1 _ (by omega) | exact ML_4 (by assumption) | exact ML_5 (by assumption) | exact ML_6 (by assumption) | exact ML_7 (by assumption) | exact ML_8 (by assumption) | exact ML_9 (by assumption) | exact ML_10 (by assumption) | exact ML_11 (by assumption) | exact ML_12 (by assumption) | exact ML_13 (by assumption) | exact ML_15 (by assumption) | exact ML_16 (by assumption) | exact ML_17 (by assumption) | exact ML_20 (by assumption) | exact ML_23 (by assumption) | exact ML_24 (by assumption) | exact ML_30 (by assumption) | exact ML_31 (by assumption) | exact ML_32 (by assumption) | exact ML_33 (by assumption) | exact ML_35 (by assumption) | exact ML_36 (by assumption) | exact ML_37 (by assumption) | exact ML_38 (by assumption) | exact ML_41 (by assumption) | exact ML_42 (by assumption) | exact ML_43 (by assumption) | exact ML_44 (by assumption) | exact ML_45 (by assumption) | rfl) ?_
              first | refine U_iadd dX10_row_119 (by with_reducible rfl) (by with_reducible rfl) ?_ | refine V_iadd dX10_row_119 ?_
              refine V_istorew4 dX10_row_120 (by decide) rfl ?_
              refine V_iinc5 dX10_row_122 (by first | exact ginc1 _ | rfl) (by decide) rfl ?_
              refine V_goto (tgt := 94) dX10_row_125 (by decide) ?_
              rw [e]
              exact ih (k + 1) (by omega)
        have sm : ∀ f k x5, k + f = 5 - q → V Γ mX10_row d 124 124 h1 65 [some (.ref 94), some (.int (nI s)), some (.int (nI q)), some (.int (nI (startF L q k))), some (.int (nI (q + 1 + k))), x5] [] Q := by
          intro f
          induction f with
          | zero =>
            intro k x5 hk
            have e : startF L q k = fr := by rw [startF_sh k (by omega)]; exact hfr
            rw [e]
            refine V_iloadw4 dX10_row_65 ?_
            refine V_bipush (v := nI 6) dX10_row_67 (by decide) ?_
            first | refine U_icmp_ge (tgt := 88) dX10_row_69 (by decide) (by with_reducible rfl) (by with_reducible rfl) (by omega) (by omega) (fun c69 => ?_) (fun c69 => ?_) | refine V_icmp_ge (tgt := 88) dX10_row_69 (by decide) (fun c69 => ?_) (fun c69 => ?_)
            · skip
              refine V_iconst (v := nI 0) dX10_row_88 (by decide) ?_
              refine V_istorew4 dX10_row_89 (by decide) rfl ?_
              refine V_iconst (v := nI 0) dX10_row_91 (by decide) ?_
              refine V_istorew5 dX10_row_92 (by decide) rfl ?_
              exact num _ 0 (Nat.zero_add _)
            · skip
              omega
          | succ f ih =>
            intro k x5 hk
            have e : startF L q k + L.getD (q + 1 + k) 0 = startF L q (k + 1) := rfl
            refine V_iloadw4 dX10_row_65 ?_
            refine V_bipush (v := nI 6) dX10_row_67 (by decide) ?_
            first | refine U_icmp_ge (tgt := 88) dX10_row_69 (by decide) (by with_reducible rfl) (by with_reducible rfl) (by omega) (by omega) (fun c69 => ?_) (fun c69 => ?_) | refine V_icmp_ge (tgt := 88) dX10_row_69 (by decide) (fun c69 => ?_) (fun c69 => ?_)
            · skip
              omega
            · skip
              refine V_iloadn3 dX10_row_72 ?_
              refine V_aloadn0 dX10_row_73 ?_
              refine V_getR dX10_row_74 fX10_50 (by first | assumption | rfl) (by first | decide | omega) (by first | assumption | exact l1 _ (by omega) | exact ML_4 (by assumption) | exact ML_5 (by assumption) | exact ML_6 (by assumption) | exact ML_7 (by assumption) | exact ML_8 (by assumption) | exact ML_9 (by assumption) | exact ML_10 (by assumption) | exact ML_11 (by assumption) | exact ML_12 (by assumption) | exact ML_13 (by assumption) | exact ML_15 (by assumption) | exact ML_16 (by assumption) | exact ML_17 (by assumption) | exact ML_20 (by assumption) | exact ML_23 (by assumption) | exact ML_24 (by assumption) | exact ML_30 (by assumption) | exact ML_31 (by assumption) | exact ML_32 (by assumption) | exact ML_33 (by assumption) | exact ML_35 (by assumption) | exact ML_36 (by assumption) | exact ML_37 (by assumption) | exact ML_38 (by assumption) | exact ML_41 (by assumption) | exact ML_42 (by assumption) | exact ML_43 (by assumption) | exact ML_44 (by assumption) | exact ML_45 (by assumption) | rfl) ?_
              refine V_iloadw4 dX10_row_77 ?_
              refine U_iald dX10_row_79 (by with_reducible rfl) (by first | assumption | rfl) (by first | decide | omega) (by omega) (by first | assumption | exact l1 _ (by omega) | exact ML_4 (by assumption) | exact ML_5 (by assumption) | exact ML_6 (by assumption) | exact ML_7 (by assumption) | exact ML_8 (by assumption) | exact ML_9 (by assumption) | exact ML_10 (by assumption) | exact ML_11 (by assumption) | exact ML_12 (by assumption) | exact ML_13 (by assumption) | exact ML_15 (by assumption) | exact ML_16 (by assumption) | exact ML_17 (by assumption) | exact ML_20 (by assumption) | exact ML_23 (by assumption) | exact ML_24 (by assumption) | exact ML_30 (by assumption) | exact ML_31 (by assumption) | exact ML_32 (by assumption) | exact ML_33 (by assumption) | exact ML_35 (by assumption) | exact ML_36 (by assumption) | exact ML_37 (by assumption) | exact ML_38 (by assumption) | exact ML_41 (by assumption) | exact ML_42 (by assumption) | exact ML_43 (by assumption) | exact ML_44 (by assumption) | exact ML_45 (by assumption) | rfl) ?_
              first | refine U_iadd dX10_row_80 (by with_reducible rfl) (by with_reducible rfl) ?_ | refine V_iadd dX10_row_80 ?_
              refine V_istoren3 dX10_row_81 (by decide) rfl ?_
              refine V_iinc4 dX10_row_82 (by first | exact ginc1 _ | rfl) (by decide) rfl ?_
              refine V_goto (tgt := 65) dX10_row_85 (by decide) ?_
              rw [e]
              exact ih (k + 1) _ (by omega)
        refine V_iconst (v := nI 0) dX10_row_58 (by decide) ?_
        refine V_istoren3 dX10_row_59 (by decide) rfl ?_
        refine V_iloadn2 dX10_row_60 ?_
        refine V_iconst (v := nI 1) dX10_row_61 (by decide) ?_
        first | refine U_iadd dX10_row_62 (by with_reducible rfl) (by with_reducible rfl) ?_ | refine V_iadd dX10_row_62 ?_
        refine V_istorew4 dX10_row_63 (by decide) rfl ?_
        exact sm _ 0 _ (Nat.zero_add _)
      refine V_iloadn1 dX10_row_0 ?_
      refine V_callS1 (μ' := mX10_isSlot) dX10_row_1 okX10_isSlot lX10_114 (Nat.le_of_ble_eq_true rfl) (Nat.le_of_ble_eq_true rfl) (by omega) ?_
      refine m_isSlot (by omega) ?_
      rw [hg]
      dsimp only [gPush]
      first | refine U_ifB_ne (tgt := 9) dX10_row_4 (by decide) (by with_reducible rfl) (fun c4 => ?_) (fun c4 => ?_) | refine U_if_ne (tgt := 9) dX10_row_4 (by decide) (by with_reducible rfl) (by omega) (fun c4 => ?_) (fun c4 => ?_) | refine V_if_ne (tgt := 9) dX10_row_4 (by decide) (fun c4 => ?_) (fun c4 => ?_)
      · skip
        refine V_aloadn0 dX10_row_9 ?_
        refine V_getR dX10_row_10 fX10_16 (by first | assumption | rfl) (by first | decide | omega) (by first | assumption | exact ML_4 (by assumption) | exact ML_5 (by assumption) | exact ML_6 (by assumption) | exact ML_7 (by assumption) | exact ML_8 (by assumption) | exact ML_9 (by assumption) | exact ML_10 (by assumption) | exact ML_11 (by assumption) | exact ML_12 (by assumption) | exact ML_13 (by assumption) | exact ML_15 (by assumption) | exact ML_16 (by assumption) | exact ML_17 (by assumption) | exact ML_20 (by assumption) | exact ML_23 (by assumption) | exact ML_24 (by assumption) | exact ML_30 (by assumption) | exact ML_31 (by assumption) | exact ML_32 (by assumption) | exact ML_33 (by assumption) | exact ML_35 (by assumption) | exact ML_36 (by assumption) | exact ML_37 (by assumption) | exact ML_38 (by assumption) | exact ML_41 (by assumption) | exact ML_42 (by assumption) | exact ML_43 (by assumption) | exact ML_44 (by assumption) | exact ML_45 (by assumption) | rfl) ?_
        refine V_iloadn1 dX10_row_13 ?_
        refine U_iald dX10_row_14 (by with_reducible rfl) (by first | assumption | rfl) (by first | decide | omega) (by omega) (by first | assumption | exact ML_4 (by assumption) | exact ML_5 (by assumption) | exact ML_6 (by assumption) | exact ML_7 (by assumption) | exact ML_8 (by assumption) | exact ML_9 (by assumption) | exact ML_10 (by assumption) | exact ML_11 (by assumption) | exact ML_12 (by assumption) | exact ML_13 (by assumption) | exact ML_15 (by assumption) | exact ML_16 (by assumption) | exact ML_17 (by assumption) | exact ML_20 (by assumption) | exact ML_23 (by assumption) | exact ML_24 (by assumption) | exact ML_30 (by assumption) | exact ML_31 (by assumption) | exact ML_32 (by assumption) | exact ML_33 (by assumption) | exact ML_35 (by assumption) | exact ML_36 (by assumption) | exact ML_37 (by assumption) | exact ML_38 (by assumption) | exact ML_41 (by assumption) | exact ML_42 (by assumption) | exact ML_43 (by assumption) | exact ML_44 (by assumption) | exact ML_45 (by assumption) | rfl) ?_
        refine V_iconst (v := nI 2) dX10_row_15 (by decide) ?_
        first | refine U_icmp_eq (tgt := 36) dX10_row_16 (by decide) (by with_reducible rfl) (by with_reducible rfl) (by omega) (by omega) (fun c16 => ?_) (fun c16 => ?_) | refine V_icmp_eq (tgt := 36) dX10_row_16 (by decide) (fun c16 => ?_) (fun c16 => ?_)
        · skip
          refine V_aloadn0 dX10_row_36 ?_
          refine V_iloadn1 dX10_row_37 ?_
          refine V_callV1 (μ' := mX10_takes) dX10_row_38 okX10_takes lX10_146 rfl (by first | assumption | rfl) (by first | decide | omega) (Nat.le_of_ble_eq_true rfl) (Nat.le_of_ble_eq_true rfl) (by omega) ?_
          refine m_takes hs hR hWT hn5 (by omega) (fun h1 hk1 hW1 hL1 hR1 hF1 => ?_)
          have hM1 := hR1.1
          rw [hww] at hW1
          rw [hLL] at hL1
          have hQ' := hQ h1 hR1 hF1.D
          dsimp only [gPush]
          refine V_iloadn2 dX10_row_41 ?_
          refine V_iconst (v := nI 0) dX10_row_42 (by decide) ?_
          refine V_aloadn0 dX10_row_43 ?_
          refine V_callV0 (μ' := mX10_manyRows) dX10_row_44 okX10_manyRows lX10_155 rfl (by first | assumption | rfl) (by first | decide | omega) (Nat.le_of_ble_eq_true rfl) (Nat.le_of_ble_eq_true rfl) (by omega) ?_
          refine m_manyRows hM1 hL1 lp l6 ?_
          dsimp only [gPush]
          refine V_iconst (v := nI 1) dX10_row_47 (by decide) ?_
          refine V_isub dX10_row_48 ?_
          refine V_callS3 (μ' := mX10_in) dX10_row_49 okX10_in lX10_104 (Nat.le_of_ble_eq_true rfl) (Nat.le_of_ble_eq_true rfl) (by omega) ?_
          refine m_in ?_
          rw [inD_B r (by omega)]
          dsimp only [gPush]
          first | refine U_ifB_ne (tgt := 58) dX10_row_52 (by decide) (by with_reducible rfl) (fun c52 => ?_) (fun c52 => ?_) | refine U_if_ne (tgt := 58) dX10_row_52 (by decide) (by with_reducible rfl) (by omega) (fun c52 => ?_) (fun c52 => ?_) | refine V_if_ne (tgt := 58) dX10_row_52 (by decide) (fun c52 => ?_) (fun c52 => ?_)
          · skip
            rw [if_t c52] at hQ'
            obtain ⟨q, hq, rfl⟩ := inB_t (by omega) c52
            rw [cN_nI (by omega)] at hQ'
            exact inner q h1 hq hM1 hW1 hL1 hQ'
          · skip
            rw [if_f c52] at hQ'
            refine V_bipush (v := -12) dX10_row_55 (by decide) ?_
            refine V_iret dX10_row_57 rfl rfl ?_
            exact hQ'
        · skip
          omega
      · skip
        cases c4
    · have hQ9 := hQ h hR FrD.rf
      refine V_iloadn1 dX10_row_0 ?_
      refine V_callS1 (μ' := mX10_isSlot) dX10_row_1 okX10_isSlot lX10_114 (Nat.le_of_ble_eq_true rfl) (Nat.le_of_ble_eq_true rfl) (by omega) ?_
      refine m_isSlot (by omega) ?_
      rw [hg]
      dsimp only [gPush]
      first | refine U_ifB_ne (tgt := 9) dX10_row_4 (by decide) (by with_reducible rfl) (fun c4 => ?_) (fun c4 => ?_) | refine U_if_ne (tgt := 9) dX10_row_4 (by decide) (by with_reducible rfl) (by omega) (fun c4 => ?_) (fun c4 => ?_) | refine V_if_ne (tgt := 9) dX10_row_4 (by decide) (fun c4 => ?_) (fun c4 => ?_)
      · skip
        refine V_aloadn0 dX10_row_9 ?_
        refine V_getR dX10_row_10 fX10_16 (by first | assumption | rfl) (by first | decide | omega) (by first | assumption | exact ML_4 (by assumption) | exact ML_5 (by assumption) | exact ML_6 (by assumption) | exact ML_7 (by assumption) | exact ML_8 (by assumption) | exact ML_9 (by assumption) | exact ML_10 (by assumption) | exact ML_11 (by assumption) | exact ML_12 (by assumption) | exact ML_13 (by assumption) | exact ML_15 (by assumption) | exact ML_16 (by assumption) | exact ML_17 (by assumption) | exact ML_20 (by assumption) | exact ML_23 (by assumption) | exact ML_24 (by assumption) | exact ML_30 (by assumption) | exact ML_31 (by assumption) | exact ML_32 (by assumption) | exact ML_33 (by assumption) | exact ML_35 (by assumption) | exact ML_36 (by assumption) | exact ML_37 (by assumption) | exact ML_38 (by assumption) | exact ML_41 (by assumption) | exact ML_42 (by assumption) | exact ML_43 (by assumption) | exact ML_44 (by assumption) | exact ML_45 (by assumption) | rfl) ?_
        refine V_iloadn1 dX10_row_13 ?_
        refine U_iald dX10_row_14 (by with_reducible rfl) (by first | assumption | rfl) (by first | decide | omega) (by omega) (by first | assumption | exact ML_4 (by assumption) | exact ML_5 (by assumption) | exact ML_6 (by assumption) | exact ML_7 (by assumption) | exact ML_8 (by assumption) | exact ML_9 (by assumption) | exact ML_10 (by assumption) | exact ML_11 (by assumption) | exact ML_12 (by assumption) | exact ML_13 (by assumption) | exact ML_15 (by assumption) | exact ML_16 (by assumption) | exact ML_17 (by assumption) | exact ML_20 (by assumption) | exact ML_23 (by assumption) | exact ML_24 (by assumption) | exact ML_30 (by assumption) | exact ML_31 (by assumption) | exact ML_32 (by assumption) | exact ML_33 (by assumption) | exact ML_35 (by assumption) | exact ML_36 (by assumption) | exact ML_37 (by assumption) | exact ML_38 (by assumption) | exact ML_41 (by assumption) | exact ML_42 (by assumption) | exact ML_43 (by assumption) | exact ML_44 (by assumption) | exact ML_45 (by assumption) | rfl) ?_
        refine V_iconst (v := nI 2) dX10_row_15 (by decide) ?_
        first | refine U_icmp_eq (tgt := 36) dX10_row_16 (by decide) (by with_reducible rfl) (by with_reducible rfl) (by omega) (by omega) (fun c16 => ?_) (fun c16 => ?_) | refine V_icmp_eq (tgt := 36) dX10_row_16 (by decide) (fun c16 => ?_) (fun c16 => ?_)
        · skip
          omega
        · skip
          refine V_aloadn0 dX10_row_19 ?_
          refine V_getR dX10_row_20 fX10_16 (by first | assumption | rfl) (by first | decide | omega) (by first | assumption | exact ML_4 (by assumption) | exact ML_5 (by assumption) | exact ML_6 (by assumption) | exact ML_7 (by assumption) | exact ML_8 (by assumption) | exact ML_9 (by assumption) | exact ML_10 (by assumption) | exact ML_11 (by assumption) | exact ML_12 (by assumption) | exact ML_13 (by assumption) | exact ML_15 (by assumption) | exact ML_16 (by assumption) | exact ML_17 (by assumption) | exact ML_20 (by assumption) | exact ML_23 (by assumption) | exact ML_24 (by assumption) | exact ML_30 (by assumption) | exact ML_31 (by assumption) | exact ML_32 (by assumption) | exact ML_33 (by assumption) | exact ML_35 (by assumption) | exact ML_36 (by assumption) | exact ML_37 (by assumption) | exact ML_38 (by assumption) | exact ML_41 (by assumption) | exact ML_42 (by assumption) | exact ML_43 (by assumption) | exact ML_44 (by assumption) | exact ML_45 (by assumption) | rfl) ?_
          refine V_iloadn1 dX10_row_23 ?_
          refine U_iald dX10_row_24 (by with_reducible rfl) (by first | assumption | rfl) (by first | decide | omega) (by omega) (by first | assumption | exact ML_4 (by assumption) | exact ML_5 (by assumption) | exact ML_6 (by assumption) | exact ML_7 (by assumption) | exact ML_8 (by assumption) | exact ML_9 (by assumption) | exact ML_10 (by assumption) | exact ML_11 (by assumption) | exact ML_12 (by assumption) | exact ML_13 (by assumption) | exact ML_15 (by assumption) | exact ML_16 (by assumption) | exact ML_17 (by assumption) | exact ML_20 (by assumption) | exact ML_23 (by assumption) | exact ML_24 (by assumption) | exact ML_30 (by assumption) | exact ML_31 (by assumption) | exact ML_32 (by assumption) | exact ML_33 (by assumption) | exact ML_35 (by assumption) | exact ML_36 (by assumption) | exact ML_37 (by assumption) | exact ML_38 (by assumption) | exact ML_41 (by assumption) | exact ML_42 (by assumption) | exact ML_43 (by assumption) | exact ML_44 (by assumption) | exact ML_45 (by assumption) | rfl) ?_
          first | refine U_ifB_ne (tgt := 33) dX10_row_25 (by decide) (by with_reducible rfl) (fun c25 => ?_) (fun c25 => ?_) | refine U_if_ne (tgt := 33) dX10_row_25 (by decide) (by with_reducible rfl) (by omega) (fun c25 => ?_) (fun c25 => ?_) | refine V_if_ne (tgt := 33) dX10_row_25 (by decide) (fun c25 => ?_) (fun c25 => ?_)
          · skip
            rw [if_neg c25, if_pos hk] at hQ9
            refine V_bipush (v := -13) dX10_row_33 (by decide) ?_
            refine V_iret dX10_row_35 rfl rfl ?_
            exact hQ9
          · skip
            rw [if_pos c25] at hQ9
            refine V_bipush (v := -11) dX10_row_28 (by decide) ?_
            refine V_goto (tgt := 35) dX10_row_30 (by decide) ?_
            refine V_iret dX10_row_35 rfl rfl ?_
            exact hQ9
      · skip
        cases c4

theorem RM_tp {h h' : gH} {S : GS} {B : List Nat} (hR : RM h S) (hB : MB h' B) (e : ∀ a, a ≠ 108 → (a < 94 ∨ (95 ≤ a ∧ a ≤ 104) ∨ (120 ≤ a ∧ a ≤ 122)) → gI h' a = gI h a) (e2 : ∀ k, k ≤ 3 ∨ k = 14 → gI h' 94 k = gI h 94 k) (k : gR h' = gR h) : RM h' (setTp S B) := by
  obtain ⟨c1, ⟨c2, c3, c4, c5⟩, c6, c7, c8, c9⟩ := hR
  refine ⟨MLay_eq c1 k, ⟨by rw [e2 0 (by omega)]; exact c2, by rw [e2 1 (by omega)]; exact c3, MT_cg c4 (fun a h1 h2 => e a (by omega) (by omega)), fun k k1 k2 => by rw [e 103 (by omega) (by omega)]; exact c5 k k1 k2⟩, by rw [e2 14 (by omega)]; exact c6, fun K hK => ?_, hB, MS_cg c9 (fun a h1 h2 => e a (by omega) (by omega))⟩
  obtain ⟨d1, d2, d3, d4⟩ := c7 K hK
  exact ⟨by rw [e2 2 (by omega)]; exact d1, by rw [e2 3 (by omega)]; exact d2, MT_cg d3 (fun a h1 h2 => e a (by omega) (by omega)), fun k k1 k2 => by rw [e 104 (by omega) (by omega)]; exact d4 k k1 k2⟩
set_option maxRecDepth 100000 in
set_option maxHeartbeats 4000000 in
theorem m_feed {e : Int64} {k : Int32} (hd : 1 ≤ d) (hR : RM h S) (hWG : WG S) (hQ : ∀ h', RM h' (f_feed S e k).2 → FrD h h' → Q (some (.int (f_feed S e k).1)) h') : V Γ mX10_feed d 124 124 h 0 [some (.ref 94), some (.long e), none, some (.int k), none] [] Q := by
  obtain ⟨hM, ⟨r0, r1, rT, rW⟩, rK, rK2, rB, rS⟩ := id hR
  have b60 := hWG.2.2.1.1
  have t0 := rB.1
  obtain ⟨m, hm, rfl⟩ := wb_of e
  cases hg : inR k 1 8 with
  | false =>
    have eq0 : f_feed S (lN m) k = (-1, S) := if_f hg
    rw [eq0] at hQ
    refine V_iloadn3 dX10_feed_0 ?_
    refine V_iconst (v := nI 1) dX10_feed_1 (by decide) ?_
    refine V_bipush (v := nI 8) dX10_feed_2 (by decide) ?_
    refine V_callS3 (μ' := mX10_in) dX10_feed_4 okX10_in lX10_104 (Nat.le_of_ble_eq_true rfl) (Nat.le_of_ble_eq_true rfl) (by omega) ?_
    refine m_inR ?_
    rw [hg]
    dsimp only [gPush]
    first | refine U_ifB_ne (tgt := 12) dX10_feed_7 (by decide) (by with_reducible rfl) (fun c7 => ?_) (fun c7 => ?_) | refine U_if_ne (tgt := 12) dX10_feed_7 (by decide) (by with_reducible rfl) (by omega) (fun c7 => ?_) (fun c7 => ?_) | refine V_if_ne (tgt := 12) dX10_feed_7 (by decide) (fun c7 => ?_) (fun c7 => ?_)
    · skip
      cases c7
    · skip
      refine V_iconst (v := -1) dX10_feed_10 (by decide) ?_
      refine V_iret dX10_feed_11 rfl rfl ?_
      exact hQ h hR FrD.rf
  | true =>
    obtain ⟨j, j1, j8, rfl⟩ := inR_t (by decide) (by decide) hg
    have eq0 : f_feed S (lN m) (nI j) = _ := if_t hg
    rw [eq0, cN_nI (by omega), wb_tn hm] at hQ
    have loop : ∀ f q h1, q + f = j → S.2.2.1.length + j ≤ 60 → MB h1 (S.2.2.1 ++ byF m q) → (∀ a, a ≠ 108 → ∀ b, ¬ (a = 94 ∧ b = 21) → gI h1 a b = gI h a b) → gL h1 = gL h → gR h1 = gR h → V Γ mX10_feed d 124 124 h1 29 [some (.ref 94), some (.long (lN m)), none, some (.int (nI j)), some (.int (nI q))] [] Q := by
      intro f
      induction f with
      | zero =>
        intro q h1 hq h60 hB1 e l r
        have eq : q = j := by omega
        subst eq
        rw [if_neg (by omega)] at hQ
        have t1 : gI h1 94 21 = nI (S.2.2.1.length + q) := by have := hB1.1; rw [List.length_append, byF_len] at this; exact this
        have hQ9 := hQ h1 (RM_tp hR hB1 (fun a a1 a2 => funext (fun b => e a a1 b (by omega))) (fun k hk => e 94 (by omega) k (by omega)) r) ⟨fun a ha => funext (fun b => e a (by omega) b (by omega)), fun a ha => by rw [l], r⟩
        refine V_iloadw4 dX10_feed_29 ?_
        refine V_iloadn3 dX10_feed_31 ?_
        first | refine U_icmp_ge (tgt := 72) dX10_feed_32 (by decide) (by with_reducible rfl) (by with_reducible rfl) (by omega) (by omega) (fun c32 => ?_) (fun c32 => ?_) | refine V_icmp_ge (tgt := 72) dX10_feed_32 (by decide) (fun c32 => ?_) (fun c32 => ?_)
        · skip
          refine V_aloadn0 dX10_feed_72 ?_
          refine V_getI dX10_feed_73 fX10_125 (Or.inl rfl) (by first | assumption | rfl) (by first | decide | omega) (by first | assumption | exact ML_4 (by assumption) | exact ML_5 (by assumption) | exact ML_6 (by assumption) | exact ML_7 (by assumption) | exact ML_8 (by assumption) | exact ML_9 (by assumption) | exact ML_10 (by assumption) | exact ML_11 (by assumption) | exact ML_12 (by assumption) | exact ML_13 (by assumption) | exact ML_15 (by assumption) | exact ML_16 (by assumption) | exact ML_17 (by assumption) | exact ML_20 (by assumption) | exact ML_23 (by assumption) | exact ML_24 (by assumption) | exact ML_30 (by assumption) | exact ML_31 (by assumption) | exact ML_32 (by assumption) | exact ML_33 (by assumption) | exact ML_35 (by assumption) | exact ML_36 (by assumption) | exact ML_37 (by assumption) | exact ML_38 (by assumption) | exact ML_41 (by assumption) | exact ML_42 (by assumption) | exact ML_43 (by assumption) | exact ML_44 (by assumption) | exact ML_45 (by assumption) | rfl) ?_
          refine V_iret dX10_feed_76 rfl rfl ?_
          exact hQ9
        · skip
          omega
      | succ f ih =>
        intro q h1 hq h60 hB1 e l r
        have hM1 := MLay_eq hM r
        have hl : (S.2.2.1 ++ byF m q).length = S.2.2.1.length + q := by rw [List.length_append, byF_len]
        have t1 : gI h1 94 21 = nI (S.2.2.1.length + q) := by rw [hB1.1, hl]
        have e255 := l255 m (k := 8 * q) hm (by omega)
        have hB2 : MB (sI (sI h1 108 (S.2.2.1.length + q) (nI (m / 2 ^ (8 * q) % 256))) 94 21 (nI (S.2.2.1.length + q + 1))) (S.2.2.1 ++ byF m (q + 1)) := by
          rw [byF_succ, ← List.append_assoc]
          refine ⟨?_, fun p hp => ?_⟩
          · rw [gI_sI, if_pos ⟨rfl, rfl⟩, List.length_append, hl]; rfl
          · rw [gI_sI, if_neg (by omega), gI_sI, getD_snoc, hl]
            rw [List.length_append, hl] at hp
            by_cases ep : p = S.2.2.1.length + q
            · rw [if_pos ⟨rfl, ep⟩, if_pos ep]
            · rw [if_neg (fun z => ep z.2), if_neg ep]
              exact hB1.2 p (by rw [hl]; simp at hp; omega)
        have t2 : gI (sI h1 108 (S.2.2.1.length + q) (nI (m / 2 ^ (8 * q) % 256))) 94 21 = nI (S.2.2.1.length + q) := by rw [gI_sI, if_neg (by omega)]; exact t1
        refine V_iloadw4 dX10_feed_29 ?_
        refine V_iloadn3 dX10_feed_31 ?_
        first | refine U_icmp_ge (tgt := 72) dX10_feed_32 (by decide) (by with_reducible rfl) (by with_reducible rfl) (by omega) (by omega) (fun c32 => ?_) (fun c32 => ?_) | refine V_icmp_ge (tgt := 72) dX10_feed_32 (by decide) (fun c32 => ?_) (fun c32 => ?_)
        · skip
          omega
        · skip
          refine V_aloadn0 dX10_feed_35 ?_
          refine V_getR dX10_feed_36 fX10_56 (by first | assumption | rfl) (by first | decide | omega) (by first | assumption | exact ML_4 (by assumption) | exact ML_5 (by assumption) | exact ML_6 (by assumption) | exact ML_7 (by assumption) | exact ML_8 (by assumption) | exact ML_9 (by assumption) | exact ML_10 (by assumption) | exact ML_11 (by assumption) | exact ML_12 (by assumption) | exact ML_13 (by assumption) | exact ML_15 (by assumption) | exact ML_16 (by assumption) | exact ML_17 (by assumption) | exact ML_20 (by assumption) | exact ML_23 (by assumption) | exact ML_24 (by assumption) | exact ML_30 (by assumption) | exact ML_31 (by assumption) | exact ML_32 (by assumption) | exact ML_33 (by assumption) | exact ML_35 (by assumption) | exact ML_36 (by assumption) | exact ML_37 (by assumption) | exact ML_38 (by assumption) | exact ML_41 (by assumption) | exact ML_42 (by assumption) | exact ML_43 (by assumption) | exact ML_44 (by assumption) | exact ML_45 (by assumption) | rfl) ?_
          refine V_aloadn0 dX10_feed_39 ?_
          refine V_getI dX10_feed_40 fX10_125 (Or.inl rfl) (by first | assumption | rfl) (by first | decide | omega) (by first | assumption | exact ML_4 (by assumption) | exact ML_5 (by assumption) | exact ML_6 (by assumption) | exact ML_7 (by assumption) | exact ML_8 (by assumption) | exact ML_9 (by assumption) | exact ML_10 (by assumption) | exact ML_11 (by assumption) | exact ML_12 (by assumption) | exact ML_13 (by assumption) | exact ML_15 (by assumption) | exact ML_16 (by assumption) | exact ML_17 (by assumption) | exact ML_20 (by assumption) | exact ML_23 (by assumption) | exact ML_24 (by assumption) | exact ML_30 (by assumption) | exact ML_31 (by assumption) | exact ML_32 (by assumption) | exact ML_33 (by assumption) | exact ML_35 (by assumption) | exact ML_36 (by assumption) | exact ML_37 (by assumption) | exact ML_38 (by assumption) | exact ML_41 (by assumption) | exact ML_42 (by assumption) | exact ML_43 (by assumption) | exact ML_44 (by assumption) | exact ML_45 (by assumption) | rfl) ?_
          refine V_lloadn1 dX10_feed_43 ?_
          refine V_bipush (v := nI 8) dX10_feed_44 (by decide) ?_
          refine V_iloadw4 dX10_feed_46 ?_
          first | refine U_imul dX10_feed_48 (by with_reducible rfl) (by with_reducible rfl) ?_ | refine V_imul dX10_feed_48 ?_
          refine V_lshr dX10_feed_49 rfl ?_
          refine V_ldc2 (v := 255) dX10_feed_50 kX10_128 ?_
          refine V_land dX10_feed_53 ?_
          refine V_topL e255 ?_
          refine V_l2i dX10_feed_54 (lN_i _) ?_
          refine U_iast dX10_feed_55 (by with_reducible rfl) (by first | assumption | rfl) (by first | decide | omega) (by omega) ?_
          refine V_aloadn0 dX10_feed_56 ?_
          first | refine V_dupa dX10_feed_57 ?_ | refine V_dupi dX10_feed_57 ?_
          refine V_getI dX10_feed_58 fX10_125 (Or.inl rfl) (by first | assumption | rfl) (by first | decide | omega) (by first | assumption | exact ML_4 (by assumption) | exact ML_5 (by assumption) | exact ML_6 (by assumption) | exact ML_7 (by assumption) | exact ML_8 (by assumption) | exact ML_9 (by assumption) | exact ML_10 (by assumption) | exact ML_11 (by assumption) | exact ML_12 (by assumption) | exact ML_13 (by assumption) | exact ML_15 (by assumption) | exact ML_16 (by assumption) | exact ML_17 (by assumption) | exact ML_20 (by assumption) | exact ML_23 (by assumption) | exact ML_24 (by assumption) | exact ML_30 (by assumption) | exact ML_31 (by assumption) | exact ML_32 (by assumption) | exact ML_33 (by assumption) | exact ML_35 (by assumption) | exact ML_36 (by assumption) | exact ML_37 (by assumption) | exact ML_38 (by assumption) | exact ML_41 (by assumption) | exact ML_42 (by assumption) | exact ML_43 (by assumption) | exact ML_44 (by assumption) | exact ML_45 (by assumption) | rfl) ?_
          refine V_iconst (v := nI 1) dX10_feed_61 (by decide) ?_
          first | refine U_iadd dX10_feed_62 (by with_reducible rfl) (by with_reducible rfl) ?_ | refine V_iadd dX10_feed_62 ?_
          refine V_putI dX10_feed_63 fX10_125 (by first | assumption | rfl) (by first | decide | omega) ?_
          refine V_iinc4 dX10_feed_66 (by first | exact ginc1 _ | rfl) (by decide) rfl ?_
          refine V_goto (tgt := 29) dX10_feed_69 (by decide) ?_
          exact ih (q + 1) _ (by omega) h60 hB2 (fun a ha b hb => by rw [gI_sI, if_neg hb, gI_sI, if_neg (fun z => ha z.1)]; exact e a ha b hb) l r
    refine V_iloadn3 dX10_feed_0 ?_
    refine V_iconst (v := nI 1) dX10_feed_1 (by decide) ?_
    refine V_bipush (v := nI 8) dX10_feed_2 (by decide) ?_
    refine V_callS3 (μ' := mX10_in) dX10_feed_4 okX10_in lX10_104 (Nat.le_of_ble_eq_true rfl) (Nat.le_of_ble_eq_true rfl) (by omega) ?_
    refine m_inR ?_
    rw [hg]
    dsimp only [gPush]
    first | refine U_ifB_ne (tgt := 12) dX10_feed_7 (by decide) (by with_reducible rfl) (fun c7 => ?_) (fun c7 => ?_) | refine U_if_ne (tgt := 12) dX10_feed_7 (by decide) (by with_reducible rfl) (by omega) (fun c7 => ?_) (fun c7 => ?_) | refine V_if_ne (tgt := 12) dX10_feed_7 (by decide) (fun c7 => ?_) (fun c7 => ?_)
    · skip
      refine V_aloadn0 dX10_feed_12 ?_
      refine V_getI dX10_feed_13 fX10_125 (Or.inl rfl) (by first | assumption | rfl) (by first | decide | omega) (by first | assumption | exact ML_4 (by assumption) | exact ML_5 (by assumption) | exact ML_6 (by assumption) | exact ML_7 (by assumption) | exact ML_8 (by assumption) | exact ML_9 (by assumption) | exact ML_10 (by assumption) | exact ML_11 (by assumption) | exact ML_12 (by assumption) | exact ML_13 (by assumption) | exact ML_15 (by assumption) | exact ML_16 (by assumption) | exact ML_17 (by assumption) | exact ML_20 (by assumption) | exact ML_23 (by assumption) | exact ML_24 (by assumption) | exact ML_30 (by assumption) | exact ML_31 (by assumption) | exact ML_32 (by assumption) | exact ML_33 (by assumption) | exact ML_35 (by assumption) | exact ML_36 (by assumption) | exact ML_37 (by assumption) | exact ML_38 (by assumption) | exact ML_41 (by assumption) | exact ML_42 (by assumption) | exact ML_43 (by assumption) | exact ML_44 (by assumption) | exact ML_45 (by assumption) | rfl) ?_
      refine V_iloadn3 dX10_feed_16 ?_
      first | refine U_iadd dX10_feed_17 (by with_reducible rfl) (by with_reducible rfl) ?_ | refine V_iadd dX10_feed_17 ?_
      refine V_bipush (v := nI 60) dX10_feed_18 (by decide) ?_
      first | refine U_icmp_le (tgt := 26) dX10_feed_20 (by decide) (by with_reducible rfl) (by with_reducible rfl) (by omega) (by omega) (fun c20 => ?_) (fun c20 => ?_) | refine V_icmp_le (tgt := 26) dX10_feed_20 (by decide) (fun c20 => ?_) (fun c20 => ?_)
      · skip
        refine V_iconst (v := nI 0) dX10_feed_26 (by decide) ?_
        refine V_istorew4 dX10_feed_27 (by decide) rfl ?_
        exact loop _ 0 h (Nat.zero_add _) c20 (by rw [show byF m 0 = [] from rfl, List.append_nil]; exact rB) (fun _ _ _ _ => rfl) rfl rfl
      · skip
        rw [if_pos (by omega)] at hQ
        have hQ9 := hQ h hR FrD.rf
        refine V_bipush (v := -2) dX10_feed_23 (by decide) ?_
        refine V_iret dX10_feed_25 rfl rfl ?_
        exact hQ9
    · skip
      cases c7

end C63
