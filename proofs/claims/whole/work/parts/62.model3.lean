/-! ===== the reference: calls on things ===== -/
theorem nd_10 : ∀ (k c left D : Nat), left = k → c + ndF (10 - c) left = ndF 10 D → left < 10 ^ (10 - c) → c ≤ 10 → left = 0 → c = ndF 10 D := by
  intro k c left D hk h1 h2 h3 h4
  subst h4
  have e : ndF (10 - c) 0 = 0 := by cases (10 - c) <;> rfl
  omega
section C62
variable {Γ : gM} {d : Nat} {h : gH} {Q : Option Value → gH → Prop} {S : GS}

set_option maxRecDepth 100000 in
set_option maxHeartbeats 4000000 in
theorem m_letters {v : Int32} (hd : 1 ≤ d) (hR : RM h S) (hWG : WG S) (hQ : ∀ h', RM h' (f_letters S v).2 → FrD h h' → Q (some (.int (f_letters S v).1)) h') : V Γ mX10_letters d 124 124 h 0 [some (.ref 94), some (.int v), none, none] [] Q := by
  obtain ⟨hM, ⟨r0, r1, rT, rW⟩, rK, rK2, rB, rS⟩ := id hR
  obtain ⟨hWS, hWK, hWB, hWX⟩ := id hWG
  have hn2 := hWS.1
  have hn5 := hWS.2.1
  cases hg : inR v 2 5 with
  | false =>
    have eq0 : f_letters S v = (-1, S) := if_f hg
    rw [eq0] at hQ
    refine V_iloadn1 dX10_letters_0 ?_
    refine V_iconst (v := nI 2) dX10_letters_1 (by decide) ?_
    refine V_iconst (v := nI 5) dX10_letters_2 (by decide) ?_
    refine V_callS3 (μ' := mX10_in) dX10_letters_3 okX10_in lX10_104 (Nat.le_of_ble_eq_true rfl) (Nat.le_of_ble_eq_true rfl) (by omega) ?_
    refine m_inR ?_
    rw [hg]
    dsimp only [gPush]
    first | refine U_ifB_ne (tgt := 11) dX10_letters_6 (by decide) (by with_reducible rfl) (fun c6 => ?_) (fun c6 => ?_) | refine U_if_ne (tgt := 11) dX10_letters_6 (by decide) (by with_reducible rfl) (by omega) (fun c6 => ?_) (fun c6 => ?_) | refine V_if_ne (tgt := 11) dX10_letters_6 (by decide) (fun c6 => ?_) (fun c6 => ?_)
    · skip
      cases c6
    · skip
      refine V_iconst (v := -1) dX10_letters_9 (by decide) ?_
      refine V_iret dX10_letters_10 rfl rfl ?_
      exact hQ h hR FrD.rf
  | true =>
    obtain ⟨v', v2, v5, rfl⟩ := inR_t (by decide) (by decide) hg
    have eq0 : f_letters S (nI v') = _ := if_t hg
    rw [eq0, cN_nI (by omega)] at hQ
    by_cases hv : v' = S.1.1
    · rw [if_pos (by rw [hv])] at hQ
      have hR' : RM (sI h 94 0 (nI v')) S := by
        have e : ∀ a b, gI (sI h 94 0 (nI v')) a b = gI h a b := fun a b => by
          rw [gI_sI]
          by_cases q : a = 94 ∧ b = 0
          · rw [if_pos q, q.1, q.2, r0, hv]
          · rw [if_neg q]
        exact RM_X hR ⟨fun a _ => funext (e a), fun k _ => e 94 k, fun _ _ => rfl, rfl⟩
      have hQ9 := hQ _ hR' ⟨fun a ha => by funext b; rw [gI_sI, if_neg (by omega)], fun _ _ => rfl, rfl⟩
      refine V_iloadn1 dX10_letters_0 ?_
      refine V_iconst (v := nI 2) dX10_letters_1 (by decide) ?_
      refine V_iconst (v := nI 5) dX10_letters_2 (by decide) ?_
      refine V_callS3 (μ' := mX10_in) dX10_letters_3 okX10_in lX10_104 (Nat.le_of_ble_eq_true rfl) (Nat.le_of_ble_eq_true rfl) (by omega) ?_
      refine m_inR ?_
      rw [hg]
      dsimp only [gPush]
      first | refine U_ifB_ne (tgt := 11) dX10_letters_6 (by decide) (by with_reducible rfl) (fun c6 => ?_) (fun c6 => ?_) | refine U_if_ne (tgt := 11) dX10_letters_6 (by decide) (by with_reducible rfl) (by omega) (fun c6 => ?_) (fun c6 => ?_) | refine V_if_ne (tgt := 11) dX10_letters_6 (by decide) (fun c6 => ?_) (fun c6 => ?_)
      · skip
        refine V_aloadn0 dX10_letters_11 ?_
        refine V_getI dX10_letters_12 fX10_7 (Or.inl rfl) (by first | assumption | rfl) (by first | decide | omega) (by first | assumption | exact ML_4 (by assumption) | exact ML_5 (by assumption) | exact ML_6 (by assumption) | exact ML_7 (by assumption) | exact ML_8 (by assumption) | exact ML_9 (by assumption) | exact ML_10 (by assumption) | exact ML_11 (by assumption) | exact ML_12 (by assumption) | exact ML_13 (by assumption) | exact ML_15 (by assumption) | exact ML_16 (by assumption) | exact ML_17 (by assumption) | exact ML_20 (by assumption) | exact ML_23 (by assumption) | exact ML_24 (by assumption) | exact ML_30 (by assumption) | exact ML_31 (by assumption) | exact ML_32 (by assumption) | exact ML_33 (by assumption) | exact ML_35 (by assumption) | exact ML_36 (by assumption) | exact ML_37 (by assumption) | exact ML_38 (by assumption) | exact ML_41 (by assumption) | exact ML_42 (by assumption) | exact ML_43 (by assumption) | exact ML_44 (by assumption) | exact ML_45 (by assumption) | rfl) ?_
        refine V_istoren2 dX10_letters_15 (by decide) rfl ?_
        refine V_aloadn0 dX10_letters_16 ?_
        refine V_iloadn1 dX10_letters_17 ?_
        refine V_putI dX10_letters_18 fX10_7 (by first | assumption | rfl) (by first | decide | omega) ?_
        refine V_iconst (v := nI 0) dX10_letters_21 (by decide) ?_
        refine V_istoren3 dX10_letters_22 (by decide) rfl ?_
        refine V_iloadn3 dX10_letters_23 ?_
        refine V_bipush (v := nI 6) dX10_letters_24 (by decide) ?_
        first | refine U_icmp_ge (tgt := 47) dX10_letters_26 (by decide) (by with_reducible rfl) (by with_reducible rfl) (by omega) (by omega) (fun c26 => ?_) (fun c26 => ?_) | refine V_icmp_ge (tgt := 47) dX10_letters_26 (by decide) (fun c26 => ?_) (fun c26 => ?_)
        · skip
          omega
        · skip
          refine V_iloadn1 dX10_letters_29 ?_
          refine V_iloadn2 dX10_letters_30 ?_
          first | refine U_icmp_eq (tgt := 47) dX10_letters_31 (by decide) (by with_reducible rfl) (by with_reducible rfl) (by omega) (by omega) (fun c31 => ?_) (fun c31 => ?_) | refine V_icmp_eq (tgt := 47) dX10_letters_31 (by decide) (fun c31 => ?_) (fun c31 => ?_)
          · skip
            refine V_iloadn2 dX10_letters_47 ?_
            refine V_iret dX10_letters_48 rfl rfl ?_
            exact hQ9
          · skip
            omega
      · skip
        cases c6
    · rw [if_neg (fun q => hv ((nI_eq (by omega) (by omega)).mp q))] at hQ
      have loop : ∀ f k h1, k + f = 6 → (∀ j, j < k → gI h1 95 j = nI 0) → gI h1 94 0 = nI v' → (∀ a, a ≠ 95 → ∀ b, ¬ (a = 94 ∧ b = 0) → gI h1 a b = gI h a b) → gL h1 = gL h → gR h1 = gR h → V Γ mX10_letters d 124 124 h1 23 [some (.ref 94), some (.int (nI v')), some (.int (nI S.1.1)), some (.int (nI k))] [] Q := by
        intro f
        induction f with
        | zero =>
          intro k h1 hk a0 a1 e l r
          have hR1 : RM h1 ((v', S.1.2.1, (fun _ => (0, [], [])), S.1.2.2.2), S.2) := by
            refine ⟨MLay_eq hM r, ⟨a1, by rw [e 94 (by omega) 1 (by omega)]; exact r1, fun s hs => ⟨a0 s (by omega), fun q => absurd rfl q⟩, fun k k1 k2 => by rw [e 103 (by omega) k (by omega)]; exact rW k k1 k2⟩, by rw [e 94 (by omega) 14 (by omega)]; exact rK, fun K hK => ?_, MB_cg rB (e 94 (by omega) 21 (by omega)) (funext (fun b => e 108 (by omega) b (by omega))), MS_cg rS (fun a q1 q2 => funext (fun b => e a (by omega) b (by omega)))⟩
            obtain ⟨d1, d2, d3, d4⟩ := rK2 K hK
            exact ⟨by rw [e 94 (by omega) 2 (by omega)]; exact d1, by rw [e 94 (by omega) 3 (by omega)]; exact d2, MT_cg d3 (fun a q1 q2 => funext (fun b => e a (by omega) b (by omega))), fun k k1 k2 => by rw [e 104 (by omega) k (by omega)]; exact d4 k k1 k2⟩
          have hQ9 := hQ h1 hR1 ⟨fun a ha => funext (fun b => e a (by omega) b (by omega)), fun _ _ => by rw [l], r⟩
          refine V_iloadn3 dX10_letters_23 ?_
          refine V_bipush (v := nI 6) dX10_letters_24 (by decide) ?_
          first | refine U_icmp_ge (tgt := 47) dX10_letters_26 (by decide) (by with_reducible rfl) (by with_reducible rfl) (by omega) (by omega) (fun c26 => ?_) (fun c26 => ?_) | refine V_icmp_ge (tgt := 47) dX10_letters_26 (by decide) (fun c26 => ?_) (fun c26 => ?_)
          · skip
            refine V_iloadn2 dX10_letters_47 ?_
            refine V_iret dX10_letters_48 rfl rfl ?_
            exact hQ9
          · skip
            omega
        | succ f ih =>
          intro k h1 hk a0 a1 e l r
          have hM1 := MLay_eq hM r
          refine V_iloadn3 dX10_letters_23 ?_
          refine V_bipush (v := nI 6) dX10_letters_24 (by decide) ?_
          first | refine U_icmp_ge (tgt := 47) dX10_letters_26 (by decide) (by with_reducible rfl) (by with_reducible rfl) (by omega) (by omega) (fun c26 => ?_) (fun c26 => ?_) | refine V_icmp_ge (tgt := 47) dX10_letters_26 (by decide) (fun c26 => ?_) (fun c26 => ?_)
          · skip
            omega
          · skip
            refine V_iloadn1 dX10_letters_29 ?_
            refine V_iloadn2 dX10_letters_30 ?_
            first | refine U_icmp_eq (tgt := 47) dX10_letters_31 (by decide) (by with_reducible rfl) (by with_reducible rfl) (by omega) (by omega) (fun c31 => ?_) (fun c31 => ?_) | refine V_icmp_eq (tgt := 47) dX10_letters_31 (by decide) (fun c31 => ?_) (fun c31 => ?_)
            · skip
              omega
            · skip
              refine V_aloadn0 dX10_letters_34 ?_
              refine V_getR dX10_letters_35 fX10_16 (by first | assumption | rfl) (by first | decide | omega) (by first | assumption | exact ML_4 (by assumption) | exact ML_5 (by assumption) | exact ML_6 (by assumption) | exact ML_7 (by assumption) | exact ML_8 (by assumption) | exact ML_9 (by assumption) | exact ML_10 (by assumption) | exact ML_11 (by assumption) | exact ML_12 (by assumption) | exact ML_13 (by assumption) | exact ML_15 (by assumption) | exact ML_16 (by assumption) | exact ML_17 (by assumption) | exact ML_20 (by assumption) | exact ML_23 (by assumption) | exact ML_24 (by assumption) | exact ML_30 (by assumption) | exact ML_31 (by assumption) | exact ML_32 (by assumption) | exact ML_33 (by assumption) | exact ML_35 (by assumption) | exact ML_36 (by assumption) | exact ML_37 (by assumption) | exact ML_38 (by assumption) | exact ML_41 (by assumption) | exact ML_42 (by assumption) | exact ML_43 (by assumption) | exact ML_44 (by assumption) | exact ML_45 (by assumption) | rfl) ?_
              refine V_iloadn3 dX10_letters_38 ?_
              refine V_iconst (v := nI 0) dX10_letters_39 (by decide) ?_
              refine U_iast dX10_letters_40 (by with_reducible rfl) (by first | assumption | rfl) (by first | decide | omega) (by omega) ?_
              refine V_iinc3 dX10_letters_41 (by first | exact ginc1 _ | rfl) (by decide) rfl ?_
              refine V_goto (tgt := 23) dX10_letters_44 (by decide) ?_
              refine ih (k + 1) _ (by omega) (fun j hj => ?_) ?_ (fun a ha b hb => ?_) l r
              · rw [gI_sI]
                by_cases q : j = k
                · rw [if_pos ⟨rfl, q⟩]
                · rw [if_neg (fun z => q z.2)]; exact a0 j (by omega)
              · rw [gI_sI, if_neg (by omega)]; exact a1
              · rw [gI_sI, if_neg (fun z => ha z.1)]; exact e a ha b hb
      refine V_iloadn1 dX10_letters_0 ?_
      refine V_iconst (v := nI 2) dX10_letters_1 (by decide) ?_
      refine V_iconst (v := nI 5) dX10_letters_2 (by decide) ?_
      refine V_callS3 (μ' := mX10_in) dX10_letters_3 okX10_in lX10_104 (Nat.le_of_ble_eq_true rfl) (Nat.le_of_ble_eq_true rfl) (by omega) ?_
      refine m_inR ?_
      rw [hg]
      dsimp only [gPush]
      first | refine U_ifB_ne (tgt := 11) dX10_letters_6 (by decide) (by with_reducible rfl) (fun c6 => ?_) (fun c6 => ?_) | refine U_if_ne (tgt := 11) dX10_letters_6 (by decide) (by with_reducible rfl) (by omega) (fun c6 => ?_) (fun c6 => ?_) | refine V_if_ne (tgt := 11) dX10_letters_6 (by decide) (fun c6 => ?_) (fun c6 => ?_)
      · skip
        refine V_aloadn0 dX10_letters_11 ?_
        refine V_getI dX10_letters_12 fX10_7 (Or.inl rfl) (by first | assumption | rfl) (by first | decide | omega) (by first | assumption | exact ML_4 (by assumption) | exact ML_5 (by assumption) | exact ML_6 (by assumption) | exact ML_7 (by assumption) | exact ML_8 (by assumption) | exact ML_9 (by assumption) | exact ML_10 (by assumption) | exact ML_11 (by assumption) | exact ML_12 (by assumption) | exact ML_13 (by assumption) | exact ML_15 (by assumption) | exact ML_16 (by assumption) | exact ML_17 (by assumption) | exact ML_20 (by assumption) | exact ML_23 (by assumption) | exact ML_24 (by assumption) | exact ML_30 (by assumption) | exact ML_31 (by assumption) | exact ML_32 (by assumption) | exact ML_33 (by assumption) | exact ML_35 (by assumption) | exact ML_36 (by assumption) | exact ML_37 (by assumption) | exact ML_38 (by assumption) | exact ML_41 (by assumption) | exact ML_42 (by assumption) | exact ML_43 (by assumption) | exact ML_44 (by assumption) | exact ML_45 (by assumption) | rfl) ?_
        refine V_istoren2 dX10_letters_15 (by decide) rfl ?_
        refine V_aloadn0 dX10_letters_16 ?_
        refine V_iloadn1 dX10_letters_17 ?_
        refine V_putI dX10_letters_18 fX10_7 (by first | assumption | rfl) (by first | decide | omega) ?_
        refine V_iconst (v := nI 0) dX10_letters_21 (by decide) ?_
        refine V_istoren3 dX10_letters_22 (by decide) rfl ?_
        exact loop 6 0 _ rfl (fun j hj => absurd hj (Nat.not_lt_zero _)) (by rw [gI_sI, if_pos ⟨rfl, rfl⟩]) (fun a ha b hb => by rw [gI_sI, if_neg hb]) rfl rfl
      · skip
        cases c6

set_option maxRecDepth 100000 in
set_option maxHeartbeats 4000000 in
theorem m_isWord {n : Nat} {D : Int32} (hd : 1 ≤ d) (hn : n ≤ 5) (hM : MLay h) (r0 : gI h 94 0 = nI n) (hQ : ∀ h', ((decide (0 ≤ D) && wordOk (cN D) n) = true → WW h' (digL (cN D) (ndF 10 (cN D))) ∧ gI h' 94 19 = nI 1) → FrX h h' → Q (some (.int (gBo (decide (0 ≤ D) && wordOk (cN D) n)))) h') : V Γ mX10_isWord d 124 124 h 0 [some (.ref 94), some (.int D), none, none, none] [] Q := by
  by_cases hD : D < 0
  · rw [decide_eq_false (Int32.not_le.mpr hD), Bool.false_and] at hQ
    have hQ9 := hQ (sI (sI h 94 18 (nI 0)) 94 19 (nI 1)) (fun q => absurd q Bool.false_ne_true) (frx_sI (frx_sI FrX.rf (by omega)) (by omega))
    have f18 : gI (sI (sI h 94 18 (nI 0)) 94 19 (nI 1)) 94 18 = nI 0 := by rw [gI_sI, if_neg (by omega), gI_sI, if_pos ⟨rfl, rfl⟩]
    refine V_aloadn0 dX10_isWord_0 ?_
    refine V_iconst (v := nI 0) dX10_isWord_1 (by decide) ?_
    refine V_putI dX10_isWord_2 fX10_111 (by first | assumption | rfl) (by first | decide | omega) ?_
    refine V_iloadn1 dX10_isWord_5 ?_
    refine V_istoren2 dX10_isWord_6 (by decide) rfl ?_
    refine V_iloadn2 dX10_isWord_7 ?_
    first | refine U_if_le (tgt := 29) dX10_isWord_8 (by decide) (by with_reducible rfl) (by omega) (fun c8 => ?_) (fun c8 => ?_) | refine V_if_le (tgt := 29) dX10_isWord_8 (by decide) (fun c8 => ?_) (fun c8 => ?_)
    · skip
      refine V_aloadn0 dX10_isWord_29 ?_
      refine V_iconst (v := nI 1) dX10_isWord_30 (by decide) ?_
      refine V_putI dX10_isWord_31 fX10_108 (by first | assumption | rfl) (by first | decide | omega) ?_
      refine V_iloadn1 dX10_isWord_34 ?_
      refine V_if_lt (tgt := 51) dX10_isWord_35 (by decide) (fun c35 => ?_) (fun c35 => ?_)
      · skip
        refine V_iconst (v := nI 0) dX10_isWord_51 (by decide) ?_
        refine V_istoren2 dX10_isWord_52 (by decide) rfl ?_
        refine V_iloadn1 dX10_isWord_53 ?_
        refine V_istoren3 dX10_isWord_54 (by decide) rfl ?_
        refine V_aloadn0 dX10_isWord_55 ?_
        refine V_getI dX10_isWord_56 fX10_111 (Or.inl rfl) (by first | assumption | rfl) (by first | decide | omega) (by first | assumption | exact ML_4 (by assumption) | exact ML_5 (by assumption) | exact ML_6 (by assumption) | exact ML_7 (by assumption) | exact ML_8 (by assumption) | exact ML_9 (by assumption) | exact ML_10 (by assumption) | exact ML_11 (by assumption) | exact ML_12 (by assumption) | exact ML_13 (by assumption) | exact ML_15 (by assumption) | exact ML_16 (by assumption) | exact ML_17 (by assumption) | exact ML_20 (by assumption) | exact ML_23 (by assumption) | exact ML_24 (by assumption) | exact ML_30 (by assumption) | exact ML_31 (by assumption) | exact ML_32 (by assumption) | exact ML_33 (by assumption) | exact ML_35 (by assumption) | exact ML_36 (by assumption) | exact ML_37 (by assumption) | exact ML_38 (by assumption) | exact ML_41 (by assumption) | exact ML_42 (by assumption) | exact ML_43 (by assumption) | exact ML_44 (by assumption) | exact ML_45 (by assumption) | rfl) ?_
        refine V_iconst (v := nI 1) dX10_isWord_59 (by decide) ?_
        refine V_isub dX10_isWord_60 ?_
        refine V_istorew4 dX10_isWord_61 (by decide) rfl ?_
        refine V_iloadw4 dX10_isWord_63 ?_
        refine V_if_lt (tgt := 110) dX10_isWord_65 (by decide) (fun c65 => ?_) (fun c65 => ?_)
        · skip
          refine V_iloadn2 dX10_isWord_110 ?_
          refine V_iret dX10_isWord_111 rfl (by first | exact gBo_nar _ | rfl | decide) ?_
          exact hQ9
        · skip
          exact absurd (by decide) c65
      · skip
        exact absurd hD c35
    · skip
      exact absurd (Int32.le_of_lt hD) c8
  obtain ⟨D', hD', rfl⟩ := nI_of hD
  rw [decide_eq_true (nI_pos' hD'), Bool.true_and, cN_nI hD'] at hQ
  generalize hm : ndF 10 D' = m at hQ
  have hm10 : m ≤ 10 := by rw [← hm]; exact ndF_le 10 D'
  have loop2 : ∀ q h1, q ≤ m → m ≤ 6 → gI h1 94 18 = nI m → gI h1 94 19 = nI 1 → (∀ p, q ≤ p → p < m → gI h1 105 p = nI ((digL D' m).getD p 0) ∧ 1 ≤ (digL D' m).getD p 0 ∧ (digL D' m).getD p 0 ≤ n) → FrX h h1 → V Γ mX10_isWord d 124 124 h1 63 [some (.ref 94), some (.int (nI D')), some (.int (gBo true)), some (.int (nI (D' / 10 ^ (m - q)))), some (.int (nI q - nI 1))] [] Q := by
    intro q
    induction q with
    | zero =>
      intro h1 hq h6 f18 f19 hp hF
      have hc : wordOk D' n = true := wordOk_t (by omega) (fun p hp2 => by rw [hm] at hp2 ⊢; exact (hp p (by omega) hp2).2)
      rw [hc] at hQ
      have hQ9 := hQ h1 (fun _ => ⟨⟨by rw [digL_len]; exact f18, fun p hp2 => (hp p (by omega) (by rw [digL_len] at hp2; exact hp2)).1, by rw [digL_len]; exact h6, fun p => digL_le D' m p⟩, f19⟩) hF
      refine V_iloadw4 dX10_isWord_63 ?_
      refine V_if_lt (tgt := 110) dX10_isWord_65 (by decide) (fun c65 => ?_) (fun c65 => ?_)
      · skip
        refine V_iloadn2 dX10_isWord_110 ?_
        refine V_iret dX10_isWord_111 rfl (by first | exact gBo_nar _ | rfl | decide) ?_
        exact hQ9
      · skip
        exact absurd ((gdec_lt (by omega)).mpr rfl) c65
    | succ q ih =>
      intro h1 hq h6 f18 f19 hp hF
      have hM1 := MLay_eq hM hF.2.2.2
      have r01 : gI h1 94 0 = nI n := by rw [hF.2.1 0 (by omega)]; exact r0
      have hx : D' / 10 ^ (m - (q + 1)) < 2 ^ 31 := Nat.lt_of_le_of_lt (Nat.div_le_self _ _) hD'
      have hdg : D' / 10 ^ (m - (q + 1)) % 10 = (digL D' m).getD q 0 := by rw [digL_get (by omega), show m - 1 - q = m - (q + 1) by omega]
      have hdl := digL_le D' m q
      generalize hh2 : sI h1 105 q (nI ((digL D' m).getD q 0)) = h2
      have f2 : FrX h h2 := by rw [← hh2]; exact frx_sI hF (by omega)
      have hM2 := MLay_eq hM f2.2.2.2
      have r02 : gI h2 94 0 = nI n := by rw [f2.2.1 0 (by omega)]; exact r0
      have g2 : gI h2 105 q = nI ((digL D' m).getD q 0) := by rw [← hh2, gI_sI, if_pos ⟨rfl, rfl⟩]
      have f18' : gI h2 94 18 = nI m := by rw [← hh2, gI_sI, if_neg (by omega)]; exact f18
      have f19' : gI h2 94 19 = nI 1 := by rw [← hh2, gI_sI, if_neg (by omega)]; exact f19
      have keep : ∀ p, q + 1 ≤ p → p < m → gI h2 105 p = gI h1 105 p := fun p a b => by rw [← hh2, gI_sI, if_neg (by omega)]
      have hnext : D' / 10 ^ (m - (q + 1)) / 10 = D' / 10 ^ (m - q) := by rw [Nat.div_div_eq_div_mul, ← Nat.pow_succ, show (m - (q + 1)).succ = m - q by omega]
      have bad : inR (nI ((digL D' m).getD q 0)) 1 n = false → V Γ mX10_isWord d 124 124 h2 63 [some (.ref 94), some (.int (nI D')), some (.int (gBo false)), some (.int (nI (D' / 10 ^ (m - q)))), some (.int (nI q - nI 1))] [] Q := by
        intro hb
        have hc : wordOk D' n = false := wordOk_f (p := q) (by omega) (by
          rw [hm]
          intro z
          rw [inR_nI z.1 z.2 (by omega)] at hb
          cases hb)
        rw [hc] at hQ
        have hQ9 := hQ h2 (fun z => absurd z Bool.false_ne_true) f2
        refine V_iloadw4 dX10_isWord_63 ?_
        refine V_if_lt (tgt := 110) dX10_isWord_65 (by decide) (fun c65 => ?_) (fun c65 => ?_)
        · skip
          refine V_iloadn2 dX10_isWord_110 ?_
          refine V_iret dX10_isWord_111 rfl (by first | exact gBo_nar _ | rfl | decide) ?_
          exact hQ9
        · skip
          refine V_iloadn2 dX10_isWord_68 ?_
          first | refine U_ifB_eq (tgt := 110) dX10_isWord_69 (by decide) (by with_reducible rfl) (fun c69 => ?_) (fun c69 => ?_) | refine U_if_eq (tgt := 110) dX10_isWord_69 (by decide) (by with_reducible rfl) (by omega) (fun c69 => ?_) (fun c69 => ?_) | refine V_if_eq (tgt := 110) dX10_isWord_69 (by decide) (fun c69 => ?_) (fun c69 => ?_)
          · skip
            refine V_iloadn2 dX10_isWord_110 ?_
            refine V_iret dX10_isWord_111 rfl (by first | exact gBo_nar _ | rfl | decide) ?_
            exact hQ9
          · skip
            cases c69
      rw [gdecP]
      refine V_iloadw4 dX10_isWord_63 ?_
      refine V_if_lt (tgt := 110) dX10_isWord_65 (by decide) (fun c65 => ?_) (fun c65 => ?_)
      · skip
        exact absurd c65 (nI_pos (by omega))
      · skip
        refine V_iloadn2 dX10_isWord_68 ?_
        first | refine U_ifB_eq (tgt := 110) dX10_isWord_69 (by decide) (by with_reducible rfl) (fun c69 => ?_) (fun c69 => ?_) | refine U_if_eq (tgt := 110) dX10_isWord_69 (by decide) (by with_reducible rfl) (by omega) (fun c69 => ?_) (fun c69 => ?_) | refine V_if_eq (tgt := 110) dX10_isWord_69 (by decide) (fun c69 => ?_) (fun c69 => ?_)
        · skip
          cases c69
        · skip
          refine V_aloadn0 dX10_isWord_72 ?_
          refine V_getR dX10_isWord_73 fX10_47 (by first | assumption | rfl) (by first | decide | omega) (by first | assumption | exact ML_4 (by assumption) | exact ML_5 (by assumption) | exact ML_6 (by assumption) | exact ML_7 (by assumption) | exact ML_8 (by assumption) | exact ML_9 (by assumption) | exact ML_10 (by assumption) | exact ML_11 (by assumption) | exact ML_12 (by assumption) | exact ML_13 (by assumption) | exact ML_15 (by assumption) | exact ML_16 (by assumption) | exact ML_17 (by assumption) | exact ML_20 (by assumption) | exact ML_23 (by assumption) | exact ML_24 (by assumption) | exact ML_30 (by assumption) | exact ML_31 (by assumption) | exact ML_32 (by assumption) | exact ML_33 (by assumption) | exact ML_35 (by assumption) | exact ML_36 (by assumption) | exact ML_37 (by assumption) | exact ML_38 (by assumption) | exact ML_41 (by assumption) | exact ML_42 (by assumption) | exact ML_43 (by assumption) | exact ML_44 (by assumption) | exact ML_45 (by assumption) | rfl) ?_
          refine V_iloadw4 dX10_isWord_76 ?_
          refine V_iloadn3 dX10_isWord_78 ?_
          refine V_bipush (v := nI 10) dX10_isWord_79 (by decide) ?_
          first | refine U_irem dX10_isWord_81 (by with_reducible rfl) (by with_reducible rfl) (by omega) (by omega) (by omega) ?_ | refine V_irem dX10_isWord_81 (by decide) ?_
          refine U_iast dX10_isWord_82 (by with_reducible rfl) (by first | assumption | rfl) (by first | decide | omega) (by omega) ?_
          rw [hdg, hh2]
          refine V_aloadn0 dX10_isWord_83 ?_
          refine V_getR dX10_isWord_84 fX10_47 (by first | assumption | rfl) (by first | decide | omega) (by first | assumption | exact ML_4 (by assumption) | exact ML_5 (by assumption) | exact ML_6 (by assumption) | exact ML_7 (by assumption) | exact ML_8 (by assumption) | exact ML_9 (by assumption) | exact ML_10 (by assumption) | exact ML_11 (by assumption) | exact ML_12 (by assumption) | exact ML_13 (by assumption) | exact ML_15 (by assumption) | exact ML_16 (by assumption) | exact ML_17 (by assumption) | exact ML_20 (by assumption) | exact ML_23 (by assumption) | exact ML_24 (by assumption) | exact ML_30 (by assumption) | exact ML_31 (by assumption) | exact ML_32 (by assumption) | exact ML_33 (by assumption) | exact ML_35 (by assumption) | exact ML_36 (by assumption) | exact ML_37 (by assumption) | exact ML_38 (by assumption) | exact ML_41 (by assumption) | exact ML_42 (by assumption) | exact ML_43 (by assumption) | exact ML_44 (by assumption) | exact ML_45 (by assumption) | rfl) ?_
          refine V_iloadw4 dX10_isWord_87 ?_
          refine U_iald dX10_isWord_89 (by with_reducible rfl) (by first | assumption | rfl) (by first | decide | omega) (by omega) (by first | assumption | exact ML_4 (by assumption) | exact ML_5 (by assumption) | exact ML_6 (by assumption) | exact ML_7 (by assumption) | exact ML_8 (by assumption) | exact ML_9 (by assumption) | exact ML_10 (by assumption) | exact ML_11 (by assumption) | exact ML_12 (by assumption) | exact ML_13 (by assumption) | exact ML_15 (by assumption) | exact ML_16 (by assumption) | exact ML_17 (by assumption) | exact ML_20 (by assumption) | exact ML_23 (by assumption) | exact ML_24 (by assumption) | exact ML_30 (by assumption) | exact ML_31 (by assumption) | exact ML_32 (by assumption) | exact ML_33 (by assumption) | exact ML_35 (by assumption) | exact ML_36 (by assumption) | exact ML_37 (by assumption) | exact ML_38 (by assumption) | exact ML_41 (by assumption) | exact ML_42 (by assumption) | exact ML_43 (by assumption) | exact ML_44 (by assumption) | exact ML_45 (by assumption) | rfl) ?_
          refine V_iconst (v := nI 1) dX10_isWord_90 (by decide) ?_
          refine V_aloadn0 dX10_isWord_91 ?_
          refine V_getI dX10_isWord_92 fX10_7 (Or.inl rfl) (by first | assumption | rfl) (by first | decide | omega) (by first | assumption | exact ML_4 (by assumption) | exact ML_5 (by assumption) | exact ML_6 (by assumption) | exact ML_7 (by assumption) | exact ML_8 (by assumption) | exact ML_9 (by assumption) | exact ML_10 (by assumption) | exact ML_11 (by assumption) | exact ML_12 (by assumption) | exact ML_13 (by assumption) | exact ML_15 (by assumption) | exact ML_16 (by assumption) | exact ML_17 (by assumption) | exact ML_20 (by assumption) | exact ML_23 (by assumption) | exact ML_24 (by assumption) | exact ML_30 (by assumption) | exact ML_31 (by assumption) | exact ML_32 (by assumption) | exact ML_33 (by assumption) | exact ML_35 (by assumption) | exact ML_36 (by assumption) | exact ML_37 (by assumption) | exact ML_38 (by assumption) | exact ML_41 (by assumption) | exact ML_42 (by assumption) | exact ML_43 (by assumption) | exact ML_44 (by assumption) | exact ML_45 (by assumption) | rfl) ?_
          refine V_callS3 (μ' := mX10_in) dX10_isWord_95 okX10_in lX10_104 (Nat.le_of_ble_eq_true rfl) (Nat.le_of_ble_eq_true rfl) (by omega) ?_
          refine m_inR ?_
          dsimp only [gPush]
          refine V_istoren2 dX10_isWord_98 (by decide) rfl ?_
          refine V_iloadn3 dX10_isWord_99 ?_
          refine V_bipush (v := nI 10) dX10_isWord_100 (by decide) ?_
          first | refine U_idiv dX10_isWord_102 (by with_reducible rfl) (by with_reducible rfl) (by omega) (by omega) (by omega) ?_ | refine V_idiv dX10_isWord_102 (by decide) ?_
          refine V_istoren3 dX10_isWord_103 (by decide) rfl ?_
          refine V_iinc4 dX10_isWord_104 (by first | exact gdecS _ | rfl) (by decide) rfl ?_
          refine V_goto (tgt := 63) dX10_isWord_107 (by decide) ?_
          rw [hnext]
          cases hb : inR (nI ((digL D' m).getD q 0)) 1 n with
          | false => exact bad hb
          | true =>
            refine ih h2 (by omega) h6 f18' f19' (fun p a b => ?_) f2
            by_cases hpq : p = q
            · subst hpq
              obtain ⟨v, v1, v2, v3⟩ := inR_t (by omega) (by omega) hb
              have ev := (nI_eq (by omega) (by omega)).mp v3
              exact ⟨g2, by omega, by omega⟩
            · rw [keep p (by omega) b]; exact hp p (by omega) b
  have rest : ∀ h1 x3 x4, gI h1 94 18 = nI m → FrX h h1 → V Γ mX10_isWord d 124 124 h1 29 [some (.ref 94), some (.int (nI D')), some (.int (nI 0)), x3, x4] [] Q := by
    intro h1 x3 x4 f18 hF
    generalize hh2 : sI h1 94 19 (nI 1) = h2
    have f2 : FrX h h2 := by rw [← hh2]; exact frx_sI hF (by omega)
    have g18 : gI h2 94 18 = nI m := by rw [← hh2, gI_sI, if_neg (by omega)]; exact f18
    have g19 : gI h2 94 19 = nI 1 := by rw [← hh2, gI_sI, if_pos ⟨rfl, rfl⟩]
    have g0 : gI h2 94 0 = nI n := by rw [f2.2.1 0 (by omega)]; exact r0
    refine V_aloadn0 dX10_isWord_29 ?_
    refine V_iconst (v := nI 1) dX10_isWord_30 (by decide) ?_
    refine V_putI dX10_isWord_31 fX10_108 (by first | assumption | rfl) (by first | decide | omega) ?_
    rw [hh2]
    refine V_iloadn1 dX10_isWord_34 ?_
    refine V_if_lt (tgt := 51) dX10_isWord_35 (by decide) (fun c35 => ?_) (fun c35 => ?_)
    · skip
      exact absurd c35 (nI_pos hD')
    · skip
      refine V_aloadn0 dX10_isWord_38 ?_
      refine V_getI dX10_isWord_39 fX10_111 (Or.inl rfl) (by first | assumption | rfl) (by first | decide | omega) (by first | assumption | exact ML_4 (by assumption) | exact ML_5 (by assumption) | exact ML_6 (by assumption) | exact ML_7 (by assumption) | exact ML_8 (by assumption) | exact ML_9 (by assumption) | exact ML_10 (by assumption) | exact ML_11 (by assumption) | exact ML_12 (by assumption) | exact ML_13 (by assumption) | exact ML_15 (by assumption) | exact ML_16 (by assumption) | exact ML_17 (by assumption) | exact ML_20 (by assumption) | exact ML_23 (by assumption) | exact ML_24 (by assumption) | exact ML_30 (by assumption) | exact ML_31 (by assumption) | exact ML_32 (by assumption) | exact ML_33 (by assumption) | exact ML_35 (by assumption) | exact ML_36 (by assumption) | exact ML_37 (by assumption) | exact ML_38 (by assumption) | exact ML_41 (by assumption) | exact ML_42 (by assumption) | exact ML_43 (by assumption) | exact ML_44 (by assumption) | exact ML_45 (by assumption) | rfl) ?_
      refine V_bipush (v := nI 6) dX10_isWord_42 (by decide) ?_
      first | refine U_icmp_gt (tgt := 51) dX10_isWord_44 (by decide) (by with_reducible rfl) (by with_reducible rfl) (by omega) (by omega) (fun c44 => ?_) (fun c44 => ?_) | refine V_icmp_gt (tgt := 51) dX10_isWord_44 (by decide) (fun c44 => ?_) (fun c44 => ?_)
      · skip
        have hc : wordOk D' n = false := by unfold wordOk; rw [hm, decide_eq_false (by omega), Bool.false_and]
        rw [hc] at hQ
        have hQ9 := hQ h2 (fun z => absurd z Bool.false_ne_true) f2
        obtain ⟨m', rfl⟩ : ∃ m', m = m' + 1 := ⟨m - 1, by omega⟩
        refine V_iconst (v := nI 0) dX10_isWord_51 (by decide) ?_
        refine V_istoren2 dX10_isWord_52 (by decide) rfl ?_
        refine V_iloadn1 dX10_isWord_53 ?_
        refine V_istoren3 dX10_isWord_54 (by decide) rfl ?_
        refine V_aloadn0 dX10_isWord_55 ?_
        refine V_getI dX10_isWord_56 fX10_111 (Or.inl rfl) (by first | assumption | rfl) (by first | decide | omega) (by first | assumption | exact ML_4 (by assumption) | exact ML_5 (by assumption) | exact ML_6 (by assumption) | exact ML_7 (by assumption) | exact ML_8 (by assumption) | exact ML_9 (by assumption) | exact ML_10 (by assumption) | exact ML_11 (by assumption) | exact ML_12 (by assumption) | exact ML_13 (by assumption) | exact ML_15 (by assumption) | exact ML_16 (by assumption) | exact ML_17 (by assumption) | exact ML_20 (by assumption) | exact ML_23 (by assumption) | exact ML_24 (by assumption) | exact ML_30 (by assumption) | exact ML_31 (by assumption) | exact ML_32 (by assumption) | exact ML_33 (by assumption) | exact ML_35 (by assumption) | exact ML_36 (by assumption) | exact ML_37 (by assumption) | exact ML_38 (by assumption) | exact ML_41 (by assumption) | exact ML_42 (by assumption) | exact ML_43 (by assumption) | exact ML_44 (by assumption) | exact ML_45 (by assumption) | rfl) ?_
        refine V_iconst (v := nI 1) dX10_isWord_59 (by decide) ?_
        refine V_isub dX10_isWord_60 ?_
        refine V_istorew4 dX10_isWord_61 (by decide) rfl ?_
        first
        | (have hs := loop2 m h2 (Nat.le_refl _) (by omega) g18 g19 (fun p a b => absurd a (by omega)) f2
           rw [Nat.sub_self, Nat.pow_zero, Nat.div_one] at hs
           exact hs)
        | (rw [gdecP]
           refine V_iloadw4 dX10_isWord_63 ?_
           refine V_if_lt (tgt := 110) dX10_isWord_65 (by decide) (fun c65 => absurd c65 (nI_pos (by omega))) (fun c65 => ?_)
           refine V_iloadn2 dX10_isWord_68 ?_
           refine V_if_eq (tgt := 110) dX10_isWord_69 (by decide) (fun c69 => ?_) (fun c69 => absurd (by decide) c69)
           refine V_iloadn2 dX10_isWord_110 ?_
           refine V_iret dX10_isWord_111 rfl (by decide) ?_
           exact hQ9)
      · skip
        refine V_iconst (v := nI 1) dX10_isWord_47 (by decide) ?_
        refine V_goto (tgt := 52) dX10_isWord_48 (by decide) ?_
        refine V_istoren2 dX10_isWord_52 (by decide) rfl ?_
        refine V_iloadn1 dX10_isWord_53 ?_
        refine V_istoren3 dX10_isWord_54 (by decide) rfl ?_
        refine V_aloadn0 dX10_isWord_55 ?_
        refine V_getI dX10_isWord_56 fX10_111 (Or.inl rfl) (by first | assumption | rfl) (by first | decide | omega) (by first | assumption | exact ML_4 (by assumption) | exact ML_5 (by assumption) | exact ML_6 (by assumption) | exact ML_7 (by assumption) | exact ML_8 (by assumption) | exact ML_9 (by assumption) | exact ML_10 (by assumption) | exact ML_11 (by assumption) | exact ML_12 (by assumption) | exact ML_13 (by assumption) | exact ML_15 (by assumption) | exact ML_16 (by assumption) | exact ML_17 (by assumption) | exact ML_20 (by assumption) | exact ML_23 (by assumption) | exact ML_24 (by assumption) | exact ML_30 (by assumption) | exact ML_31 (by assumption) | exact ML_32 (by assumption) | exact ML_33 (by assumption) | exact ML_35 (by assumption) | exact ML_36 (by assumption) | exact ML_37 (by assumption) | exact ML_38 (by assumption) | exact ML_41 (by assumption) | exact ML_42 (by assumption) | exact ML_43 (by assumption) | exact ML_44 (by assumption) | exact ML_45 (by assumption) | rfl) ?_
        refine V_iconst (v := nI 1) dX10_isWord_59 (by decide) ?_
        refine V_isub dX10_isWord_60 ?_
        refine V_istorew4 dX10_isWord_61 (by decide) rfl ?_
        first
        | (have hs := loop2 m h2 (Nat.le_refl _) (by omega) g18 g19 (fun p a b => absurd a (by omega)) f2
           rw [Nat.sub_self, Nat.pow_zero, Nat.div_one] at hs
           exact hs)
        | (rw [gdecP]
           refine V_iloadw4 dX10_isWord_63 ?_
           refine V_if_lt (tgt := 110) dX10_isWord_65 (by decide) (fun c65 => absurd c65 (nI_pos (by omega))) (fun c65 => ?_)
           refine V_iloadn2 dX10_isWord_68 ?_
           refine V_if_eq (tgt := 110) dX10_isWord_69 (by decide) (fun c69 => ?_) (fun c69 => absurd (by decide) c69)
           refine V_iloadn2 dX10_isWord_110 ?_
           refine V_iret dX10_isWord_111 rfl (by decide) ?_
           exact hQ9)
  have loop1 : ∀ k c left h1 x3 x4, left = k → c + ndF (10 - c) left = ndF 10 D' → left < 10 ^ (10 - c) → c ≤ 10 → left < 2 ^ 31 → gI h1 94 18 = nI c → FrX h h1 → V Γ mX10_isWord d 124 124 h1 7 [some (.ref 94), some (.int (nI D')), some (.int (nI left)), x3, x4] [] Q := by
    intro k
    induction k using Nat.strongRecOn with
    | _ k ih =>
      intro c left h1 x3 x4 hk hc hl hc10 h31 f18 hF
      refine V_iloadn2 dX10_isWord_7 ?_
      first | refine U_if_le (tgt := 29) dX10_isWord_8 (by decide) (by with_reducible rfl) (by omega) (fun c8 => ?_) (fun c8 => ?_) | refine V_if_le (tgt := 29) dX10_isWord_8 (by decide) (fun c8 => ?_) (fun c8 => ?_)
      · skip
        have ec := nd_10 _ c left D' rfl hc hl hc10 c8
        subst c8
        rw [hm] at ec
        subst ec
        exact rest h1 x3 x4 f18 hF
      · skip
        have hc9 : c < 10 := by
          apply Classical.byContradiction
          intro z
          rw [show 10 - c = 0 by omega] at hl
          omega
        refine V_aloadn0 dX10_isWord_11 ?_
        first | refine V_dupa dX10_isWord_12 ?_ | refine V_dupi dX10_isWord_12 ?_
        refine V_getI dX10_isWord_13 fX10_111 (Or.inl rfl) (by first | assumption | rfl) (by first | decide | omega) (by first | assumption | exact ML_4 (by assumption) | exact ML_5 (by assumption) | exact ML_6 (by assumption) | exact ML_7 (by assumption) | exact ML_8 (by assumption) | exact ML_9 (by assumption) | exact ML_10 (by assumption) | exact ML_11 (by assumption) | exact ML_12 (by assumption) | exact ML_13 (by assumption) | exact ML_15 (by assumption) | exact ML_16 (by assumption) | exact ML_17 (by assumption) | exact ML_20 (by assumption) | exact ML_23 (by assumption) | exact ML_24 (by assumption) | exact ML_30 (by assumption) | exact ML_31 (by assumption) | exact ML_32 (by assumption) | exact ML_33 (by assumption) | exact ML_35 (by assumption) | exact ML_36 (by assumption) | exact ML_37 (by assumption) | exact ML_38 (by assumption) | exact ML_41 (by assumption) | exact ML_42 (by assumption) | exact ML_43 (by assumption) | exact ML_44 (by assumption) | exact ML_45 (by assumption) | rfl) ?_
        refine V_iconst (v := nI 1) dX10_isWord_16 (by decide) ?_
        first | refine U_iadd dX10_isWord_17 (by with_reducible rfl) (by with_reducible rfl) ?_ | refine V_iadd dX10_isWord_17 ?_
        refine V_putI dX10_isWord_18 fX10_111 (by first | assumption | rfl) (by first | decide | omega) ?_
        refine V_iloadn2 dX10_isWord_21 ?_
        refine V_bipush (v := nI 10) dX10_isWord_22 (by decide) ?_
        first | refine U_idiv dX10_isWord_24 (by with_reducible rfl) (by with_reducible rfl) (by omega) (by omega) (by omega) ?_ | refine V_idiv dX10_isWord_24 (by decide) ?_
        refine V_istoren2 dX10_isWord_25 (by decide) rfl ?_
        refine V_goto (tgt := 7) dX10_isWord_26 (by decide) ?_
        refine ih (left / 10) (by omega) (c + 1) (left / 10) _ x3 x4 rfl ?_ ?_ (by omega) (by omega) (by rw [gI_sI, if_pos ⟨rfl, rfl⟩]) (frx_sI hF (by omega))
        · rw [← hc, show 10 - c = (10 - (c + 1)) + 1 by omega, ndF, if_neg c8]
          omega
        · rw [show 10 - c = (10 - (c + 1)) + 1 by omega, Nat.pow_succ] at hl
          omega
  refine V_aloadn0 dX10_isWord_0 ?_
  refine V_iconst (v := nI 0) dX10_isWord_1 (by decide) ?_
  refine V_putI dX10_isWord_2 fX10_111 (by first | assumption | rfl) (by first | decide | omega) ?_
  refine V_iloadn1 dX10_isWord_5 ?_
  refine V_istoren2 dX10_isWord_6 (by decide) rfl ?_
  exact loop1 _ 0 D' _ _ _ rfl (Nat.zero_add _) (by omega) (by omega) hD' (by rw [gI_sI, if_pos ⟨rfl, rfl⟩]) (frx_sI FrX.rf (by omega))

set_option maxRecDepth 100000 in
set_option maxHeartbeats 4000000 in
theorem m_word {x D : Int32} (hd : 2 ≤ d) (hR : RM h S) (hWG : WG S) (hQ : ∀ h', RM h' (f_word S x D).2 → FrD h h' → Q (some (.int (f_word S x D).1)) h') : V Γ mX10_word d 124 124 h 0 [some (.ref 94), some (.int x), some (.int D)] [] Q := by
  obtain ⟨hM, ⟨r0, r1, rT, rW⟩, rK, rK2, rB, rS⟩ := id hR
  obtain ⟨hWS, hWK, hWB, hWX⟩ := id hWG
  have hn2 := hWS.1
  have hn5 := hWS.2.1
  refine V_iloadn1 dX10_word_0 ?_
  refine V_callS1 (μ' := mX10_isSlot) dX10_word_1 okX10_isSlot lX10_114 (Nat.le_of_ble_eq_true rfl) (Nat.le_of_ble_eq_true rfl) (by omega) ?_
  refine m_isSlot (by omega) ?_
  dsimp only [gPush]
  first | refine U_ifB_eq (tgt := 15) dX10_word_4 (by decide) (by with_reducible rfl) (fun c4 => ?_) (fun c4 => ?_) | refine U_if_eq (tgt := 15) dX10_word_4 (by decide) (by with_reducible rfl) (by omega) (fun c4 => ?_) (fun c4 => ?_) | refine V_if_eq (tgt := 15) dX10_word_4 (by decide) (fun c4 => ?_) (fun c4 => ?_)
  · skip
    have eq0 : f_word S x D = (-1, S) := if_f (by rw [c4, Bool.false_and])
    rw [eq0] at hQ
    have hQ9 := hQ h hR FrD.rf
    refine V_iconst (v := -1) dX10_word_15 (by decide) ?_
    refine V_iret dX10_word_16 rfl rfl ?_
    exact hQ9
  · skip
    obtain ⟨s, hs, rfl⟩ := inB_t (by decide) c4
    refine V_aloadn0 dX10_word_7 ?_
    refine V_iloadn2 dX10_word_8 ?_
    refine V_callV1 (μ' := mX10_isWord) dX10_word_9 okX10_isWord lX10_118 rfl (by first | assumption | rfl) (by first | decide | omega) (Nat.le_of_ble_eq_true rfl) (Nat.le_of_ble_eq_true rfl) (by omega) ?_
    refine m_isWord (by omega) hn5 hM r0 (fun h1 hw1 hF1 => ?_)
    have hR1 := RM_X hR hF1
    dsimp only [gPush]
    first | refine U_ifB_ne (tgt := 17) dX10_word_12 (by decide) (by with_reducible rfl) (fun c12 => ?_) (fun c12 => ?_) | refine U_if_ne (tgt := 17) dX10_word_12 (by decide) (by with_reducible rfl) (by omega) (fun c12 => ?_) (fun c12 => ?_) | refine V_if_ne (tgt := 17) dX10_word_12 (by decide) (fun c12 => ?_) (fun c12 => ?_)
    · skip
      have eq0 : f_word S (nI s) D = (nI (ndF 10 (cN D)), putT S s (1, digL (cN D) (ndF 10 (cN D)), [])) := by unfold f_word; rw [if_t (by rw [c4, c12]; rfl), cN_nI (by omega)]
      rw [eq0] at hQ
      obtain ⟨hww, hk⟩ := hw1 c12
      refine V_aloadn0 dX10_word_17 ?_
      refine V_iloadn1 dX10_word_18 ?_
      refine V_callV1 (μ' := mX10_lays) dX10_word_19 okX10_lays lX10_121 rfl (by first | assumption | rfl) (by first | decide | omega) (Nat.le_of_ble_eq_true rfl) (Nat.le_of_ble_eq_true rfl) (by omega) ?_
      refine m_lays (L := []) hs hR1 hWS (by decide) hk hww (fun q => by cases q) (fun _ => rfl) (fun h2 hR2 e2 l2 k2 => ?_)
      have f18 : gI h2 94 18 = nI (ndF 10 (cN D)) := by rw [e2 94 (by omega), hww.1, digL_len]
      have hQ9 := hQ h2 hR2 (hF1.D.tr ⟨fun a ha => e2 a (by omega), fun a ha => by rw [l2], k2⟩)
      dsimp only [gPush]
      refine V_aloadn0 dX10_word_22 ?_
      refine V_getI dX10_word_23 fX10_111 (Or.inl rfl) (by first | assumption | rfl) (by first | decide | omega) (by first | assumption | exact ML_4 (by assumption) | exact ML_5 (by assumption) | exact ML_6 (by assumption) | exact ML_7 (by assumption) | exact ML_8 (by assumption) | exact ML_9 (by assumption) | exact ML_10 (by assumption) | exact ML_11 (by assumption) | exact ML_12 (by assumption) | exact ML_13 (by assumption) | exact ML_15 (by assumption) | exact ML_16 (by assumption) | exact ML_17 (by assumption) | exact ML_20 (by assumption) | exact ML_23 (by assumption) | exact ML_24 (by assumption) | exact ML_30 (by assumption) | exact ML_31 (by assumption) | exact ML_32 (by assumption) | exact ML_33 (by assumption) | exact ML_35 (by assumption) | exact ML_36 (by assumption) | exact ML_37 (by assumption) | exact ML_38 (by assumption) | exact ML_41 (by assumption) | exact ML_42 (by assumption) | exact ML_43 (by assumption) | exact ML_44 (by assumption) | exact ML_45 (by assumption) | rfl) ?_
      refine V_iret dX10_word_26 rfl rfl ?_
      exact hQ9
    · skip
      have eq0 : f_word S (nI s) D = (-1, S) := if_f (by rw [c12, Bool.and_false])
      rw [eq0] at hQ
      have hQ9 := hQ h1 hR1 hF1.D
      refine V_iconst (v := -1) dX10_word_15 (by decide) ?_
      refine V_iret dX10_word_16 rfl rfl ?_
      exact hQ9

set_option maxRecDepth 100000 in
set_option maxHeartbeats 4000000 in
theorem m_bare {x : Int32} (hd : 2 ≤ d) (hR : RM h S) (hWG : WG S) (hQ : ∀ h', RM h' (f_bare S x).2 → FrD h h' → Q (some (.int (f_bare S x).1)) h') : V Γ mX10_bare d 124 124 h 0 [some (.ref 94), some (.int x), none] [] Q := by
  obtain ⟨hM, ⟨r0, r1, rT, rW⟩, rK, rK2, rB, rS⟩ := id hR
  obtain ⟨hWS, hWK, hWB, hWX⟩ := id hWG
  have hn2 := hWS.1
  have hn5 := hWS.2.1
  cases hg : inB x 6 with
  | false =>
    have eq0 : f_bare S x = (-1, S) := if_f hg
    rw [eq0] at hQ
    refine V_iloadn1 dX10_bare_0 ?_
    refine V_callS1 (μ' := mX10_isSlot) dX10_bare_1 okX10_isSlot lX10_114 (Nat.le_of_ble_eq_true rfl) (Nat.le_of_ble_eq_true rfl) (by omega) ?_
    refine m_isSlot (by omega) ?_
    rw [hg]
    dsimp only [gPush]
    first | refine U_ifB_ne (tgt := 9) dX10_bare_4 (by decide) (by with_reducible rfl) (fun c4 => ?_) (fun c4 => ?_) | refine U_if_ne (tgt := 9) dX10_bare_4 (by decide) (by with_reducible rfl) (by omega) (fun c4 => ?_) (fun c4 => ?_) | refine V_if_ne (tgt := 9) dX10_bare_4 (by decide) (fun c4 => ?_) (fun c4 => ?_)
    · skip
      cases c4
    · skip
      refine V_iconst (v := -1) dX10_bare_7 (by decide) ?_
      refine V_iret dX10_bare_8 rfl rfl ?_
      exact hQ h hR FrD.rf
  | true =>
    obtain ⟨s, hs, rfl⟩ := inB_t (by decide) hg
    have eq0 : f_bare S (nI s) = ((if (S.1.2.2.1 s).1 = 0 then nI 0 else nI 1), putT S s (0, [], [])) := by unfold f_bare tS; rw [if_t hg, cN_nI (by omega)]
    rw [eq0] at hQ
    obtain ⟨t0, tz⟩ := rT s hs
    have kd2 := (hWS.2.2.1 s hs).1
    have fin : Q (some (.int (if (S.1.2.2.1 s).1 = 0 then nI 0 else nI 1))) (sI h 95 s (nI 0)) := by
      refine hQ _ ⟨MLay_eq hM rfl, ⟨by rw [gI_sI, if_neg (by omega)]; exact r0, by rw [gI_sI, if_neg (by omega)]; exact r1, fun q hq => ?_, fun k k1 k2 => by rw [gI_sI, if_neg (by omega)]; exact rW k k1 k2⟩, by rw [gI_sI, if_neg (by omega)]; exact rK, fun K hK => ?_, MB_cg rB (by rw [gI_sI, if_neg (by omega)]) (by funext b; rw [gI_sI, if_neg (by omega)]), MS_cg rS (fun a q1 q2 => by funext b; rw [gI_sI, if_neg (by omega)])⟩ ⟨fun a ha => by funext b; rw [gI_sI, if_neg (by omega)], fun _ _ => rfl, rfl⟩
      · show gI (sI h 95 s (nI 0)) 95 q = nI (if q = s then ((0, [], []) : Thg) else S.1.2.2.1 q).1 ∧ ((if q = s then ((0, [], []) : Thg) else S.1.2.2.1 q).1 ≠ 0 → gI (sI h 95 s (nI 0)) (95 + 1) q = nI (if q = s then ((0, [], []) : Thg) else S.1.2.2.1 q).2.1.length ∧ (∀ k, k < (if q = s then ((0, [], []) : Thg) else S.1.2.2.1 q).2.1.length → gI (sI h 95 s (nI 0)) (95 + 2) (6 * q + k) = nI ((if q = s then ((0, [], []) : Thg) else S.1.2.2.1 q).2.1.getD k 0)) ∧ ∀ k, k < 6 → gI (sI h 95 s (nI 0)) (95 + 3) (6 * q + k) = nI ((if q = s then ((0, [], []) : Thg) else S.1.2.2.1 q).2.2.getD k 0))
        by_cases e : q = s
        · rw [if_pos e, gI_sI, if_pos ⟨rfl, e⟩]
          exact ⟨rfl, fun z => absurd rfl z⟩
        · rw [if_neg e, gI_sI, if_neg (fun z => e z.2)]
          obtain ⟨d0, d1⟩ := rT q hq
          refine ⟨d0, fun z => ?_⟩
          obtain ⟨d2, d3, d4⟩ := d1 z
          exact ⟨by rw [gI_sI, if_neg (by omega)]; exact d2, fun k hk => by rw [gI_sI, if_neg (by omega)]; exact d3 k hk, fun k hk => by rw [gI_sI, if_neg (by omega)]; exact d4 k hk⟩
      · obtain ⟨d1, d2, d3, d4⟩ := rK2 K hK
        exact ⟨by rw [gI_sI, if_neg (by omega)]; exact d1, by rw [gI_sI, if_neg (by omega)]; exact d2, MT_cg d3 (fun a q1 q2 => by funext b; rw [gI_sI, if_neg (by omega)]), fun k k1 k2 => by rw [gI_sI, if_neg (by omega)]; exact d4 k k1 k2⟩
    refine V_iloadn1 dX10_bare_0 ?_
    refine V_callS1 (μ' := mX10_isSlot) dX10_bare_1 okX10_isSlot lX10_114 (Nat.le_of_ble_eq_true rfl) (Nat.le_of_ble_eq_true rfl) (by omega) ?_
    refine m_isSlot (by omega) ?_
    rw [hg]
    dsimp only [gPush]
    first | refine U_ifB_ne (tgt := 9) dX10_bare_4 (by decide) (by with_reducible rfl) (fun c4 => ?_) (fun c4 => ?_) | refine U_if_ne (tgt := 9) dX10_bare_4 (by decide) (by with_reducible rfl) (by omega) (fun c4 => ?_) (fun c4 => ?_) | refine V_if_ne (tgt := 9) dX10_bare_4 (by decide) (fun c4 => ?_) (fun c4 => ?_)
    · skip
      refine V_aloadn0 dX10_bare_9 ?_
      refine V_getR dX10_bare_10 fX10_16 (by first | assumption | rfl) (by first | decide | omega) (by first | assumption | exact ML_4 (by assumption) | exact ML_5 (by assumption) | exact ML_6 (by assumption) | exact ML_7 (by assumption) | exact ML_8 (by assumption) | exact ML_9 (by assumption) | exact ML_10 (by assumption) | exact ML_11 (by assumption) | exact ML_12 (by assumption) | exact ML_13 (by assumption) | exact ML_15 (by assumption) | exact ML_16 (by assumption) | exact ML_17 (by assumption) | exact ML_20 (by assumption) | exact ML_23 (by assumption) | exact ML_24 (by assumption) | exact ML_30 (by assumption) | exact ML_31 (by assumption) | exact ML_32 (by assumption) | exact ML_33 (by assumption) | exact ML_35 (by assumption) | exact ML_36 (by assumption) | exact ML_37 (by assumption) | exact ML_38 (by assumption) | exact ML_41 (by assumption) | exact ML_42 (by assumption) | exact ML_43 (by assumption) | exact ML_44 (by assumption) | exact ML_45 (by assumption) | rfl) ?_
      refine V_iloadn1 dX10_bare_13 ?_
      refine U_iald dX10_bare_14 (by with_reducible rfl) (by first | assumption | rfl) (by first | decide | omega) (by omega) (by first | assumption | exact ML_4 (by assumption) | exact ML_5 (by assumption) | exact ML_6 (by assumption) | exact ML_7 (by assumption) | exact ML_8 (by assumption) | exact ML_9 (by assumption) | exact ML_10 (by assumption) | exact ML_11 (by assumption) | exact ML_12 (by assumption) | exact ML_13 (by assumption) | exact ML_15 (by assumption) | exact ML_16 (by assumption) | exact ML_17 (by assumption) | exact ML_20 (by assumption) | exact ML_23 (by assumption) | exact ML_24 (by assumption) | exact ML_30 (by assumption) | exact ML_31 (by assumption) | exact ML_32 (by assumption) | exact ML_33 (by assumption) | exact ML_35 (by assumption) | exact ML_36 (by assumption) | exact ML_37 (by assumption) | exact ML_38 (by assumption) | exact ML_41 (by assumption) | exact ML_42 (by assumption) | exact ML_43 (by assumption) | exact ML_44 (by assumption) | exact ML_45 (by assumption) | rfl) ?_
      first | refine U_if_le (tgt := 22) dX10_bare_15 (by decide) (by with_reducible rfl) (by omega) (fun c15 => ?_) (fun c15 => ?_) | refine V_if_le (tgt := 22) dX10_bare_15 (by decide) (fun c15 => ?_) (fun c15 => ?_)
      · skip
        rw [if_pos c15] at fin
        refine V_iconst (v := nI 0) dX10_bare_22 (by decide) ?_
        refine V_istoren2 dX10_bare_23 (by decide) rfl ?_
        refine V_aloadn0 dX10_bare_24 ?_
        refine V_getR dX10_bare_25 fX10_16 (by first | assumption | rfl) (by first | decide | omega) (by first | assumption | exact ML_4 (by assumption) | exact ML_5 (by assumption) | exact ML_6 (by assumption) | exact ML_7 (by assumption) | exact ML_8 (by assumption) | exact ML_9 (by assumption) | exact ML_10 (by assumption) | exact ML_11 (by assumption) | exact ML_12 (by assumption) | exact ML_13 (by assumption) | exact ML_15 (by assumption) | exact ML_16 (by assumption) | exact ML_17 (by assumption) | exact ML_20 (by assumption) | exact ML_23 (by assumption) | exact ML_24 (by assumption) | exact ML_30 (by assumption) | exact ML_31 (by assumption) | exact ML_32 (by assumption) | exact ML_33 (by assumption) | exact ML_35 (by assumption) | exact ML_36 (by assumption) | exact ML_37 (by assumption) | exact ML_38 (by assumption) | exact ML_41 (by assumption) | exact ML_42 (by assumption) | exact ML_43 (by assumption) | exact ML_44 (by assumption) | exact ML_45 (by assumption) | rfl) ?_
        refine V_iloadn1 dX10_bare_28 ?_
        refine V_iconst (v := nI 0) dX10_bare_29 (by decide) ?_
        refine U_iast dX10_bare_30 (by with_reducible rfl) (by first | assumption | rfl) (by first | decide | omega) (by omega) ?_
        refine V_iloadn2 dX10_bare_31 ?_
        refine V_iret dX10_bare_32 rfl rfl ?_
        exact fin
      · skip
        rw [if_neg c15] at fin
        refine V_iconst (v := nI 1) dX10_bare_18 (by decide) ?_
        refine V_goto (tgt := 23) dX10_bare_19 (by decide) ?_
        refine V_istoren2 dX10_bare_23 (by decide) rfl ?_
        refine V_aloadn0 dX10_bare_24 ?_
        refine V_getR dX10_bare_25 fX10_16 (by first | assumption | rfl) (by first | decide | omega) (by first | assumption | exact ML_4 (by assumption) | exact ML_5 (by assumption) | exact ML_6 (by assumption) | exact ML_7 (by assumption) | exact ML_8 (by assumption) | exact ML_9 (by assumption) | exact ML_10 (by assumption) | exact ML_11 (by assumption) | exact ML_12 (by assumption) | exact ML_13 (by assumption) | exact ML_15 (by assumption) | exact ML_16 (by assumption) | exact ML_17 (by assumption) | exact ML_20 (by assumption) | exact ML_23 (by assumption) | exact ML_24 (by assumption) | exact ML_30 (by assumption) | exact ML_31 (by assumption) | exact ML_32 (by assumption) | exact ML_33 (by assumption) | exact ML_35 (by assumption) | exact ML_36 (by assumption) | exact ML_37 (by assumption) | exact ML_38 (by assumption) | exact ML_41 (by assumption) | exact ML_42 (by assumption) | exact ML_43 (by assumption) | exact ML_44 (by assumption) | exact ML_45 (by assumption) | rfl) ?_
        refine V_iloadn1 dX10_bare_28 ?_
        refine V_iconst (v := nI 0) dX10_bare_29 (by decide) ?_
        refine U_iast dX10_bare_30 (by with_reducible rfl) (by first | assumption | rfl) (by first | decide | omega) (by omega) ?_
        refine V_iloadn2 dX10_bare_31 ?_
        refine V_iret dX10_bare_32 rfl rfl ?_
        exact fin
    · skip
      cases c4

end C62
