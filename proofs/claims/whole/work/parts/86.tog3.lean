/-! ===== the reference: together, whole ===== -/
section C86
variable {Γ : gM} {d : Nat} {h : gH} {Q : Option Value → gH → Prop} {S : GS}
set_option maxRecDepth 100000 in
set_option maxHeartbeats 1000000 in
theorem m_together {a b c : Int32} (hd : 18 ≤ d) (hR : RM h S) (hWG : WG S) (hQ : ∀ h', RM h' S → FrD h h' → Q (some (.int (g_together S a b c))) h') : V Γ mX10_together d 124 124 h 0 [some (.ref 94), some (.int a), some (.int b), some (.int c), none] [] Q := by
  obtain ⟨hM, ⟨r0, r1, rT, rW⟩, rK, rK2, rB, rS⟩ := id hR
  obtain ⟨hWS, hWK, hWB, hWX⟩ := id hWG
  have hn2 := hWS.1
  have hn5 := hWS.2.1
  have h99 := hWS.2.2.2
  unfold g_together at hQ
  cases hs1 : shB S.1.1 a with
  | false =>
    rw [if_neg (by rw [hs1, Bool.false_and]; exact Bool.false_ne_true)] at hQ
    refine V_aloadn0 dX10_together_0 ?_
    refine V_iloadn1 dX10_together_1 ?_
    refine V_aloadn0 dX10_together_2 ?_
    refine V_getR dX10_together_3 fX10_80 (by first | assumption | rfl) (by first | decide | omega) (by first | assumption | exact ML_4 (by assumption) | exact ML_5 (by assumption) | exact ML_6 (by assumption) | exact ML_7 (by assumption) | exact ML_8 (by assumption) | exact ML_9 (by assumption) | exact ML_10 (by assumption) | exact ML_11 (by assumption) | exact ML_12 (by assumption) | exact ML_13 (by assumption) | exact ML_15 (by assumption) | exact ML_16 (by assumption) | exact ML_17 (by assumption) | exact ML_20 (by assumption) | exact ML_23 (by assumption) | exact ML_24 (by assumption) | exact ML_30 (by assumption) | exact ML_31 (by assumption) | exact ML_32 (by assumption) | exact ML_33 (by assumption) | exact ML_35 (by assumption) | exact ML_36 (by assumption) | exact ML_37 (by assumption) | exact ML_38 (by assumption) | exact ML_41 (by assumption) | exact ML_42 (by assumption) | exact ML_43 (by assumption) | exact ML_44 (by assumption) | exact ML_45 (by assumption) | rfl) ?_
    refine V_callV2 (μ' := mX10_isShape) dX10_together_6 okX10_isShape lX10_270 rfl (by first | assumption | rfl) (by first | decide | omega) (Nat.le_of_ble_eq_true rfl) (Nat.le_of_ble_eq_true rfl) (by omega) ?_
    refine m_isShape (n := S.1.1) hn5 (by omega) (by omega) rfl r0 (fun h1 a1 hF1 => ?_)
    rw [hs1]
    dsimp only [gPush]
    first | refine U_ifB_eq (tgt := 56) dX10_together_9 (by decide) (by with_reducible rfl) (fun c9 => ?_) (fun c9 => ?_) | refine U_if_eq (tgt := 56) dX10_together_9 (by decide) (by with_reducible rfl) (by omega) (fun c9 => ?_) (fun c9 => ?_) | refine V_if_eq (tgt := 56) dX10_together_9 (by decide) (fun c9 => ?_) (fun c9 => ?_)
    · skip
      refine V_iconst (v := -1) dX10_together_56 (by decide) ?_
      refine V_iret dX10_together_57 rfl rfl ?_
      exact hQ h1 (RM_X hR (hF1.X (by omega))) (hF1.X (by omega)).D
    · skip
      cases c9
  | true =>
    rw [hs1, Bool.true_and] at hQ
    obtain ⟨hP1, hPl1⟩ := shB_P hn5 hs1
    have from12 : ∀ h1, (∀ r, r < 6 → gI h1 116 r = nI ((shL a).getD r 0)) → FrX h h1 → V Γ mX10_together d 124 124 h1 12 [some (.ref 94), some (.int a), some (.int b), some (.int c), none] [] Q := by
      intro h1 A1 hF1
      have hR1 := RM_X hR hF1
      have hM1 := hR1.1
      have r01 := hR1.2.1.1
      cases hs2 : shB S.1.1 b with
      | false =>
        rw [if_neg (by rw [hs2, Bool.false_and]; exact Bool.false_ne_true)] at hQ
        refine V_aloadn0 dX10_together_12 ?_
        refine V_iloadn2 dX10_together_13 ?_
        refine V_aloadn0 dX10_together_14 ?_
        refine V_getR dX10_together_15 fX10_89 (by first | assumption | rfl) (by first | decide | omega) (by first | assumption | exact ML_4 (by assumption) | exact ML_5 (by assumption) | exact ML_6 (by assumption) | exact ML_7 (by assumption) | exact ML_8 (by assumption) | exact ML_9 (by assumption) | exact ML_10 (by assumption) | exact ML_11 (by assumption) | exact ML_12 (by assumption) | exact ML_13 (by assumption) | exact ML_15 (by assumption) | exact ML_16 (by assumption) | exact ML_17 (by assumption) | exact ML_20 (by assumption) | exact ML_23 (by assumption) | exact ML_24 (by assumption) | exact ML_30 (by assumption) | exact ML_31 (by assumption) | exact ML_32 (by assumption) | exact ML_33 (by assumption) | exact ML_35 (by assumption) | exact ML_36 (by assumption) | exact ML_37 (by assumption) | exact ML_38 (by assumption) | exact ML_41 (by assumption) | exact ML_42 (by assumption) | exact ML_43 (by assumption) | exact ML_44 (by assumption) | exact ML_45 (by assumption) | rfl) ?_
        refine V_callV2 (μ' := mX10_isShape) dX10_together_18 okX10_isShape lX10_270 rfl (by first | assumption | rfl) (by first | decide | omega) (Nat.le_of_ble_eq_true rfl) (Nat.le_of_ble_eq_true rfl) (by omega) ?_
        refine m_isShape (n := S.1.1) hn5 (by omega) (by omega) rfl r01 (fun h2 a2 hF2 => ?_)
        rw [hs2]
        dsimp only [gPush]
        first | refine U_ifB_eq (tgt := 56) dX10_together_21 (by decide) (by with_reducible rfl) (fun c21 => ?_) (fun c21 => ?_) | refine U_if_eq (tgt := 56) dX10_together_21 (by decide) (by with_reducible rfl) (by omega) (fun c21 => ?_) (fun c21 => ?_) | refine V_if_eq (tgt := 56) dX10_together_21 (by decide) (fun c21 => ?_) (fun c21 => ?_)
        · skip
          refine V_iconst (v := -1) dX10_together_56 (by decide) ?_
          refine V_iret dX10_together_57 rfl rfl ?_
          exact hQ h2 (RM_X hR (hF1.tr (hF2.X (by omega)))) (hF1.tr (hF2.X (by omega))).D
        · skip
          cases c21
      | true =>
        rw [hs2, Bool.true_and] at hQ
        obtain ⟨hP2, hPl2⟩ := shB_P hn5 hs2
        have from24 : ∀ h2, (∀ r, r < 6 → gI h2 116 r = nI ((shL a).getD r 0)) → (∀ r, r < 6 → gI h2 119 r = nI ((shL b).getD r 0)) → FrX h h2 → V Γ mX10_together d 124 124 h2 24 [some (.ref 94), some (.int a), some (.int b), some (.int c), none] [] Q := by
          intro h2 A1 A2 hF2
          have hR2 := RM_X hR hF2
          have hM2 := hR2.1
          have r02 := hR2.2.1.1
          cases hs3 : shB S.1.1 c with
          | false =>
            rw [if_neg (by rw [hs3, Bool.false_and]; exact Bool.false_ne_true)] at hQ
            refine V_aloadn0 dX10_together_24 ?_
            refine V_iloadn3 dX10_together_25 ?_
            refine V_aloadn0 dX10_together_26 ?_
            refine V_getR dX10_together_27 fX10_83 (by first | assumption | rfl) (by first | decide | omega) (by first | assumption | exact ML_4 (by assumption) | exact ML_5 (by assumption) | exact ML_6 (by assumption) | exact ML_7 (by assumption) | exact ML_8 (by assumption) | exact ML_9 (by assumption) | exact ML_10 (by assumption) | exact ML_11 (by assumption) | exact ML_12 (by assumption) | exact ML_13 (by assumption) | exact ML_15 (by assumption) | exact ML_16 (by assumption) | exact ML_17 (by assumption) | exact ML_20 (by assumption) | exact ML_23 (by assumption) | exact ML_24 (by assumption) | exact ML_30 (by assumption) | exact ML_31 (by assumption) | exact ML_32 (by assumption) | exact ML_33 (by assumption) | exact ML_35 (by assumption) | exact ML_36 (by assumption) | exact ML_37 (by assumption) | exact ML_38 (by assumption) | exact ML_41 (by assumption) | exact ML_42 (by assumption) | exact ML_43 (by assumption) | exact ML_44 (by assumption) | exact ML_45 (by assumption) | rfl) ?_
            refine V_callV2 (μ' := mX10_isShape) dX10_together_30 okX10_isShape lX10_270 rfl (by first | assumption | rfl) (by first | decide | omega) (Nat.le_of_ble_eq_true rfl) (Nat.le_of_ble_eq_true rfl) (by omega) ?_
            refine m_isShape (n := S.1.1) hn5 (by omega) (by omega) rfl r02 (fun h3 a3 hF3 => ?_)
            rw [hs3]
            dsimp only [gPush]
            first | refine U_ifB_eq (tgt := 56) dX10_together_33 (by decide) (by with_reducible rfl) (fun c33 => ?_) (fun c33 => ?_) | refine U_if_eq (tgt := 56) dX10_together_33 (by decide) (by with_reducible rfl) (by omega) (fun c33 => ?_) (fun c33 => ?_) | refine V_if_eq (tgt := 56) dX10_together_33 (by decide) (fun c33 => ?_) (fun c33 => ?_)
            · skip
              refine V_iconst (v := -1) dX10_together_56 (by decide) ?_
              refine V_iret dX10_together_57 rfl rfl ?_
              exact hQ h3 (RM_X hR (hF2.tr (hF3.X (by omega)))) (hF2.tr (hF3.X (by omega))).D
            · skip
              cases c33
          | true =>
            rw [hs3, Bool.true_and] at hQ
            obtain ⟨hP3, hPl3⟩ := shB_P hn5 hs3
            have ps1 : psum (shL a) 6 = (shL a).sum := psum_all (by omega)
            have ps2 : psum (shL b) 6 = (shL b).sum := psum_all (by omega)
            have b1 := hP1.2.1
            have b2 := hP2.2.1
            have htp := together_pure (n := S.1.1) (L := shL b) (L1 := shL a) (L3 := shL c) hn5 hP2 hPl1 hPl3
            rw [← htp] at hQ
            clear htp
            have from36 : ∀ h3, (∀ r, r < 6 → gI h3 116 r = nI ((shL a).getD r 0)) → (∀ r, r < 6 → gI h3 119 r = nI ((shL b).getD r 0)) → (∀ r, r < 6 → gI h3 117 r = nI ((shL c).getD r 0)) → FrX h h3 → V Γ mX10_together d 124 124 h3 36 [some (.ref 94), some (.int a), some (.int b), some (.int c), none] [] Q := by
              intro h3 A1 A2 A3 hF3
              have hR3 := RM_X hR hF3
              have hM3 := hR3.1
              by_cases h6 : (shL a).sum + (shL b).sum ≤ 6
              · rw [if_pos (decide_eq_true h6)] at hQ
                generalize hU : foF 1 S.1.1 (shL b) (shL a) (fun x => (shL c).getD (x - 1) 0) (lvF (shL b) S.1.1 12 [] 0 0) = u at hQ
                have hU2 : True ∧ _ := ⟨trivial, hU⟩
                clear hU
                have loop : ∀ f x h4, x + f = S.1.1 → (∀ y, 1 ≤ y → y ≤ x → gI h4 118 y = nI ((shL c).getD (y - 1) 0)) → (∀ r, r ≠ 118 → gI h4 r = gI h3 r) → FrX h h4 → V Γ mX10_together d 124 124 h4 61 [some (.ref 94), some (.int a), some (.int b), some (.int c), some (.int (nI (x + 1)))] [] Q := by
                  intro f
                  induction f with
                  | zero =>
                    intro x h4 hx hp e4 hF4
                    have hR4 := RM_X hR hF4
                    have hM4 := hR4.1
                    have r04 := hR4.2.1.1
                    refine V_iloadw4 dX10_together_61 ?_
                    refine V_aloadn0 dX10_together_63 ?_
                    refine V_getI dX10_together_64 fX10_7 (Or.inl rfl) (by first | assumption | rfl) (by first | decide | omega) (by first | assumption | exact ML_4 (by assumption) | exact ML_5 (by assumption) | exact ML_6 (by assumption) | exact ML_7 (by assumption) | exact ML_8 (by assumption) | exact ML_9 (by assumption) | exact ML_10 (by assumption) | exact ML_11 (by assumption) | exact ML_12 (by assumption) | exact ML_13 (by assumption) | exact ML_15 (by assumption) | exact ML_16 (by assumption) | exact ML_17 (by assumption) | exact ML_20 (by assumption) | exact ML_23 (by assumption) | exact ML_24 (by assumption) | exact ML_30 (by assumption) | exact ML_31 (by assumption) | exact ML_32 (by assumption) | exact ML_33 (by assumption) | exact ML_35 (by assumption) | exact ML_36 (by assumption) | exact ML_37 (by assumption) | exact ML_38 (by assumption) | exact ML_41 (by assumption) | exact ML_42 (by assumption) | exact ML_43 (by assumption) | exact ML_44 (by assumption) | exact ML_45 (by assumption) | rfl) ?_
                    first | refine U_icmp_gt (tgt := 92) dX10_together_67 (by decide) (by with_reducible rfl) (by with_reducible rfl) (by omega) (by omega) (fun c67 => ?_) (fun c67 => ?_) | refine V_icmp_gt (tgt := 92) dX10_together_67 (by decide) (fun c67 => ?_) (fun c67 => ?_)
                    · skip
                      refine V_aloadn0 dX10_together_92 ?_
                      refine V_iconst (v := nI 1) dX10_together_93 (by decide) ?_
                      refine V_callV1 (μ' := mX10_fillsAll) dX10_together_94 okX10_fillsAll lX10_274 rfl (by first | assumption | rfl) (by first | decide | omega) (Nat.le_of_ble_eq_true rfl) (Nat.le_of_ble_eq_true rfl) (by omega) ?_
                      refine m_fillsAll (n := S.1.1) (L := shL b) (L2 := shL a) (wt := S.1.2.2.2) (D := fun x => (shL c).getD (x - 1) 0) (by omega) (by omega) hn5 hP2 (by omega) h99 ⟨hM4, r04, fun r hr => by rw [e4 119 (by omega)]; exact A2 r hr, fun x x1 x2 => hR4.2.1.2.2.2 x x1 (by omega), fun _ y y1 y2 => ⟨hp y y1 (by omega), by have q := psum_le (shL c) (y - 1 + 1); rw [psum_s] at q; have := hP3.2.1; show (shL c).getD (y - 1) 0 ≤ 9; omega⟩, fun _ => ⟨fun r hr => by rw [e4 116 (by omega)]; exact A1 r hr, by rw [bq_len]; omega⟩⟩ (fun h5 z1 z2 hF5 => ?_)
                      rw [hU2.2] at z1
                      clear z2
                      have hQ9 := hQ h5 (RM_X hR (hF4.tr hF5.X)) (hF4.tr hF5.X).D
                      dsimp only [gPush]
                      refine V_aloadn0 dX10_together_97 ?_
                      refine V_getI dX10_together_98 fX10_256 (Or.inl rfl) (by first | assumption | rfl) (by first | decide | omega) (by first | assumption | exact ML_4 (by assumption) | exact ML_5 (by assumption) | exact ML_6 (by assumption) | exact ML_7 (by assumption) | exact ML_8 (by assumption) | exact ML_9 (by assumption) | exact ML_10 (by assumption) | exact ML_11 (by assumption) | exact ML_12 (by assumption) | exact ML_13 (by assumption) | exact ML_15 (by assumption) | exact ML_16 (by assumption) | exact ML_17 (by assumption) | exact ML_20 (by assumption) | exact ML_23 (by assumption) | exact ML_24 (by assumption) | exact ML_30 (by assumption) | exact ML_31 (by assumption) | exact ML_32 (by assumption) | exact ML_33 (by assumption) | exact ML_35 (by assumption) | exact ML_36 (by assumption) | exact ML_37 (by assumption) | exact ML_38 (by assumption) | exact ML_41 (by assumption) | exact ML_42 (by assumption) | exact ML_43 (by assumption) | exact ML_44 (by assumption) | exact ML_45 (by assumption) | rfl) ?_
                      refine V_iret dX10_together_101 rfl rfl ?_
                      exact hQ9
                    · skip
                      omega
                  | succ f ih =>
                    intro x h4 hx hp e4 hF4
                    have hM4 := MLay_eq hM hF4.2.2.2
                    have r04 : gI h4 94 0 = nI S.1.1 := (RM_X hR hF4).2.1.1
                    have g117 : gI h4 117 x = nI ((shL c).getD x 0) := by rw [e4 117 (by omega)]; exact A3 x (by omega)
                    refine V_iloadw4 dX10_together_61 ?_
                    refine V_aloadn0 dX10_together_63 ?_
                    refine V_getI dX10_together_64 fX10_7 (Or.inl rfl) (by first | assumption | rfl) (by first | decide | omega) (by first | assumption | exact ML_4 (by assumption) | exact ML_5 (by assumption) | exact ML_6 (by assumption) | exact ML_7 (by assumption) | exact ML_8 (by assumption) | exact ML_9 (by assumption) | exact ML_10 (by assumption) | exact ML_11 (by assumption) | exact ML_12 (by assumption) | exact ML_13 (by assumption) | exact ML_15 (by assumption) | exact ML_16 (by assumption) | exact ML_17 (by assumption) | exact ML_20 (by assumption) | exact ML_23 (by assumption) | exact ML_24 (by assumption) | exact ML_30 (by assumption) | exact ML_31 (by assumption) | exact ML_32 (by assumption) | exact ML_33 (by assumption) | exact ML_35 (by assumption) | exact ML_36 (by assumption) | exact ML_37 (by assumption) | exact ML_38 (by assumption) | exact ML_41 (by assumption) | exact ML_42 (by assumption) | exact ML_43 (by assumption) | exact ML_44 (by assumption) | exact ML_45 (by assumption) | rfl) ?_
                    first | refine U_icmp_gt (tgt := 92) dX10_together_67 (by decide) (by with_reducible rfl) (by with_reducible rfl) (by omega) (by omega) (fun c67 => ?_) (fun c67 => ?_) | refine V_icmp_gt (tgt := 92) dX10_together_67 (by decide) (fun c67 => ?_) (fun c67 => ?_)
                    · skip
                      omega
                    · skip
                      refine V_aloadn0 dX10_together_70 ?_
                      refine V_getR dX10_together_71 fX10_86 (by first | assumption | rfl) (by first | decide | omega) (by first | assumption | exact ML_4 (by assumption) | exact ML_5 (by assumption) | exact ML_6 (by assumption) | exact ML_7 (by assumption) | exact ML_8 (by assumption) | exact ML_9 (by assumption) | exact ML_10 (by assumption) | exact ML_11 (by assumption) | exact ML_12 (by assumption) | exact ML_13 (by assumption) | exact ML_15 (by assumption) | exact ML_16 (by assumption) | exact ML_17 (by assumption) | exact ML_20 (by assumption) | exact ML_23 (by assumption) | exact ML_24 (by assumption) | exact ML_30 (by assumption) | exact ML_31 (by assumption) | exact ML_32 (by assumption) | exact ML_33 (by assumption) | exact ML_35 (by assumption) | exact ML_36 (by assumption) | exact ML_37 (by assumption) | exact ML_38 (by assumption) | exact ML_41 (by assumption) | exact ML_42 (by assumption) | exact ML_43 (by assumption) | exact ML_44 (by assumption) | exact ML_45 (by assumption) | rfl) ?_
                      refine V_iloadw4 dX10_together_74 ?_
                      refine V_aloadn0 dX10_together_76 ?_
                      refine V_getR dX10_together_77 fX10_83 (by first | assumption | rfl) (by first | decide | omega) (by first | assumption | exact ML_4 (by assumption) | exact ML_5 (by assumption) | exact ML_6 (by assumption) | exact ML_7 (by assumption) | exact ML_8 (by assumption) | exact ML_9 (by assumption) | exact ML_10 (by assumption) | exact ML_11 (by assumption) | exact ML_12 (by assumption) | exact ML_13 (by assumption) | exact ML_15 (by assumption) | exact ML_16 (by assumption) | exact ML_17 (by assumption) | exact ML_20 (by assumption) | exact ML_23 (by assumption) | exact ML_24 (by assumption) | exact ML_30 (by assumption) | exact ML_31 (by assumption) | exact ML_32 (by assumption) | exact ML_33 (by assumption) | exact ML_35 (by assumption) | exact ML_36 (by assumption) | exact ML_37 (by assumption) | exact ML_38 (by assumption) | exact ML_41 (by assumption) | exact ML_42 (by assumption) | exact ML_43 (by assumption) | exact ML_44 (by assumption) | exact ML_45 (by assumption) | rfl) ?_
                      refine V_iloadw4 dX10_together_80 ?_
                      refine V_iconst (v := nI 1) dX10_together_82 (by decide) ?_
                      first | refine U_isub dX10_together_83 (by with_reducible rfl) (by with_reducible rfl) (by omega) ?_ | refine V_isub dX10_together_83 ?_
                      refine U_iald dX10_together_84 (by with_reducible rfl) (by first | assumption | rfl) (by first | decide | omega) (by omega) (by first | assumption | exact ML_4 (by assumption) | exact ML_5 (by assumption) | exact ML_6 (by assumption) | exact ML_7 (by assumption) | exact ML_8 (by assumption) | exact ML_9 (by assumption) | exact ML_10 (by assumption) | exact ML_11 (by assumption) | exact ML_12 (by assumption) | exact ML_13 (by assumption) | exact ML_15 (by assumption) | exact ML_16 (by assumption) | exact ML_17 (by assumption) | exact ML_20 (by assumption) | exact ML_23 (by assumption) | exact ML_24 (by assumption) | exact ML_30 (by assumption) | exact ML_31 (by assumption) | exact ML_32 (by assumption) | exact ML_33 (by assumption) | exact ML_35 (by assumption) | exact ML_36 (by assumption) | exact ML_37 (by assumption) | exact ML_38 (by assumption) | exact ML_41 (by assumption) | exact ML_42 (by assumption) | exact ML_43 (by assumption) | exact ML_44 (by assumption) | exact ML_45 (by assumption) | rfl) ?_
                      refine U_iast dX10_together_85 (by with_reducible rfl) (by first | assumption | rfl) (by first | decide | omega) (by omega) ?_
                      refine V_iinc4 dX10_together_86 (by first | exact ginc1 _ | rfl) (by decide) rfl ?_
                      refine V_goto (tgt := 61) dX10_together_89 (by decide) ?_
                      exact ih (x + 1) _ (by omega) (fun y y1 y2 => by rw [gI_sI]; by_cases e : y = x + 1; (· rw [if_pos ⟨rfl, e⟩, e]; rfl); rw [if_neg (fun z => e z.2)]; exact hp y y1 (by omega)) (fun r hr => by funext k; rw [gI_sI, if_neg (fun z => hr z.1)]; exact congrFun (e4 r hr) k) (frx_sI hF4 (by omega))
                refine V_aloadn0 dX10_together_36 ?_
                refine V_getR dX10_together_37 fX10_80 (by first | assumption | rfl) (by first | decide | omega) (by first | assumption | exact ML_4 (by assumption) | exact ML_5 (by assumption) | exact ML_6 (by assumption) | exact ML_7 (by assumption) | exact ML_8 (by assumption) | exact ML_9 (by assumption) | exact ML_10 (by assumption) | exact ML_11 (by assumption) | exact ML_12 (by assumption) | exact ML_13 (by assumption) | exact ML_15 (by assumption) | exact ML_16 (by assumption) | exact ML_17 (by assumption) | exact ML_20 (by assumption) | exact ML_23 (by assumption) | exact ML_24 (by assumption) | exact ML_30 (by assumption) | exact ML_31 (by assumption) | exact ML_32 (by assumption) | exact ML_33 (by assumption) | exact ML_35 (by assumption) | exact ML_36 (by assumption) | exact ML_37 (by assumption) | exact ML_38 (by assumption) | exact ML_41 (by assumption) | exact ML_42 (by assumption) | exact ML_43 (by assumption) | exact ML_44 (by assumption) | exact ML_45 (by assumption) | rfl) ?_
                refine V_callS1 (μ' := mX10_sum) dX10_together_40 okX10_sum lX10_277 (Nat.le_of_ble_eq_true rfl) (Nat.le_of_ble_eq_true rfl) (by omega) ?_
                refine m_sum (L := shL a) (by omega) rfl A1 ?_
                dsimp only [gPush]
                refine V_aloadn0 dX10_together_43 ?_
                refine V_getR dX10_together_44 fX10_89 (by first | assumption | rfl) (by first | decide | omega) (by first | assumption | exact ML_4 (by assumption) | exact ML_5 (by assumption) | exact ML_6 (by assumption) | exact ML_7 (by assumption) | exact ML_8 (by assumption) | exact ML_9 (by assumption) | exact ML_10 (by assumption) | exact ML_11 (by assumption) | exact ML_12 (by assumption) | exact ML_13 (by assumption) | exact ML_15 (by assumption) | exact ML_16 (by assumption) | exact ML_17 (by assumption) | exact ML_20 (by assumption) | exact ML_23 (by assumption) | exact ML_24 (by assumption) | exact ML_30 (by assumption) | exact ML_31 (by assumption) | exact ML_32 (by assumption) | exact ML_33 (by assumption) | exact ML_35 (by assumption) | exact ML_36 (by assumption) | exact ML_37 (by assumption) | exact ML_38 (by assumption) | exact ML_41 (by assumption) | exact ML_42 (by assumption) | exact ML_43 (by assumption) | exact ML_44 (by assumption) | exact ML_45 (by assumption) | rfl) ?_
                refine V_callS1 (μ' := mX10_sum) dX10_together_47 okX10_sum lX10_277 (Nat.le_of_ble_eq_true rfl) (Nat.le_of_ble_eq_true rfl) (by omega) ?_
                refine m_sum (L := shL b) (by omega) rfl A2 ?_
                dsimp only [gPush]
                first | refine U_iadd dX10_together_50 (by with_reducible rfl) (by with_reducible rfl) ?_ | refine V_iadd dX10_together_50 ?_
                refine V_bipush (v := nI 6) dX10_together_51 (by decide) ?_
                first | refine U_icmp_le (tgt := 58) dX10_together_53 (by decide) (by with_reducible rfl) (by with_reducible rfl) (by omega) (by omega) (fun c53 => ?_) (fun c53 => ?_) | refine V_icmp_le (tgt := 58) dX10_together_53 (by decide) (fun c53 => ?_) (fun c53 => ?_)
                · skip
                  refine V_iconst (v := nI 1) dX10_together_58 (by decide) ?_
                  refine V_istorew4 dX10_together_59 (by decide) rfl ?_
                  exact loop S.1.1 0 h3 (by omega) (fun y y1 y2 => absurd y1 (by omega)) (fun _ _ => rfl) hF3
                · skip
                  omega
              · rw [if_neg (by rw [decide_eq_false h6]; exact Bool.false_ne_true)] at hQ
                refine V_aloadn0 dX10_together_36 ?_
                refine V_getR dX10_together_37 fX10_80 (by first | assumption | rfl) (by first | decide | omega) (by first | assumption | exact ML_4 (by assumption) | exact ML_5 (by assumption) | exact ML_6 (by assumption) | exact ML_7 (by assumption) | exact ML_8 (by assumption) | exact ML_9 (by assumption) | exact ML_10 (by assumption) | exact ML_11 (by assumption) | exact ML_12 (by assumption) | exact ML_13 (by assumption) | exact ML_15 (by assumption) | exact ML_16 (by assumption) | exact ML_17 (by assumption) | exact ML_20 (by assumption) | exact ML_23 (by assumption) | exact ML_24 (by assumption) | exact ML_30 (by assumption) | exact ML_31 (by assumption) | exact ML_32 (by assumption) | exact ML_33 (by assumption) | exact ML_35 (by assumption) | exact ML_36 (by assumption) | exact ML_37 (by assumption) | exact ML_38 (by assumption) | exact ML_41 (by assumption) | exact ML_42 (by assumption) | exact ML_43 (by assumption) | exact ML_44 (by assumption) | exact ML_45 (by assumption) | rfl) ?_
                refine V_callS1 (μ' := mX10_sum) dX10_together_40 okX10_sum lX10_277 (Nat.le_of_ble_eq_true rfl) (Nat.le_of_ble_eq_true rfl) (by omega) ?_
                refine m_sum (L := shL a) (by omega) rfl A1 ?_
                dsimp only [gPush]
                refine V_aloadn0 dX10_together_43 ?_
                refine V_getR dX10_together_44 fX10_89 (by first | assumption | rfl) (by first | decide | omega) (by first | assumption | exact ML_4 (by assumption) | exact ML_5 (by assumption) | exact ML_6 (by assumption) | exact ML_7 (by assumption) | exact ML_8 (by assumption) | exact ML_9 (by assumption) | exact ML_10 (by assumption) | exact ML_11 (by assumption) | exact ML_12 (by assumption) | exact ML_13 (by assumption) | exact ML_15 (by assumption) | exact ML_16 (by assumption) | exact ML_17 (by assumption) | exact ML_20 (by assumption) | exact ML_23 (by assumption) | exact ML_24 (by assumption) | exact ML_30 (by assumption) | exact ML_31 (by assumption) | exact ML_32 (by assumption) | exact ML_33 (by assumption) | exact ML_35 (by assumption) | exact ML_36 (by assumption) | exact ML_37 (by assumption) | exact ML_38 (by assumption) | exact ML_41 (by assumption) | exact ML_42 (by assumption) | exact ML_43 (by assumption) | exact ML_44 (by assumption) | exact ML_45 (by assumption) | rfl) ?_
                refine V_callS1 (μ' := mX10_sum) dX10_together_47 okX10_sum lX10_277 (Nat.le_of_ble_eq_true rfl) (Nat.le_of_ble_eq_true rfl) (by omega) ?_
                refine m_sum (L := shL b) (by omega) rfl A2 ?_
                dsimp only [gPush]
                first | refine U_iadd dX10_together_50 (by with_reducible rfl) (by with_reducible rfl) ?_ | refine V_iadd dX10_together_50 ?_
                refine V_bipush (v := nI 6) dX10_together_51 (by decide) ?_
                first | refine U_icmp_le (tgt := 58) dX10_together_53 (by decide) (by with_reducible rfl) (by with_reducible rfl) (by omega) (by omega) (fun c53 => ?_) (fun c53 => ?_) | refine V_icmp_le (tgt := 58) dX10_together_53 (by decide) (fun c53 => ?_) (fun c53 => ?_)
                · skip
                  omega
                · skip
                  refine V_iconst (v := -1) dX10_together_56 (by decide) ?_
                  refine V_iret dX10_together_57 rfl rfl ?_
                  exact hQ h3 hR3 hF3.D
            refine V_aloadn0 dX10_together_24 ?_
            refine V_iloadn3 dX10_together_25 ?_
            refine V_aloadn0 dX10_together_26 ?_
            refine V_getR dX10_together_27 fX10_83 (by first | assumption | rfl) (by first | decide | omega) (by first | assumption | exact ML_4 (by assumption) | exact ML_5 (by assumption) | exact ML_6 (by assumption) | exact ML_7 (by assumption) | exact ML_8 (by assumption) | exact ML_9 (by assumption) | exact ML_10 (by assumption) | exact ML_11 (by assumption) | exact ML_12 (by assumption) | exact ML_13 (by assumption) | exact ML_15 (by assumption) | exact ML_16 (by assumption) | exact ML_17 (by assumption) | exact ML_20 (by assumption) | exact ML_23 (by assumption) | exact ML_24 (by assumption) | exact ML_30 (by assumption) | exact ML_31 (by assumption) | exact ML_32 (by assumption) | exact ML_33 (by assumption) | exact ML_35 (by assumption) | exact ML_36 (by assumption) | exact ML_37 (by assumption) | exact ML_38 (by assumption) | exact ML_41 (by assumption) | exact ML_42 (by assumption) | exact ML_43 (by assumption) | exact ML_44 (by assumption) | exact ML_45 (by assumption) | rfl) ?_
            refine V_callV2 (μ' := mX10_isShape) dX10_together_30 okX10_isShape lX10_270 rfl (by first | assumption | rfl) (by first | decide | omega) (Nat.le_of_ble_eq_true rfl) (Nat.le_of_ble_eq_true rfl) (by omega) ?_
            refine m_isShape (n := S.1.1) hn5 (by omega) (by omega) rfl r02 (fun h3 a3 hF3 => ?_)
            rw [hs3]
            dsimp only [gPush]
            first | refine U_ifB_eq (tgt := 56) dX10_together_33 (by decide) (by with_reducible rfl) (fun c33 => ?_) (fun c33 => ?_) | refine U_if_eq (tgt := 56) dX10_together_33 (by decide) (by with_reducible rfl) (by omega) (fun c33 => ?_) (fun c33 => ?_) | refine V_if_eq (tgt := 56) dX10_together_33 (by decide) (fun c33 => ?_) (fun c33 => ?_)
            · skip
              cases c33
            · skip
              exact from36 h3 (fun r hr => by rw [hF3.1 116 (by omega)]; exact A1 r hr) (fun r hr => by rw [hF3.1 119 (by omega)]; exact A2 r hr) (a3 hs3) (hF2.tr (hF3.X (by omega)))
        refine V_aloadn0 dX10_together_12 ?_
        refine V_iloadn2 dX10_together_13 ?_
        refine V_aloadn0 dX10_together_14 ?_
        refine V_getR dX10_together_15 fX10_89 (by first | assumption | rfl) (by first | decide | omega) (by first | assumption | exact ML_4 (by assumption) | exact ML_5 (by assumption) | exact ML_6 (by assumption) | exact ML_7 (by assumption) | exact ML_8 (by assumption) | exact ML_9 (by assumption) | exact ML_10 (by assumption) | exact ML_11 (by assumption) | exact ML_12 (by assumption) | exact ML_13 (by assumption) | exact ML_15 (by assumption) | exact ML_16 (by assumption) | exact ML_17 (by assumption) | exact ML_20 (by assumption) | exact ML_23 (by assumption) | exact ML_24 (by assumption) | exact ML_30 (by assumption) | exact ML_31 (by assumption) | exact ML_32 (by assumption) | exact ML_33 (by assumption) | exact ML_35 (by assumption) | exact ML_36 (by assumption) | exact ML_37 (by assumption) | exact ML_38 (by assumption) | exact ML_41 (by assumption) | exact ML_42 (by assumption) | exact ML_43 (by assumption) | exact ML_44 (by assumption) | exact ML_45 (by assumption) | rfl) ?_
        refine V_callV2 (μ' := mX10_isShape) dX10_together_18 okX10_isShape lX10_270 rfl (by first | assumption | rfl) (by first | decide | omega) (Nat.le_of_ble_eq_true rfl) (Nat.le_of_ble_eq_true rfl) (by omega) ?_
        refine m_isShape (n := S.1.1) hn5 (by omega) (by omega) rfl r01 (fun h2 a2 hF2 => ?_)
        rw [hs2]
        dsimp only [gPush]
        first | refine U_ifB_eq (tgt := 56) dX10_together_21 (by decide) (by with_reducible rfl) (fun c21 => ?_) (fun c21 => ?_) | refine U_if_eq (tgt := 56) dX10_together_21 (by decide) (by with_reducible rfl) (by omega) (fun c21 => ?_) (fun c21 => ?_) | refine V_if_eq (tgt := 56) dX10_together_21 (by decide) (fun c21 => ?_) (fun c21 => ?_)
        · skip
          cases c21
        · skip
          exact from24 h2 (fun r hr => by rw [hF2.1 116 (by omega)]; exact A1 r hr) (a2 hs2) (hF1.tr (hF2.X (by omega)))
    refine V_aloadn0 dX10_together_0 ?_
    refine V_iloadn1 dX10_together_1 ?_
    refine V_aloadn0 dX10_together_2 ?_
    refine V_getR dX10_together_3 fX10_80 (by first | assumption | rfl) (by first | decide | omega) (by first | assumption | exact ML_4 (by assumption) | exact ML_5 (by assumption) | exact ML_6 (by assumption) | exact ML_7 (by assumption) | exact ML_8 (by assumption) | exact ML_9 (by assumption) | exact ML_10 (by assumption) | exact ML_11 (by assumption) | exact ML_12 (by assumption) | exact ML_13 (by assumption) | exact ML_15 (by assumption) | exact ML_16 (by assumption) | exact ML_17 (by assumption) | exact ML_20 (by assumption) | exact ML_23 (by assumption) | exact ML_24 (by assumption) | exact ML_30 (by assumption) | exact ML_31 (by assumption) | exact ML_32 (by assumption) | exact ML_33 (by assumption) | exact ML_35 (by assumption) | exact ML_36 (by assumption) | exact ML_37 (by assumption) | exact ML_38 (by assumption) | exact ML_41 (by assumption) | exact ML_42 (by assumption) | exact ML_43 (by assumption) | exact ML_44 (by assumption) | exact ML_45 (by assumption) | rfl) ?_
    refine V_callV2 (μ' := mX10_isShape) dX10_together_6 okX10_isShape lX10_270 rfl (by first | assumption | rfl) (by first | decide | omega) (Nat.le_of_ble_eq_true rfl) (Nat.le_of_ble_eq_true rfl) (by omega) ?_
    refine m_isShape (n := S.1.1) hn5 (by omega) (by omega) rfl r0 (fun h1 a1 hF1 => ?_)
    rw [hs1]
    dsimp only [gPush]
    first | refine U_ifB_eq (tgt := 56) dX10_together_9 (by decide) (by with_reducible rfl) (fun c9 => ?_) (fun c9 => ?_) | refine U_if_eq (tgt := 56) dX10_together_9 (by decide) (by with_reducible rfl) (by omega) (fun c9 => ?_) (fun c9 => ?_) | refine V_if_eq (tgt := 56) dX10_together_9 (by decide) (fun c9 => ?_) (fun c9 => ?_)
    · skip
      cases c9
    · skip
      exact from12 h1 (a1 hs1) (hF1.X (by omega))
end C86
