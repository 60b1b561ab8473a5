/-! ===== the reference: together, whole ===== -/
section C86
variable {Γ : gM} {d : Nat} {h : gH} {Q : Option Value → gH → Prop} {S : GS}
set_option maxRecDepth 100000 in
set_option maxHeartbeats 1000000 in
theorem m_together {a b c : Int32} (hd : 18 ≤ d) (hR : RM h S) (hWG : WG S) (hQ : ∀ h', RM h' S → FrD h h' → Q (some (.int (g_together S a b c))) h') : V Γ mX10_together d 124 124 h 0 [some (.ref 94), some (.int a), some (.int b), some (.int c), none] [] Q := by
  obtain ⟨hM, ⟨r0, r1, rT, rW⟩, rK, rK2, rB, rS⟩ := id hR
  obtain ⟨hWS, hWK, hWB, hWX⟩ := id hWG
  have hn2 := hWS.1
  have hn5 := hWS.2.1
  have h99 := hWS.2.2.2
  unfold g_together at hQ
  cases hs1 : shB S.1.1 a with
  | false =>
    rw [if_neg (by rw [hs1, Bool.false_and]; exact Bool.false_ne_true)] at hQ
    refine V_aloadn0 dX10_together_0 ?_
    refine V_iloadn1 dX10_together_1 ?_
    refine V_aloadn0 dX10_together_2 ?_
    refine V_getR dX10_together_3 fX10_80 (by first | assumption | rfl) (by first | decide | omega) (by first | assumption | exact ML_4 (by assumption) | exact ML_5 (by assumption) | exact ML_6 (by assumption) | exact ML_7 (by assumption) | exact ML_8 (by assumption) | exact ML_9 (by assumption) | exact ML_10 (by assumption) | exact ML_11 (by assumption) | exact ML_12 (by assumption) | exact ML_13 (by assumption) | exact ML_15 (by assumption) | exact ML_16 (by assumption) | exact ML_17 (by assumption) | exact ML_20 (by assumption) | exact ML_23 (by assumption) | exact ML_24 (by assumption) | exact ML_30 (by assumption) | exact ML_31 (by assumption) | exact ML_32 (by assumption) | exact ML_33 (by assumption) | exact ML_35 (by assumption) | exact ML_36 (by assumption) | exact ML_37 (by assumption) | exact ML_38 (by assumption) | exact ML_41 (by assumption) | exact ML_42 (by assumption) | exact ML_43 (by assumption) | exact ML_44 (by assumption) | exact ML_45 (by assumption) | rfl) ?_
    refine V_callV2 (μ' := mX10_isShape) dX10_together_6 okX10_isShape lX10_270 rfl (by first | assumption | rfl) (by first | decide | omega) (Nat.le_of_ble_eq_true rfl) (Nat.le_of_ble_eq_true rfl) (by omega) ?_
    refine m_isShape (n := S.1.1) hn5 (by omega) (by omega) rfl r0 (fun h1 a1 hF1 => ?_)
    rw [hs1]
    dsimp only [gPush]
    first | refine U_ifB_eq (tgt := 56) dX10_together_9 (by decide) (by with_reducible rfl) (fun c9 => ?_) (fun c9 => ?_) | refine U_if_eq (tgt := 56) dX10_together_9 (by decide) (by with_reducible rfl) (by omega) (fun c9 => ?_) (fun c9 => ?_) | refine V_if_eq (tgt := 56) dX10_together_9 (by decide) (fun c9 => ?_) (fun c9 => ?_)
    · skip
      refine V_iconst (v := -1) dX10_together_56 (by decide) ?_
      refine V_iret dX10_together_57 rfl rfl ?_
      exact hQ h1 (RM_X hR (hF1.X (by omega))) (hF1.X (by omega)).D
    · skip
      cases c9
  | true =>
    rw [hs1, Bool.true_and] at hQ
    obtain ⟨hP1, hPl1⟩ := shB_P hn5 hs1
    have from12 : ∀ h1, (∀ r, r < 6 → gI h1 116 r = nI ((shL a).getD r 0)) → FrX h h1 → V Γ mX10_together d 124 124 h1 12 [some (.ref 94), some (.int a), some (.int b), some (.int c), none] [] Q := by
      intro h1 A1 hF1
      have hR1 := RM_X hR hF1
      have hM1 := hR1.1
      have r01 := hR1.2.1.1
      cases hs2 : shB S.1.1 b with
      | false =>
        rw [if_neg (by rw [hs2, Bool.false_and]; exact Bool.false_ne_true)] at hQ
        refine V_aloadn0 dX10_together_12 ?_
        refine V_iloadn2 dX10_together_13 ?_
        refine V_aloadn0 dX10_together_14 ?_
        refine V_getR dX10_together_15 fX10_89 (by first | assumption | rfl) (by first | decide | omega) (by first | assumption | exact ML_4 (by assumption) | exact ML_5 (by assumption) | exact ML_6 (by assumption) | exact ML_7 (by assumption) | exact ML_8 (by assumption) | exact ML_9 (by assumption) | exact ML_10 (by assumption) | exact ML_11 (by assumption) | exact ML_12 (by assumption) | exact ML_13 (by assumption) | exact ML_15 (by assumption) | exact ML_16 (by assumption) | exact ML_17 (by assumption) | exact ML_20 (by assumption) | exact ML_23 (by assumption) | exact ML_24 (by assumption) | exact ML_30 (by assumption) | exact ML_31 (by assumption) | exact ML_32 (by assumption) | exact ML_33 (by assumption) | exact ML_35 (by assumption) | exact ML_36 (by assumption) | exact ML_37 (by assumption) | exact ML_38 (by assumption) | exact ML_41 (by assumption) | exact ML_42 (by assumption) | exact ML_43 (by assumption) | exact ML_44 (by assumption) | exact ML_45 (by assumption) | rfl) ?_
        refine V_callV2 (μ' := mX10_isShape) dX10_together_18 okX10_isShape lX10_270 rfl (by first | assumption | rfl) (by first | decide | omega) (Nat.le_of_ble_eq_true rfl) (Nat.le_of_ble_eq_true rfl) (by omega) ?_
        refine m_isShape (n := S.1.1) hn5 (by omega) (by omega) rfl r01 (fun h2 a2 hF2 => ?_)
        rw [hs2]
        dsimp only [gPush]
        first | refine U_ifB_eq (tgt := 56) dX10_together_21 (by decide) (by with_reducible rfl) (fun c21 => ?_) (fun c21 => ?_) | refine U_if_eq (tgt := 56) dX10_together_21 (by decide) (by with_reducible rfl) (by omega) (fun c21 => ?_) (fun c21 => ?_) | refine V_if_eq (tgt := 56) dX10_together_21 (by decide) (fun c21 => ?_) (fun c21 => ?_)
        · skip
          refine V_iconst (v := -1) dX10_together_56 (by decide) ?_
          refine V_iret dX10_together_57 rfl rfl ?_
          exact hQ h2 (RM_X hR (hF1.tr (hF2.X (by omega)))) (hF1.tr (hF2.X (by omega))).D
        · skip
          cases c21
      | true =>
        rw [hs2, Bool.true_and] at hQ
        obtain ⟨hP2, hPl2⟩ := shB_P hn5 hs2
        have from24 : ∀ h2, (∀ r, r < 6 → gI h2 116 r = nI ((shL a).getD r 0)) → (∀ r, r < 6 → gI h2 119 r = nI ((shL b).getD r 0)) → FrX h h2 → V Γ mX10_together d 124 124 h2 24 [some (.ref 94), some (.int a), some (.int b), some (.int c), none] [] Q := by
          intro h2 A1 A2 hF2
          have hR2 := RM_X hR hF2
          have hM2 := hR2.1
          have r02 := hR2.2.1.1
          sorry
        refine V_aloadn0 dX10_together_12 ?_
        refine V_iloadn2 dX10_together_13 ?_
        refine V_aloadn0 dX10_together_14 ?_
        refine V_getR dX10_together_15 fX10_89 (by first | assumption | rfl) (by first | decide | omega) (by first | assumption | exact ML_4 (by assumption) | exact ML_5 (by assumption) | exact ML_6 (by assumption) | exact ML_7 (by assumption) | exact ML_8 (by assumption) | exact ML_9 (by assumption) | exact ML_10 (by assumption) | exact ML_11 (by assumption) | exact ML_12 (by assumption) | exact ML_13 (by assumption) | exact ML_15 (by assumption) | exact ML_16 (by assumption) | exact ML_17 (by assumption) | exact ML_20 (by assumption) | exact ML_23 (by assumption) | exact ML_24 (by assumption) | exact ML_30 (by assumption) | exact ML_31 (by assumption) | exact ML_32 (by assumption) | exact ML_33 (by assumption) | exact ML_35 (by assumption) | exact ML_36 (by assumption) | exact ML_37 (by assumption) | exact ML_38 (by assumption) | exact ML_41 (by assumption) | exact ML_42 (by assumption) | exact ML_43 (by assumption) | exact ML_44 (by assumption) | exact ML_45 (by assumption) | rfl) ?_
        refine V_callV2 (μ' := mX10_isShape) dX10_together_18 okX10_isShape lX10_270 rfl (by first | assumption | rfl) (by first | decide | omega) (Nat.le_of_ble_eq_true rfl) (Nat.le_of_ble_eq_true rfl) (by omega) ?_
        refine m_isShape (n := S.1.1) hn5 (by omega) (by omega) rfl r01 (fun h2 a2 hF2 => ?_)
        rw [hs2]
        dsimp only [gPush]
        first | refine U_ifB_eq (tgt := 56) dX10_together_21 (by decide) (by with_reducible rfl) (fun c21 => ?_) (fun c21 => ?_) | refine U_if_eq (tgt := 56) dX10_together_21 (by decide) (by with_reducible rfl) (by omega) (fun c21 => ?_) (fun c21 => ?_) | refine V_if_eq (tgt := 56) dX10_together_21 (by decide) (fun c21 => ?_) (fun c21 => ?_)
        · skip
          cases c21
        · skip
          exact from24 h2 (fun r hr => by rw [hF2.1 116 (by omega)]; exact A1 r hr) (a2 hs2) (hF1.tr (hF2.X (by omega)))
    refine V_aloadn0 dX10_together_0 ?_
    refine V_iloadn1 dX10_together_1 ?_
    refine V_aloadn0 dX10_together_2 ?_
    refine V_getR dX10_together_3 fX10_80 (by first | assumption | rfl) (by first | decide | omega) (by first | assumption | exact ML_4 (by assumption) | exact ML_5 (by assumption) | exact ML_6 (by assumption) | exact ML_7 (by assumption) | exact ML_8 (by assumption) | exact ML_9 (by assumption) | exact ML_10 (by assumption) | exact ML_11 (by assumption) | exact ML_12 (by assumption) | exact ML_13 (by assumption) | exact ML_15 (by assumption) | exact ML_16 (by assumption) | exact ML_17 (by assumption) | exact ML_20 (by assumption) | exact ML_23 (by assumption) | exact ML_24 (by assumption) | exact ML_30 (by assumption) | exact ML_31 (by assumption) | exact ML_32 (by assumption) | exact ML_33 (by assumption) | exact ML_35 (by assumption) | exact ML_36 (by assumption) | exact ML_37 (by assumption) | exact ML_38 (by assumption) | exact ML_41 (by assumption) | exact ML_42 (by assumption) | exact ML_43 (by assumption) | exact ML_44 (by assumption) | exact ML_45 (by assumption) | rfl) ?_
    refine V_callV2 (μ' := mX10_isShape) dX10_together_6 okX10_isShape lX10_270 rfl (by first | assumption | rfl) (by first | decide | omega) (Nat.le_of_ble_eq_true rfl) (Nat.le_of_ble_eq_true rfl) (by omega) ?_
    refine m_isShape (n := S.1.1) hn5 (by omega) (by omega) rfl r0 (fun h1 a1 hF1 => ?_)
    rw [hs1]
    dsimp only [gPush]
    first | refine U_ifB_eq (tgt := 56) dX10_together_9 (by decide) (by with_reducible rfl) (fun c9 => ?_) (fun c9 => ?_) | refine U_if_eq (tgt := 56) dX10_together_9 (by decide) (by with_reducible rfl) (by omega) (fun c9 => ?_) (fun c9 => ?_) | refine V_if_eq (tgt := 56) dX10_together_9 (by decide) (fun c9 => ?_) (fun c9 => ?_)
    · skip
      cases c9
    · skip
      exact from12 h1 (a1 hs1) (hF1.X (by omega))
end C86
