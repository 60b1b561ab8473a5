/-! ===== the reference: highest, way, pair ===== -/
theorem rLF_at : ∀ (w : List Nat) (k a i : Nat), (∀ j, a ≤ j → j < i → fhC w j = 0) → fhC w i ≠ 0 → a ≤ i → i < a + k → rLF w a k = some (raiseW w i)
  | w, 0, a, i, _, _, h1, h2 => by omega
  | w, k + 1, a, i, hz, hf, h1, h2 => by
    unfold rLF
    by_cases e : a = i
    · subst e; rw [if_pos hf]
    · rw [if_neg (fun q => q (hz a (Nat.le_refl _) (by omega)))]
      exact rLF_at w k (a + 1) i (fun j j1 j2 => hz j (by omega) j2) hf (by omega) (by omega)
theorem rLF_no : ∀ (w : List Nat) (k a : Nat), (∀ j, a ≤ j → j < a + k → fhC w j = 0) → rLF w a k = none
  | w, 0, a, _ => rfl
  | w, k + 1, a, hz => by
    unfold rLF
    rw [if_neg (fun q => q (hz a (Nat.le_refl _) (by omega)))]
    exact rLF_no w k (a + 1) (fun j j1 j2 => hz j (by omega) (by omega))
theorem lLF_at : ∀ (w : List Nat) (k a i : Nat), (∀ j, a ≤ j → j < i → llC w j = 0) → llC w i ≠ 0 → a ≤ i → i < a + k → lLF w a k = some (lowerW w i)
  | w, 0, a, i, _, _, h1, h2 => by omega
  | w, k + 1, a, i, hz, hf, h1, h2 => by
    unfold lLF
    by_cases e : a = i
    · subst e; rw [if_pos hf]
    · rw [if_neg (fun q => q (hz a (Nat.le_refl _) (by omega)))]
      exact lLF_at w k (a + 1) i (fun j j1 j2 => hz j (by omega) j2) hf (by omega) (by omega)
theorem lLF_no : ∀ (w : List Nat) (k a : Nat), (∀ j, a ≤ j → j < a + k → llC w j = 0) → lLF w a k = none
  | w, 0, a, _ => rfl
  | w, k + 1, a, hz => by
    unfold lLF
    rw [if_neg (fun q => q (hz a (Nat.le_refl _) (by omega)))]
    exact lLF_no w k (a + 1) (fun j j1 j2 => hz j (by omega) (by omega))
theorem toTop_no {n f : Nat} {w : List Nat} (h : rLF w 1 (n - 1) = none) : toTop n f w = (0, w) := by
  cases f with
  | zero => rfl
  | succ f => unfold toTop; rw [h]
theorem toTop_s {n f : Nat} {w w' : List Nat} (h : rLF w 1 (n - 1) = some w') : toTop n (f + 1) w = ((toTop n f w').1 + 1, (toTop n f w').2) := by
  conv => lhs; unfold toTop
  rw [h]
theorem toFoot_no {n f : Nat} {w : List Nat} (h : lLF w 1 (n - 1) = none) : toFoot n f w = (0, w) := by
  cases f with
  | zero => rfl
  | succ f => unfold toFoot; rw [h]
theorem toFoot_s {n f : Nat} {w w' : List Nat} (h : lLF w 1 (n - 1) = some w') : toFoot n (f + 1) w = ((toFoot n f w').1 + 1, (toFoot n f w').2) := by
  conv => lhs; unfold toFoot
  rw [h]
section C68
variable {Γ : gM} {d : Nat} {h : gH} {Q : Option Value → gH → Prop} {S : GS}
set_option maxRecDepth 100000 in
set_option maxHeartbeats 4000000 in
theorem m_highestNow {n : Nat} {w : List Nat} (hd : 2 ≤ d) (hn2 : 2 ≤ n) (hn5 : n ≤ 5) (hM : MLay h) (r0 : gI h 94 0 = nI n) (hW : WW h w) (hw : LtW n w) (hQ : ∀ h', WW h' (toTop n 30 w).2 → FrK h h' → Q (some (.int (nI (toTop n 30 w).1))) h') : V Γ mX10_highestNow d 124 124 h 0 [some (.ref 94), none, none, none] [] Q := by
  have w6 := hW.2.2.1
  have hsum : w.sum ≤ 30 := Nat.le_trans (sum_le w hw) (by have := Nat.mul_le_mul hn5 w6; omega)
  generalize hT : toTop n 30 w = T at hQ
  have loop : ∀ m c i u f h1 x3, 10 * u.sum + (n - i) = m → 1 ≤ i → i ≤ n → u.length = w.length → LtW n u → u.sum ≤ f → (∀ j, 1 ≤ j → j < i → fhC u j = 0) → T = (c + (toTop n f u).1, (toTop n f u).2) → WW h1 u → FrK h h1 → V Γ mX10_highestNow d 124 124 h1 4 [some (.ref 94), some (.int (nI c)), some (.int (nI i)), x3] [] Q := by
    intro m
    induction m using Nat.strongRecOn with
    | _ m ih =>
      intro c i u f h1 x3 hm hi1 hin hul hu hf hz hTT hW1 hF1
      have hM1 := MLay_eq hM hF1.2.2.2
      have n1 : gI h1 94 0 = nI n := by rw [hF1.2.1 0 (by omega)]; exact r0
      by_cases hi : i < n
      · by_cases hr : fhC u i ≠ 0
        · have hs := sum_raise (w := u) (by omega) hi1 hr
          obtain ⟨f', rfl⟩ : ∃ f', f = f' + 1 := ⟨f - 1, by omega⟩
          rw [toTop_s (rLF_at u (n - 1) 1 i hz hr hi1 (by omega))] at hTT
          refine V_iloadn2 dX10_highestNow_4 ?_
          refine V_aloadn0 dX10_highestNow_5 ?_
          refine V_getI dX10_highestNow_6 fX10_7 (Or.inl rfl) (by first | assumption | rfl) (by first | decide | omega) (by first | assumption | exact ML_4 (by assumption) | exact ML_5 (by assumption) | exact ML_6 (by assumption) | exact ML_7 (by assumption) | exact ML_8 (by assumption) | exact ML_9 (by assumption) | exact ML_10 (by assumption) | exact ML_11 (by assumption) | exact ML_12 (by assumption) | exact ML_13 (by assumption) | exact ML_15 (by assumption) | exact ML_16 (by assumption) | exact ML_17 (by assumption) | exact ML_20 (by assumption) | exact ML_23 (by assumption) | exact ML_24 (by assumption) | exact ML_30 (by assumption) | exact ML_31 (by assumption) | exact ML_32 (by assumption) | exact ML_33 (by assumption) | exact ML_35 (by assumption) | exact ML_36 (by assumption) | exact ML_37 (by assumption) | exact ML_38 (by assumption) | exact ML_41 (by assumption) | exact ML_42 (by assumption) | exact ML_43 (by assumption) | exact ML_44 (by assumption) | exact ML_45 (by assumption) | rfl) ?_
          first | refine U_icmp_ge (tgt := 45) dX10_highestNow_9 (by decide) (by with_reducible rfl) (by with_reducible rfl) (by omega) (by omega) (fun c9 => ?_) (fun c9 => ?_) | refine V_icmp_ge (tgt := 45) dX10_highestNow_9 (by decide) (fun c9 => ?_) (fun c9 => ?_)
          · skip
            omega
          · skip
            refine V_aloadn0 dX10_highestNow_12 ?_
            refine V_iloadn2 dX10_highestNow_13 ?_
            refine V_callV1 (μ' := mX10_raises) dX10_highestNow_14 okX10_raises lX10_179 rfl (by first | assumption | rfl) (by first | decide | omega) (Nat.le_of_ble_eq_true rfl) (Nat.le_of_ble_eq_true rfl) (by omega) ?_
            refine m_raises (by omega) hM1 hW1 hi1 (by omega) (fun h2 hW2 hF2 => ?_)
            rw [decide_eq_true hr]
            dsimp only [gPush]
            refine V_istoren3 dX10_highestNow_17 (by decide) rfl ?_
            refine V_iloadn1 dX10_highestNow_18 ?_
            refine V_iloadn3 dX10_highestNow_19 ?_
            first | refine U_ifB_eq (tgt := 27) dX10_highestNow_20 (by decide) (by with_reducible rfl) (fun c20 => ?_) (fun c20 => ?_) | refine U_if_eq (tgt := 27) dX10_highestNow_20 (by decide) (by with_reducible rfl) (by omega) (fun c20 => ?_) (fun c20 => ?_) | refine V_if_eq (tgt := 27) dX10_highestNow_20 (by decide) (fun c20 => ?_) (fun c20 => ?_)
            · skip
              cases c20
            · skip
              refine V_iconst (v := nI 1) dX10_highestNow_23 (by decide) ?_
              refine V_goto (tgt := 28) dX10_highestNow_24 (by decide) ?_
              first | refine U_iadd dX10_highestNow_28 (by with_reducible rfl) (by with_reducible rfl) ?_ | refine V_iadd dX10_highestNow_28 ?_
              refine V_istoren1 dX10_highestNow_29 (by decide) rfl ?_
              refine V_iloadn3 dX10_highestNow_30 ?_
              first | refine U_ifB_eq (tgt := 38) dX10_highestNow_31 (by decide) (by with_reducible rfl) (fun c31 => ?_) (fun c31 => ?_) | refine U_if_eq (tgt := 38) dX10_highestNow_31 (by decide) (by with_reducible rfl) (by omega) (fun c31 => ?_) (fun c31 => ?_) | refine V_if_eq (tgt := 38) dX10_highestNow_31 (by decide) (fun c31 => ?_) (fun c31 => ?_)
              · skip
                cases c31
              · skip
                refine V_iconst (v := nI 1) dX10_highestNow_34 (by decide) ?_
                refine V_goto (tgt := 41) dX10_highestNow_35 (by decide) ?_
                refine V_istoren2 dX10_highestNow_41 (by decide) rfl ?_
                refine V_goto (tgt := 4) dX10_highestNow_42 (by decide) ?_
                refine ih (10 * (raiseW u i).sum + (n - 1)) (by omega) (c + 1) 1 (raiseW u i) f' h2 _ rfl (by omega) (by omega) (by rw [raiseW_len]; exact hul) (LtW_raise hu hi1 (by omega)) (by omega) (fun j j1 j2 => by omega) ?_ hW2 (hF1.tr hF2)
                rw [hTT, show c + ((toTop n f' (raiseW u i)).1 + 1) = c + 1 + (toTop n f' (raiseW u i)).1 by omega]
        · have hr0 : fhC u i = 0 := Classical.not_not.mp hr
          have er : raiseW u i = u := by unfold raiseW; rw [if_pos hr0]
          refine V_iloadn2 dX10_highestNow_4 ?_
          refine V_aloadn0 dX10_highestNow_5 ?_
          refine V_getI dX10_highestNow_6 fX10_7 (Or.inl rfl) (by first | assumption | rfl) (by first | decide | omega) (by first | assumption | exact ML_4 (by assumption) | exact ML_5 (by assumption) | exact ML_6 (by assumption) | exact ML_7 (by assumption) | exact ML_8 (by assumption) | exact ML_9 (by assumption) | exact ML_10 (by assumption) | exact ML_11 (by assumption) | exact ML_12 (by assumption) | exact ML_13 (by assumption) | exact ML_15 (by assumption) | exact ML_16 (by assumption) | exact ML_17 (by assumption) | exact ML_20 (by assumption) | exact ML_23 (by assumption) | exact ML_24 (by assumption) | exact ML_30 (by assumption) | exact ML_31 (by assumption) | exact ML_32 (by assumption) | exact ML_33 (by assumption) | exact ML_35 (by assumption) | exact ML_36 (by assumption) | exact ML_37 (by assumption) | exact ML_38 (by assumption) | exact ML_41 (by assumption) | exact ML_42 (by assumption) | exact ML_43 (by assumption) | exact ML_44 (by assumption) | exact ML_45 (by assumption) | rfl) ?_
          first | refine U_icmp_ge (tgt := 45) dX10_highestNow_9 (by decide) (by with_reducible rfl) (by with_reducible rfl) (by omega) (by omega) (fun c9 => ?_) (fun c9 => ?_) | refine V_icmp_ge (tgt := 45) dX10_highestNow_9 (by decide) (fun c9 => ?_) (fun c9 => ?_)
          · skip
            omega
          · skip
            refine V_aloadn0 dX10_highestNow_12 ?_
            refine V_iloadn2 dX10_highestNow_13 ?_
            refine V_callV1 (μ' := mX10_raises) dX10_highestNow_14 okX10_raises lX10_179 rfl (by first | assumption | rfl) (by first | decide | omega) (Nat.le_of_ble_eq_true rfl) (Nat.le_of_ble_eq_true rfl) (by omega) ?_
            refine m_raises (by omega) hM1 hW1 hi1 (by omega) (fun h2 hW2 hF2 => ?_)
            rw [decide_eq_false hr]
            dsimp only [gPush]
            refine V_istoren3 dX10_highestNow_17 (by decide) rfl ?_
            refine V_iloadn1 dX10_highestNow_18 ?_
            refine V_iloadn3 dX10_highestNow_19 ?_
            first | refine U_ifB_eq (tgt := 27) dX10_highestNow_20 (by decide) (by with_reducible rfl) (fun c20 => ?_) (fun c20 => ?_) | refine U_if_eq (tgt := 27) dX10_highestNow_20 (by decide) (by with_reducible rfl) (by omega) (fun c20 => ?_) (fun c20 => ?_) | refine V_if_eq (tgt := 27) dX10_highestNow_20 (by decide) (fun c20 => ?_) (fun c20 => ?_)
            · skip
              refine V_iconst (v := nI 0) dX10_highestNow_27 (by decide) ?_
              first | refine U_iadd dX10_highestNow_28 (by with_reducible rfl) (by with_reducible rfl) ?_ | refine V_iadd dX10_highestNow_28 ?_
              refine V_istoren1 dX10_highestNow_29 (by decide) rfl ?_
              refine V_iloadn3 dX10_highestNow_30 ?_
              first | refine U_ifB_eq (tgt := 38) dX10_highestNow_31 (by decide) (by with_reducible rfl) (fun c31 => ?_) (fun c31 => ?_) | refine U_if_eq (tgt := 38) dX10_highestNow_31 (by decide) (by with_reducible rfl) (by omega) (fun c31 => ?_) (fun c31 => ?_) | refine V_if_eq (tgt := 38) dX10_highestNow_31 (by decide) (fun c31 => ?_) (fun c31 => ?_)
              · skip
                refine V_iloadn2 dX10_highestNow_38 ?_
                refine V_iconst (v := nI 1) dX10_highestNow_39 (by decide) ?_
                first | refine U_iadd dX10_highestNow_40 (by with_reducible rfl) (by with_reducible rfl) ?_ | refine V_iadd dX10_highestNow_40 ?_
                refine V_istoren2 dX10_highestNow_41 (by decide) rfl ?_
                refine V_goto (tgt := 4) dX10_highestNow_42 (by decide) ?_
                rw [er] at hW2
                refine ih (10 * u.sum + (n - (i + 1))) (by omega) (c + 0) (i + 1) u f h2 _ rfl (by omega) (by omega) hul hu hf (fun j j1 j2 => ?_) (by rw [hTT]; rfl) hW2 (hF1.tr hF2)
                by_cases e : j = i
                · rw [e]; exact hr0
                · exact hz j j1 (by omega)
              · skip
                cases c31
            · skip
              cases c20
      · rw [toTop_no (rLF_no u (n - 1) 1 (fun j j1 j2 => hz j j1 (by omega)))] at hTT
        rw [hTT] at hQ
        refine V_iloadn2 dX10_highestNow_4 ?_
        refine V_aloadn0 dX10_highestNow_5 ?_
        refine V_getI dX10_highestNow_6 fX10_7 (Or.inl rfl) (by first | assumption | rfl) (by first | decide | omega) (by first | assumption | exact ML_4 (by assumption) | exact ML_5 (by assumption) | exact ML_6 (by assumption) | exact ML_7 (by assumption) | exact ML_8 (by assumption) | exact ML_9 (by assumption) | exact ML_10 (by assumption) | exact ML_11 (by assumption) | exact ML_12 (by assumption) | exact ML_13 (by assumption) | exact ML_15 (by assumption) | exact ML_16 (by assumption) | exact ML_17 (by assumption) | exact ML_20 (by assumption) | exact ML_23 (by assumption) | exact ML_24 (by assumption) | exact ML_30 (by assumption) | exact ML_31 (by assumption) | exact ML_32 (by assumption) | exact ML_33 (by assumption) | exact ML_35 (by assumption) | exact ML_36 (by assumption) | exact ML_37 (by assumption) | exact ML_38 (by assumption) | exact ML_41 (by assumption) | exact ML_42 (by assumption) | exact ML_43 (by assumption) | exact ML_44 (by assumption) | exact ML_45 (by assumption) | rfl) ?_
        first | refine U_icmp_ge (tgt := 45) dX10_highestNow_9 (by decide) (by with_reducible rfl) (by with_reducible rfl) (by omega) (by omega) (fun c9 => ?_) (fun c9 => ?_) | refine V_icmp_ge (tgt := 45) dX10_highestNow_9 (by decide) (fun c9 => ?_) (fun c9 => ?_)
        · skip
          refine V_iloadn1 dX10_highestNow_45 ?_
          refine V_iret dX10_highestNow_46 rfl rfl ?_
          exact hQ h1 hW1 hF1
        · skip
          omega
  refine V_iconst (v := nI 0) dX10_highestNow_0 (by decide) ?_
  refine V_istoren1 dX10_highestNow_1 (by decide) rfl ?_
  refine V_iconst (v := nI 1) dX10_highestNow_2 (by decide) ?_
  refine V_istoren2 dX10_highestNow_3 (by decide) rfl ?_
  exact loop _ 0 1 w 30 h _ rfl (by omega) (by omega) rfl hw hsum (fun j j1 j2 => by omega) (by rw [← hT, Nat.zero_add]) hW FrK.rf

set_option maxRecDepth 100000 in
set_option maxHeartbeats 4000000 in
theorem m_highest {x y : Int32} (hd : 3 ≤ d) (hR : RM h S) (hWG : WG S) (hQ : ∀ h', RM h' S → FrD h h' → Q (some (.int (g_highest S x y))) h') : V Γ mX10_highest d 124 124 h 0 [some (.ref 94), some (.int x), some (.int y), none] [] Q := by
  obtain ⟨hM, ⟨r0, r1, rT, rW⟩, rK, rK2, rB, rS⟩ := id hR
  obtain ⟨hWS, hWK, hWB, hWX⟩ := id hWG
  have hn2 := hWS.1
  have hn5 := hWS.2.1
  by_cases hg : (inB x 6 && inR y 0 2) = true
  · have hg2 := hg
    rw [Bool.and_eq_true] at hg2
    obtain ⟨s, hs, rfl⟩ := inB_t (by decide) hg2.1
    obtain ⟨k, k0, k2, rfl⟩ := inR_t (by decide) (by decide) hg2.2
    have hWT := hWS.2.2.1 s hs
    obtain ⟨t0, tz⟩ := rT s hs
    have kd2 := hWT.1
    have hwl := hWT.2.1
    have hlt := hWT.2.2.1
    have hsum : (S.1.2.2.1 s).2.1.sum ≤ 30 := Nat.le_trans (sum_le _ hlt) (by
      have := Nat.mul_le_mul hn5 hwl
      omega)
    have tl := (top_ok hn2 hn5 30 _ hwl hlt hsum).1
    have eS : tS S (nI s) = S.1.2.2.1 s := by unfold tS; rw [cN_nI (by omega)]
    have eq0 : g_highest S (nI s) (nI k) = _ := if_t hg
    rw [eq0, eS] at hQ
    refine V_iloadn1 dX10_highest_0 ?_
    refine V_callS1 (μ' := mX10_isSlot) dX10_highest_1 okX10_isSlot lX10_114 (Nat.le_of_ble_eq_true rfl) (Nat.le_of_ble_eq_true rfl) (by omega) ?_
    refine m_isSlot (by omega) ?_
    rw [hg2.1]
    dsimp only [gPush]
    first | refine U_ifB_eq (tgt := 16) dX10_highest_4 (by decide) (by with_reducible rfl) (fun c4 => ?_) (fun c4 => ?_) | refine U_if_eq (tgt := 16) dX10_highest_4 (by decide) (by with_reducible rfl) (by omega) (fun c4 => ?_) (fun c4 => ?_) | refine V_if_eq (tgt := 16) dX10_highest_4 (by decide) (fun c4 => ?_) (fun c4 => ?_)
    · skip
      cases c4
    · skip
      refine V_iloadn2 dX10_highest_7 ?_
      refine V_iconst (v := nI 0) dX10_highest_8 (by decide) ?_
      refine V_iconst (v := nI 2) dX10_highest_9 (by decide) ?_
      refine V_callS3 (μ' := mX10_in) dX10_highest_10 okX10_in lX10_104 (Nat.le_of_ble_eq_true rfl) (Nat.le_of_ble_eq_true rfl) (by omega) ?_
      refine m_inR ?_
      rw [hg2.2]
      dsimp only [gPush]
      first | refine U_ifB_ne (tgt := 18) dX10_highest_13 (by decide) (by with_reducible rfl) (fun c13 => ?_) (fun c13 => ?_) | refine U_if_ne (tgt := 18) dX10_highest_13 (by decide) (by with_reducible rfl) (by omega) (fun c13 => ?_) (fun c13 => ?_) | refine V_if_ne (tgt := 18) dX10_highest_13 (by decide) (fun c13 => ?_) (fun c13 => ?_)
      · skip
        refine V_aloadn0 dX10_highest_18 ?_
        refine V_getR dX10_highest_19 fX10_16 (by first | assumption | rfl) (by first | decide | omega) (by first | assumption | exact ML_4 (by assumption) | exact ML_5 (by assumption) | exact ML_6 (by assumption) | exact ML_7 (by assumption) | exact ML_8 (by assumption) | exact ML_9 (by assumption) | exact ML_10 (by assumption) | exact ML_11 (by assumption) | exact ML_12 (by assumption) | exact ML_13 (by assumption) | exact ML_15 (by assumption) | exact ML_16 (by assumption) | exact ML_17 (by assumption) | exact ML_20 (by assumption) | exact ML_23 (by assumption) | exact ML_24 (by assumption) | exact ML_30 (by assumption) | exact ML_31 (by assumption) | exact ML_32 (by assumption) | exact ML_33 (by assumption) | exact ML_35 (by assumption) | exact ML_36 (by assumption) | exact ML_37 (by assumption) | exact ML_38 (by assumption) | exact ML_41 (by assumption) | exact ML_42 (by assumption) | exact ML_43 (by assumption) | exact ML_44 (by assumption) | exact ML_45 (by assumption) | rfl) ?_
        refine V_iloadn1 dX10_highest_22 ?_
        refine U_iald dX10_highest_23 (by with_reducible rfl) (by first | assumption | rfl) (by first | decide | omega) (by omega) (by first | assumption | exact ML_4 (by assumption) | exact ML_5 (by assumption) | exact ML_6 (by assumption) | exact ML_7 (by assumption) | exact ML_8 (by assumption) | exact ML_9 (by assumption) | exact ML_10 (by assumption) | exact ML_11 (by assumption) | exact ML_12 (by assumption) | exact ML_13 (by assumption) | exact ML_15 (by assumption) | exact ML_16 (by assumption) | exact ML_17 (by assumption) | exact ML_20 (by assumption) | exact ML_23 (by assumption) | exact ML_24 (by assumption) | exact ML_30 (by assumption) | exact ML_31 (by assumption) | exact ML_32 (by assumption) | exact ML_33 (by assumption) | exact ML_35 (by assumption) | exact ML_36 (by assumption) | exact ML_37 (by assumption) | exact ML_38 (by assumption) | exact ML_41 (by assumption) | exact ML_42 (by assumption) | exact ML_43 (by assumption) | exact ML_44 (by assumption) | exact ML_45 (by assumption) | rfl) ?_
        first | refine U_ifB_ne (tgt := 30) dX10_highest_24 (by decide) (by with_reducible rfl) (fun c24 => ?_) (fun c24 => ?_) | refine U_if_ne (tgt := 30) dX10_highest_24 (by decide) (by with_reducible rfl) (by omega) (fun c24 => ?_) (fun c24 => ?_) | refine V_if_ne (tgt := 30) dX10_highest_24 (by decide) (fun c24 => ?_) (fun c24 => ?_)
        · skip
          rw [if_neg c24] at hQ
          refine V_aloadn0 dX10_highest_30 ?_
          refine V_iloadn1 dX10_highest_31 ?_
          refine V_callV1 (μ' := mX10_takes) dX10_highest_32 okX10_takes lX10_146 rfl (by first | assumption | rfl) (by first | decide | omega) (Nat.le_of_ble_eq_true rfl) (Nat.le_of_ble_eq_true rfl) (by omega) ?_
          refine m_takes hs hR hWT hn5 c24 (fun h1 hk1 hW1 hL1 hR1 hF1 => ?_)
          have hM1 := hR1.1
          dsimp only [gPush]
          refine V_aloadn0 dX10_highest_35 ?_
          refine V_callV0 (μ' := mX10_highestNow) dX10_highest_36 okX10_highestNow lX10_224 rfl (by first | assumption | rfl) (by first | decide | omega) (Nat.le_of_ble_eq_true rfl) (Nat.le_of_ble_eq_true rfl) (by omega) ?_
          refine m_highestNow (by omega) hn2 hn5 hM1 hR1.2.1.1 hW1 hlt (fun h2 hW2 hF2 => ?_)
          have hR2 := RM_X hR1 hF2.X
          have hM2 := hR2.1
          have n2 : gI h2 94 0 = nI S.1.1 := hR2.2.1.1
          have hQ' := hQ h2 hR2 (hF1.tr hF2.X).D
          dsimp only [gPush]
          refine V_istoren3 dX10_highest_39 (by decide) rfl ?_
          refine V_iloadn2 dX10_highest_40 ?_
          first | refine U_ifB_ne (tgt := 48) dX10_highest_41 (by decide) (by with_reducible rfl) (fun c41 => ?_) (fun c41 => ?_) | refine U_if_ne (tgt := 48) dX10_highest_41 (by decide) (by with_reducible rfl) (by omega) (fun c41 => ?_) (fun c41 => ?_) | refine V_if_ne (tgt := 48) dX10_highest_41 (by decide) (fun c41 => ?_) (fun c41 => ?_)
          · skip
            rw [if_neg (fun q => c41 ((nI_eq (by omega) (by omega)).mp q))] at hQ'
            refine V_iloadn2 dX10_highest_48 ?_
            refine V_iconst (v := nI 1) dX10_highest_49 (by decide) ?_
            first | refine U_icmp_ne (tgt := 60) dX10_highest_50 (by decide) (by with_reducible rfl) (by with_reducible rfl) (by omega) (by omega) (fun c50 => ?_) (fun c50 => ?_) | refine V_icmp_ne (tgt := 60) dX10_highest_50 (by decide) (fun c50 => ?_) (fun c50 => ?_)
            · skip
              rw [if_neg (fun q => c50 ((nI_eq (by omega) (by omega)).mp q))] at hQ'
              refine V_aloadn0 dX10_highest_60 ?_
              refine V_callV0 (μ' := mX10_content) dX10_highest_61 okX10_content lX10_152 rfl (by first | assumption | rfl) (by first | decide | omega) (Nat.le_of_ble_eq_true rfl) (Nat.le_of_ble_eq_true rfl) (by omega) ?_
              refine m_content hM2 hn5 n2 hW2 ?_
              dsimp only [gPush]
              refine V_iret dX10_highest_64 rfl rfl ?_
              exact hQ'
            · skip
              rw [if_pos (by rw [c50])] at hQ'
              refine V_aloadn0 dX10_highest_53 ?_
              refine V_callV0 (μ' := mX10_read) dX10_highest_54 okX10_read lX10_149 rfl (by first | assumption | rfl) (by first | decide | omega) (Nat.le_of_ble_eq_true rfl) (Nat.le_of_ble_eq_true rfl) (by omega) ?_
              refine m_read hM2 hW2 ?_
              rw [tl]
              dsimp only [gPush]
              refine V_goto (tgt := 64) dX10_highest_57 (by decide) ?_
              refine V_iret dX10_highest_64 rfl rfl ?_
              exact hQ'
          · skip
            rw [if_pos (by rw [c41])] at hQ'
            refine V_iloadn3 dX10_highest_44 ?_
            refine V_goto (tgt := 64) dX10_highest_45 (by decide) ?_
            refine V_iret dX10_highest_64 rfl rfl ?_
            exact hQ'
        · skip
          rw [if_pos c24] at hQ
          have hQ' := hQ h hR FrD.rf
          refine V_bipush (v := -11) dX10_highest_27 (by decide) ?_
          refine V_iret dX10_highest_29 rfl rfl ?_
          exact hQ'
      · skip
        cases c13
  · have hQ9 := hQ h hR FrD.rf
    have eq0 : g_highest S x y = -1 := if_neg hg
    rw [eq0] at hQ9
    refine V_iloadn1 dX10_highest_0 ?_
    refine V_callS1 (μ' := mX10_isSlot) dX10_highest_1 okX10_isSlot lX10_114 (Nat.le_of_ble_eq_true rfl) (Nat.le_of_ble_eq_true rfl) (by omega) ?_
    refine m_isSlot (by omega) ?_
    dsimp only [gPush]
    first | refine U_ifB_eq (tgt := 16) dX10_highest_4 (by decide) (by with_reducible rfl) (fun c4 => ?_) (fun c4 => ?_) | refine U_if_eq (tgt := 16) dX10_highest_4 (by decide) (by with_reducible rfl) (by omega) (fun c4 => ?_) (fun c4 => ?_) | refine V_if_eq (tgt := 16) dX10_highest_4 (by decide) (fun c4 => ?_) (fun c4 => ?_)
    · skip
      refine V_iconst (v := -1) dX10_highest_16 (by decide) ?_
      refine V_iret dX10_highest_17 rfl rfl ?_
      exact hQ9
    · skip
      refine V_iloadn2 dX10_highest_7 ?_
      refine V_iconst (v := nI 0) dX10_highest_8 (by decide) ?_
      refine V_iconst (v := nI 2) dX10_highest_9 (by decide) ?_
      refine V_callS3 (μ' := mX10_in) dX10_highest_10 okX10_in lX10_104 (Nat.le_of_ble_eq_true rfl) (Nat.le_of_ble_eq_true rfl) (by omega) ?_
      refine m_inR ?_
      dsimp only [gPush]
      first | refine U_ifB_ne (tgt := 18) dX10_highest_13 (by decide) (by with_reducible rfl) (fun c13 => ?_) (fun c13 => ?_) | refine U_if_ne (tgt := 18) dX10_highest_13 (by decide) (by with_reducible rfl) (by omega) (fun c13 => ?_) (fun c13 => ?_) | refine V_if_ne (tgt := 18) dX10_highest_13 (by decide) (fun c13 => ?_) (fun c13 => ?_)
      · skip
        exact absurd (by rw [c4, c13]; rfl) hg
      · skip
        refine V_iconst (v := -1) dX10_highest_16 (by decide) ?_
        refine V_iret dX10_highest_17 rfl rfl ?_
        exact hQ9

set_option maxRecDepth 100000 in
set_option maxHeartbeats 4000000 in
theorem m_way {x : Int32} (hd : 3 ≤ d) (hR : RM h S) (hWG : WG S) (hQ : ∀ h', RM h' S → FrD h h' → Q (some (.int (g_way S x))) h') : V Γ mX10_way d 124 124 h 0 [some (.ref 94), some (.int x), none, none, none, none] [] Q := by
  obtain ⟨hM, ⟨r0, r1, rT, rW⟩, rK, rK2, rB, rS⟩ := id hR
  obtain ⟨hWS, hWK, hWB, hWX⟩ := id hWG
  have hn2 := hWS.1
  have hn5 := hWS.2.1
  cases hg : inB x 6 with
  | false =>
    have hQ9 := hQ h hR FrD.rf
    have eq0 : g_way S x = -1 := if_f hg
    rw [eq0] at hQ9
    refine V_iloadn1 dX10_way_0 ?_
    refine V_callS1 (μ' := mX10_isSlot) dX10_way_1 okX10_isSlot lX10_114 (Nat.le_of_ble_eq_true rfl) (Nat.le_of_ble_eq_true rfl) (by omega) ?_
    refine m_isSlot (by omega) ?_
    rw [hg]
    dsimp only [gPush]
    first | refine U_ifB_ne (tgt := 9) dX10_way_4 (by decide) (by with_reducible rfl) (fun c4 => ?_) (fun c4 => ?_) | refine U_if_ne (tgt := 9) dX10_way_4 (by decide) (by with_reducible rfl) (by omega) (fun c4 => ?_) (fun c4 => ?_) | refine V_if_ne (tgt := 9) dX10_way_4 (by decide) (fun c4 => ?_) (fun c4 => ?_)
    · skip
      cases c4
    · skip
      refine V_iconst (v := -1) dX10_way_7 (by decide) ?_
      refine V_iret dX10_way_8 rfl rfl ?_
      exact hQ9
  | true =>
    obtain ⟨s, hs, rfl⟩ := inB_t (by decide) hg
    have hWT := hWS.2.2.1 s hs
    obtain ⟨t0, tz⟩ := rT s hs
    have kd2 := hWT.1
    have hwl := hWT.2.1
    have hlt := hWT.2.2.1
    have hsum : (S.1.2.2.1 s).2.1.sum ≤ 30 := Nat.le_trans (sum_le _ hlt) (by
      have := Nat.mul_le_mul hn5 hwl
      omega)
    obtain ⟨tl, tw, -, -, t30, -⟩ := top_ok hn2 hn5 30 _ hwl hlt hsum
    have eS : tS S (nI s) = S.1.2.2.1 s := by unfold tS; rw [cN_nI (by omega)]
    have eq0 : g_way S (nI s) = _ := if_t hg
    rw [eq0, eS] at hQ
    generalize hc0 : (toTop S.1.1 30 (S.1.2.2.1 s).2.1).1 = c0 at t30
    generalize hv : (toTop S.1.1 30 (S.1.2.2.1 s).2.1).2 = v at tl tw hQ
    have hv30 : S.1.1 * v.length ≤ v.sum + 30 := by
      have := Nat.mul_le_mul hn5 (show v.length ≤ 6 by omega)
      omega
    have loop : ∀ m c i u f h1 x5, 10 * (30 - u.sum) + (S.1.1 - i) = m → (S.1.2.2.1 s).1 ≠ 0 → 1 ≤ i → i ≤ S.1.1 → u.length = v.length → LtW S.1.1 u → S.1.1 * u.length ≤ u.sum + f → (∀ j, 1 ≤ j → j < i → llC u j = 0) → (toFoot S.1.1 30 v) = (c + (toFoot S.1.1 f u).1, (toFoot S.1.1 f u).2) → WW h1 u → RM h1 S → FrX h h1 → V Γ mX10_way d 124 124 h1 36 [some (.ref 94), some (.int (nI s)), some (.int (nI c0)), some (.int (nI c)), some (.int (nI i)), x5] [] Q := by
      intro m
      induction m using Nat.strongRecOn with
      | _ m ih =>
        intro c i u f h1 x5 hm hz1 hi1 hin hul hu hf hz hTT hW1 hR1 hF1
        have hM1 := hR1.1
        have n1 : gI h1 94 0 = nI S.1.1 := hR1.2.1.1
        by_cases hi : i < S.1.1
        · by_cases hr : llC u i ≠ 0
          · have hs' := sum_lower (w := u) (by omega) hi1 hr
            have hle := sum_le (lowerW u i) (LtW_lower hu hi)
            have hll := lowerW_len u i
            have h30 : S.1.1 * (lowerW u i).length ≤ 30 := by
              have := Nat.mul_le_mul hn5 (show (lowerW u i).length ≤ 6 by omega)
              omega
            rw [hll] at hle
            obtain ⟨f', rfl⟩ : ∃ f', f = f' + 1 := ⟨f - 1, by omega⟩
            rw [toFoot_s (lLF_at u (S.1.1 - 1) 1 i hz hr hi1 (by omega))] at hTT
            refine V_iloadw4 dX10_way_36 ?_
            refine V_aloadn0 dX10_way_38 ?_
            refine V_getI dX10_way_39 fX10_7 (Or.inl rfl) (by first | assumption | rfl) (by first | decide | omega) (by first | assumption | exact ML_4 (by assumption) | exact ML_5 (by assumption) | exact ML_6 (by assumption) | exact ML_7 (by assumption) | exact ML_8 (by assumption) | exact ML_9 (by assumption) | exact ML_10 (by assumption) | exact ML_11 (by assumption) | exact ML_12 (by assumption) | exact ML_13 (by assumption) | exact ML_15 (by assumption) | exact ML_16 (by assumption) | exact ML_17 (by assumption) | exact ML_20 (by assumption) | exact ML_23 (by assumption) | exact ML_24 (by assumption) | exact ML_30 (by assumption) | exact ML_31 (by assumption) | exact ML_32 (by assumption) | exact ML_33 (by assumption) | exact ML_35 (by assumption) | exact ML_36 (by assumption) | exact ML_37 (by assumption) | exact ML_38 (by assumption) | exact ML_41 (by assumption) | exact ML_42 (by assumption) | exact ML_43 (by assumption) | exact ML_44 (by assumption) | exact ML_45 (by assumption) | rfl) ?_
            first | refine U_icmp_ge (tgt := 84) dX10_way_42 (by decide) (by with_reducible rfl) (by with_reducible rfl) (by omega) (by omega) (fun c42 => ?_) (fun c42 => ?_) | refine V_icmp_ge (tgt := 84) dX10_way_42 (by decide) (fun c42 => ?_) (fun c42 => ?_)
            · skip
              omega
            · skip
              refine V_aloadn0 dX10_way_45 ?_
              refine V_iloadw4 dX10_way_46 ?_
              refine V_callV1 (μ' := mX10_lowers) dX10_way_48 okX10_lowers lX10_182 rfl (by first | assumption | rfl) (by first | decide | omega) (Nat.le_of_ble_eq_true rfl) (Nat.le_of_ble_eq_true rfl) (by omega) ?_
              refine m_lowers (by omega) hM1 hW1 hi1 (by omega) (fun h2 hW2 hF2 => ?_)
              rw [decide_eq_true hr]
              dsimp only [gPush]
              refine V_istorew5 dX10_way_51 (by decide) rfl ?_
              refine V_iloadn3 dX10_way_53 ?_
              refine V_iloadw5 dX10_way_54 ?_
              first | refine U_ifB_eq (tgt := 63) dX10_way_56 (by decide) (by with_reducible rfl) (fun c56 => ?_) (fun c56 => ?_) | refine U_if_eq (tgt := 63) dX10_way_56 (by decide) (by with_reducible rfl) (by omega) (fun c56 => ?_) (fun c56 => ?_) | refine V_if_eq (tgt := 63) dX10_way_56 (by decide) (fun c56 => ?_) (fun c56 => ?_)
              · skip
                cases c56
              · skip
                refine V_iconst (v := nI 1) dX10_way_59 (by decide) ?_
                refine V_goto (tgt := 64) dX10_way_60 (by decide) ?_
                first | refine U_iadd dX10_way_64 (by with_reducible rfl) (by with_reducible rfl) ?_ | refine V_iadd dX10_way_64 ?_
                refine V_istoren3 dX10_way_65 (by decide) rfl ?_
                refine V_iloadw5 dX10_way_66 ?_
                first | refine U_ifB_eq (tgt := 75) dX10_way_68 (by decide) (by with_reducible rfl) (fun c68 => ?_) (fun c68 => ?_) | refine U_if_eq (tgt := 75) dX10_way_68 (by decide) (by with_reducible rfl) (by omega) (fun c68 => ?_) (fun c68 => ?_) | refine V_if_eq (tgt := 75) dX10_way_68 (by decide) (fun c68 => ?_) (fun c68 => ?_)
                · skip
                  cases c68
                · skip
                  refine V_iconst (v := nI 1) dX10_way_71 (by decide) ?_
                  refine V_goto (tgt := 79) dX10_way_72 (by decide) ?_
                  refine V_istorew4 dX10_way_79 (by decide) rfl ?_
                  refine V_goto (tgt := 36) dX10_way_81 (by decide) ?_
                  refine ih (10 * (30 - (lowerW u i).sum) + (S.1.1 - 1)) (by rw [hll] at h30; omega) (c + 1) 1 (lowerW u i) f' h2 _ rfl hz1 (by omega) (by omega) (by rw [hll]; exact hul) (LtW_lower hu hi) (by rw [hll]; omega) (fun j j1 j2 => by omega) ?_ hW2 (RM_X hR1 hF2.X) (hF1.tr hF2.X)
                  rw [hTT, show c + ((toFoot S.1.1 f' (lowerW u i)).1 + 1) = c + 1 + (toFoot S.1.1 f' (lowerW u i)).1 by omega]
          · have hr0 : llC u i = 0 := Classical.not_not.mp hr
            have er : lowerW u i = u := by unfold lowerW; rw [if_pos hr0]
            refine V_iloadw4 dX10_way_36 ?_
            refine V_aloadn0 dX10_way_38 ?_
            refine V_getI dX10_way_39 fX10_7 (Or.inl rfl) (by first | assumption | rfl) (by first | decide | omega) (by first | assumption | exact ML_4 (by assumption) | exact ML_5 (by assumption) | exact ML_6 (by assumption) | exact ML_7 (by assumption) | exact ML_8 (by assumption) | exact ML_9 (by assumption) | exact ML_10 (by assumption) | exact ML_11 (by assumption) | exact ML_12 (by assumption) | exact ML_13 (by assumption) | exact ML_15 (by assumption) | exact ML_16 (by assumption) | exact ML_17 (by assumption) | exact ML_20 (by assumption) | exact ML_23 (by assumption) | exact ML_24 (by assumption) | exact ML_30 (by assumption) | exact ML_31 (by assumption) | exact ML_32 (by assumption) | exact ML_33 (by assumption) | exact ML_35 (by assumption) | exact ML_36 (by assumption) | exact ML_37 (by assumption) | exact ML_38 (by assumption) | exact ML_41 (by assumption) | exact ML_42 (by assumption) | exact ML_43 (by assumption) | exact ML_44 (by assumption) | exact ML_45 (by assumption) | rfl) ?_
            first | refine U_icmp_ge (tgt := 84) dX10_way_42 (by decide) (by with_reducible rfl) (by with_reducible rfl) (by omega) (by omega) (fun c42 => ?_) (fun c42 => ?_) | refine V_icmp_ge (tgt := 84) dX10_way_42 (by decide) (fun c42 => ?_) (fun c42 => ?_)
            · skip
              omega
            · skip
              refine V_aloadn0 dX10_way_45 ?_
              refine V_iloadw4 dX10_way_46 ?_
              refine V_callV1 (μ' := mX10_lowers) dX10_way_48 okX10_lowers lX10_182 rfl (by first | assumption | rfl) (by first | decide | omega) (Nat.le_of_ble_eq_true rfl) (Nat.le_of_ble_eq_true rfl) (by omega) ?_
              refine m_lowers (by omega) hM1 hW1 hi1 (by omega) (fun h2 hW2 hF2 => ?_)
              rw [decide_eq_false hr]
              dsimp only [gPush]
              refine V_istorew5 dX10_way_51 (by decide) rfl ?_
              refine V_iloadn3 dX10_way_53 ?_
              refine V_iloadw5 dX10_way_54 ?_
              first | refine U_ifB_eq (tgt := 63) dX10_way_56 (by decide) (by with_reducible rfl) (fun c56 => ?_) (fun c56 => ?_) | refine U_if_eq (tgt := 63) dX10_way_56 (by decide) (by with_reducible rfl) (by omega) (fun c56 => ?_) (fun c56 => ?_) | refine V_if_eq (tgt := 63) dX10_way_56 (by decide) (fun c56 => ?_) (fun c56 => ?_)
              · skip
                refine V_iconst (v := nI 0) dX10_way_63 (by decide) ?_
                first | refine U_iadd dX10_way_64 (by with_reducible rfl) (by with_reducible rfl) ?_ | refine V_iadd dX10_way_64 ?_
                refine V_istoren3 dX10_way_65 (by decide) rfl ?_
                refine V_iloadw5 dX10_way_66 ?_
                first | refine U_ifB_eq (tgt := 75) dX10_way_68 (by decide) (by with_reducible rfl) (fun c68 => ?_) (fun c68 => ?_) | refine U_if_eq (tgt := 75) dX10_way_68 (by decide) (by with_reducible rfl) (by omega) (fun c68 => ?_) (fun c68 => ?_) | refine V_if_eq (tgt := 75) dX10_way_68 (by decide) (fun c68 => ?_) (fun c68 => ?_)
                · skip
                  refine V_iloadw4 dX10_way_75 ?_
                  refine V_iconst (v := nI 1) dX10_way_77 (by decide) ?_
                  first | refine U_iadd dX10_way_78 (by with_reducible rfl) (by with_reducible rfl) ?_ | refine V_iadd dX10_way_78 ?_
                  refine V_istorew4 dX10_way_79 (by decide) rfl ?_
                  refine V_goto (tgt := 36) dX10_way_81 (by decide) ?_
                  rw [er] at hW2
                  refine ih (10 * (30 - u.sum) + (S.1.1 - (i + 1))) (by omega) (c + 0) (i + 1) u f h2 _ rfl hz1 (by omega) (by omega) hul hu hf (fun j j1 j2 => ?_) (by rw [hTT]; rfl) hW2 (RM_X hR1 hF2.X) (hF1.tr hF2.X)
                  by_cases e : j = i
                  · rw [e]; exact hr0
                  · exact hz j j1 (by omega)
                · skip
                  cases c68
              · skip
                cases c56
        · rw [toFoot_no (lLF_no u (S.1.1 - 1) 1 (fun j j1 j2 => hz j j1 (by omega)))] at hTT
          rw [if_neg hz1, hTT] at hQ
          have hQ9 := hQ h1 hR1 hF1.D
          refine V_iloadw4 dX10_way_36 ?_
          refine V_aloadn0 dX10_way_38 ?_
          refine V_getI dX10_way_39 fX10_7 (Or.inl rfl) (by first | assumption | rfl) (by first | decide | omega) (by first | assumption | exact ML_4 (by assumption) | exact ML_5 (by assumption) | exact ML_6 (by assumption) | exact ML_7 (by assumption) | exact ML_8 (by assumption) | exact ML_9 (by assumption) | exact ML_10 (by assumption) | exact ML_11 (by assumption) | exact ML_12 (by assumption) | exact ML_13 (by assumption) | exact ML_15 (by assumption) | exact ML_16 (by assumption) | exact ML_17 (by assumption) | exact ML_20 (by assumption) | exact ML_23 (by assumption) | exact ML_24 (by assumption) | exact ML_30 (by assumption) | exact ML_31 (by assumption) | exact ML_32 (by assumption) | exact ML_33 (by assumption) | exact ML_35 (by assumption) | exact ML_36 (by assumption) | exact ML_37 (by assumption) | exact ML_38 (by assumption) | exact ML_41 (by assumption) | exact ML_42 (by assumption) | exact ML_43 (by assumption) | exact ML_44 (by assumption) | exact ML_45 (by assumption) | rfl) ?_
          first | refine U_icmp_ge (tgt := 84) dX10_way_42 (by decide) (by with_reducible rfl) (by with_reducible rfl) (by omega) (by omega) (fun c42 => ?_) (fun c42 => ?_) | refine V_icmp_ge (tgt := 84) dX10_way_42 (by decide) (fun c42 => ?_) (fun c42 => ?_)
          · skip
            refine V_iloadn2 dX10_way_84 ?_
            refine U_if_ge (tgt := 92) dX10_way_85 (by decide) (by with_reducible rfl) (by omega) ?_
            refine V_iloadn3 dX10_way_92 ?_
            refine V_iret dX10_way_93 rfl rfl ?_
            exact hQ9
          · skip
            omega
    refine V_iloadn1 dX10_way_0 ?_
    refine V_callS1 (μ' := mX10_isSlot) dX10_way_1 okX10_isSlot lX10_114 (Nat.le_of_ble_eq_true rfl) (Nat.le_of_ble_eq_true rfl) (by omega) ?_
    refine m_isSlot (by omega) ?_
    rw [hg]
    dsimp only [gPush]
    first | refine U_ifB_ne (tgt := 9) dX10_way_4 (by decide) (by with_reducible rfl) (fun c4 => ?_) (fun c4 => ?_) | refine U_if_ne (tgt := 9) dX10_way_4 (by decide) (by with_reducible rfl) (by omega) (fun c4 => ?_) (fun c4 => ?_) | refine V_if_ne (tgt := 9) dX10_way_4 (by decide) (fun c4 => ?_) (fun c4 => ?_)
    · skip
      refine V_aloadn0 dX10_way_9 ?_
      refine V_getR dX10_way_10 fX10_16 (by first | assumption | rfl) (by first | decide | omega) (by first | assumption | exact ML_4 (by assumption) | exact ML_5 (by assumption) | exact ML_6 (by assumption) | exact ML_7 (by assumption) | exact ML_8 (by assumption) | exact ML_9 (by assumption) | exact ML_10 (by assumption) | exact ML_11 (by assumption) | exact ML_12 (by assumption) | exact ML_13 (by assumption) | exact ML_15 (by assumption) | exact ML_16 (by assumption) | exact ML_17 (by assumption) | exact ML_20 (by assumption) | exact ML_23 (by assumption) | exact ML_24 (by assumption) | exact ML_30 (by assumption) | exact ML_31 (by assumption) | exact ML_32 (by assumption) | exact ML_33 (by assumption) | exact ML_35 (by assumption) | exact ML_36 (by assumption) | exact ML_37 (by assumption) | exact ML_38 (by assumption) | exact ML_41 (by assumption) | exact ML_42 (by assumption) | exact ML_43 (by assumption) | exact ML_44 (by assumption) | exact ML_45 (by assumption) | rfl) ?_
      refine V_iloadn1 dX10_way_13 ?_
      refine U_iald dX10_way_14 (by with_reducible rfl) (by first | assumption | rfl) (by first | decide | omega) (by omega) (by first | assumption | exact ML_4 (by assumption) | exact ML_5 (by assumption) | exact ML_6 (by assumption) | exact ML_7 (by assumption) | exact ML_8 (by assumption) | exact ML_9 (by assumption) | exact ML_10 (by assumption) | exact ML_11 (by assumption) | exact ML_12 (by assumption) | exact ML_13 (by assumption) | exact ML_15 (by assumption) | exact ML_16 (by assumption) | exact ML_17 (by assumption) | exact ML_20 (by assumption) | exact ML_23 (by assumption) | exact ML_24 (by assumption) | exact ML_30 (by assumption) | exact ML_31 (by assumption) | exact ML_32 (by assumption) | exact ML_33 (by assumption) | exact ML_35 (by assumption) | exact ML_36 (by assumption) | exact ML_37 (by assumption) | exact ML_38 (by assumption) | exact ML_41 (by assumption) | exact ML_42 (by assumption) | exact ML_43 (by assumption) | exact ML_44 (by assumption) | exact ML_45 (by assumption) | rfl) ?_
      first | refine U_ifB_ne (tgt := 21) dX10_way_15 (by decide) (by with_reducible rfl) (fun c15 => ?_) (fun c15 => ?_) | refine U_if_ne (tgt := 21) dX10_way_15 (by decide) (by with_reducible rfl) (by omega) (fun c15 => ?_) (fun c15 => ?_) | refine V_if_ne (tgt := 21) dX10_way_15 (by decide) (fun c15 => ?_) (fun c15 => ?_)
      · skip
        refine V_aloadn0 dX10_way_21 ?_
        refine V_iloadn1 dX10_way_22 ?_
        refine V_callV1 (μ' := mX10_takes) dX10_way_23 okX10_takes lX10_146 rfl (by first | assumption | rfl) (by first | decide | omega) (Nat.le_of_ble_eq_true rfl) (Nat.le_of_ble_eq_true rfl) (by omega) ?_
        refine m_takes hs hR hWT hn5 c15 (fun h1 hk1 hW1 hL1 hR1 hF1 => ?_)
        have hM1 := hR1.1
        dsimp only [gPush]
        refine V_aloadn0 dX10_way_26 ?_
        refine V_callV0 (μ' := mX10_highestNow) dX10_way_27 okX10_highestNow lX10_224 rfl (by first | assumption | rfl) (by first | decide | omega) (Nat.le_of_ble_eq_true rfl) (Nat.le_of_ble_eq_true rfl) (by omega) ?_
        refine m_highestNow (by omega) hn2 hn5 hM1 hR1.2.1.1 hW1 hlt (fun h2 hW2 hF2 => ?_)
        rw [hc0]
        rw [hv] at hW2
        dsimp only [gPush]
        refine V_istoren2 dX10_way_30 (by decide) rfl ?_
        refine V_iconst (v := nI 0) dX10_way_31 (by decide) ?_
        refine V_istoren3 dX10_way_32 (by decide) rfl ?_
        refine V_iconst (v := nI 1) dX10_way_33 (by decide) ?_
        refine V_istorew4 dX10_way_34 (by decide) rfl ?_
        exact loop _ 0 1 v 30 h2 _ rfl c15 (by omega) (by omega) rfl tw hv30 (fun j j1 j2 => by omega) (by rw [Nat.zero_add]) hW2 (RM_X hR1 hF2.X) (hF1.tr hF2.X)
      · skip
        rw [if_pos c15] at hQ
        have hQ9 := hQ h hR FrD.rf
        refine V_bipush (v := -11) dX10_way_18 (by decide) ?_
        refine V_iret dX10_way_20 rfl rfl ?_
        exact hQ9
    · skip
      cases c4

end C68
