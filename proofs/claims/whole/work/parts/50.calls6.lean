/-! ===== the class: acts told, worths, lots, what is kept ===== -/
theorem skp_skp {B : List Nat} {a : Nat} (ha : a ≤ B.length) : skp B (skp B a) = skp B a := by
  have key : ∀ (k a : Nat), B.length - a = k → a ≤ B.length → skp B (skp B a) = skp B a := by
    intro k
    induction k using Nat.strongRecOn with
    | _ k ih =>
      intro a hk hle
      by_cases h : B.length ≤ a ∨ B.getD a 0 ≠ 32
      · rw [skp_stop h, skp_stop h]
      · have h1 : ¬ B.length ≤ a := fun q => h (Or.inl q)
        have h2 : B.getD a 0 = 32 := Classical.byContradiction (fun q => h (Or.inr q))
        rw [skp_blank (by omega) h2]
        exact ih _ (by omega) (a + 1) rfl (by omega)
  exact key _ a rfl ha
theorem doA_nil (n kd : Nat) (w L : List Nat) (c : Nat) : doA n kd [] w L c = (c, w, L) := rfl
theorem doA_cons (n kd : Nat) (q : Nat × Nat) (l : List (Nat × Nat)) (w L : List Nat) (c : Nat) : doA n kd (q :: l) w L c = doA n kd l (pfW q.1 kd w L q.2 n).1 (pfW q.1 kd w L q.2 n).2 (if pfB q.1 kd w L q.2 n then c + 1 else c) := rfl
section C50
variable {Γ : gM} {d : Nat} {h : gH} {Q : Option Value → gH → Prop} {S : GS}
set_option maxRecDepth 100000 in
set_option maxHeartbeats 4000000 in
theorem c_acts {x : Int32} (hd : 7 ≤ d) (hR : RC h S) (hQ : ∀ h', RC h' (f_acts S x).2 → FrC h h' → Q (some (.int (f_acts S x).1)) h') : V Γ mX9_acts d 124 124 h 0 [some (.ref 0), some (.int x), none, none, none] [] Q := by
  obtain ⟨hC, hW, hA, hK, hK2, hB, hSh, hFm⟩ := id hR
  have n0 := hA.1
  have hn2 := hW.1.1
  have hn5 := hW.1.2.1
  cases hg : inB x 6 with
  | false =>
    have eq0 : f_acts S x = (-1, S) := if_f hg
    rw [eq0] at hQ
    have hQ' := hQ h hR FrC.rf
    refine V_iloadn1 dX9_acts_0 ?_
    refine V_callS1 (μ' := mX9_isSlot) dX9_acts_1 okX9_isSlot lX9_91 (Nat.le_of_ble_eq_true rfl) (Nat.le_of_ble_eq_true rfl) (by omega) ?_
    refine c_isSlot ?_
    rw [hg]
    dsimp only [gPush]
    first | refine U_ifB_ne (tgt := 9) dX9_acts_4 (by decide) (by with_reducible rfl) (fun c4 => ?_) (fun c4 => ?_) | refine U_if_ne (tgt := 9) dX9_acts_4 (by decide) (by with_reducible rfl) (by omega) (fun c4 => ?_) (fun c4 => ?_) | refine V_if_ne (tgt := 9) dX9_acts_4 (by decide) (fun c4 => ?_) (fun c4 => ?_)
    · skip
      cases c4
    · skip
      refine V_iconst (v := -1) dX9_acts_7 (by decide) ?_
      refine V_iret dX9_acts_8 rfl rfl ?_
      exact hQ'
  | true =>
    obtain ⟨s, hs, rfl⟩ := inB_t (by decide) hg
    have eS : tS S (nI s) = S.1.2.2.1 s := by unfold tS; rw [cN_nI (by omega)]
    have eq0 : f_acts S (nI s) = _ := if_t hg
    unfold acD at eq0
    rw [eq0, eS, cN_nI (by omega)] at hQ
    obtain ⟨hT, hWT⟩ := RC_slot hR hs
    by_cases hz : (S.1.2.2.1 s).1 = 0
    · rw [if_pos hz] at hQ
      have hQ' := hQ h hR FrC.rf
      refine V_iloadn1 dX9_acts_0 ?_
      refine V_callS1 (μ' := mX9_isSlot) dX9_acts_1 okX9_isSlot lX9_91 (Nat.le_of_ble_eq_true rfl) (Nat.le_of_ble_eq_true rfl) (by omega) ?_
      refine c_isSlot ?_
      rw [hg]
      dsimp only [gPush]
      first | refine U_ifB_ne (tgt := 9) dX9_acts_4 (by decide) (by with_reducible rfl) (fun c4 => ?_) (fun c4 => ?_) | refine U_if_ne (tgt := 9) dX9_acts_4 (by decide) (by with_reducible rfl) (by omega) (fun c4 => ?_) (fun c4 => ?_) | refine V_if_ne (tgt := 9) dX9_acts_4 (by decide) (fun c4 => ?_) (fun c4 => ?_)
      · skip
        refine V_aloadn0 dX9_acts_9 ?_
        refine V_iloadn1 dX9_acts_10 ?_
        refine V_callV1 (μ' := mX9_isHeld) dX9_acts_11 okX9_isHeld lX9_130 rfl (by first | assumption | rfl | exact lay_s0 (by omega) | exact lay_s1 (by omega) | exact lay_s2 (by omega) | exact lay_h0 (by omega) | exact lay_h1 (by omega)) (by first | decide | omega) (Nat.le_of_ble_eq_true rfl) (Nat.le_of_ble_eq_true rfl) (by omega) ?_
        refine c_isHeld hs (CL0_0 hC) (CL1_2 hC) (CL_slot hC hs) (lay_s0 hs) hT.1 hWT.1 ?_
        dsimp only [gPush]
        first | refine U_ifB_ne (tgt := 20) dX9_acts_14 (by decide) (by with_reducible rfl) (fun c14 => ?_) (fun c14 => ?_) | refine U_if_ne (tgt := 20) dX9_acts_14 (by decide) (by with_reducible rfl) (by omega) (fun c14 => ?_) (fun c14 => ?_) | refine V_if_ne (tgt := 20) dX9_acts_14 (by decide) (fun c14 => ?_) (fun c14 => ?_)
        · skip
          exact absurd (of_decide_eq_true c14) (fun q => q hz)
        · skip
          refine V_bipush (v := -11) dX9_acts_17 (by decide) ?_
          refine V_iret dX9_acts_19 rfl rfl ?_
          exact hQ'
      · skip
        cases c4
    rw [if_neg hz] at hQ
    generalize hB0 : S.2.2.1 = B at hB
    have eR : acR S = rdA B S.1.1 60 0 := by unfold acR; rw [hB0]
    generalize hRR : acR S = R at hQ eR
    have fr : ∀ h1, (∀ a, a < 43 ∨ a = 44 ∨ (58 ≤ a ∧ a < 80) ∨ 83 ≤ a → gI h1 a = gI h a) → gL h1 = gL h → gR h1 = gR h → RC (sI h1 43 0 (nI 0)) (setTp S []) ∧ FrC h (sI h1 43 0 (nI 0)) := fun h1 e l k => by
      have e0 : ∀ a, a ≠ 43 → gI (sI h1 43 0 (nI 0)) a = gI h1 a := fun a ha => by
        funext b
        rw [gI_sI, if_neg (fun q => ha q.1)]
      exact ⟨RC_tp hR (fun a ha => by rw [e0 a (by omega)]; exact e a (by omega)) (fun a ha => by rw [gL_sI, l]) (CLay_eq hC k) TpB_nil, ⟨fun a ha => by rw [e0 a (by omega)]; exact e a (by omega), fun a ha => by rw [gL_sI, l], fun a ha => by rw [gR_sI, k]⟩⟩
    have endT : ∀ k h1 a w' L' c', TI h1 80 (S.1.2.2.1 s).1 w' L' → WT S.1.1 ((S.1.2.2.1 s).1, w', L') → R.1 = true → doA S.1.1 (S.1.2.2.1 s).1 R.2.2 (S.1.2.2.1 s).2.1 (S.1.2.2.1 s).2.2 0 = (c', w', L') → TpI h1 B a → (∀ a, a < 43 ∨ a = 44 ∨ (58 ≤ a ∧ a < 80) ∨ 83 ≤ a → gI h1 a = gI h a) → gL h1 = gL h → gR h1 = gR h → V Γ mX9_acts d 124 124 h1 134 [some (.ref 0), some (.int (nI s)), some (.int (nI c')), some (.int (gBo true)), some (.int (nI k))] [] Q := by
      intro k h1 a w' L' c' hT1 hW1 hr1 hdo hI1 e1 l1 k1
      have hC1 := CLay_eq hC k1
      obtain ⟨hR2, f2⟩ := fr h1 e1 l1 k1
      have hC2 := hR2.1
      rw [if_t hr1, hdo] at hQ
      refine V_aloadn0 dX9_acts_134 ?_
      refine V_getR dX9_acts_135 fX9_22 (by first | assumption | rfl | exact lay_s0 (by omega) | exact lay_s1 (by omega) | exact lay_s2 (by omega) | exact lay_h0 (by omega) | exact lay_h1 (by omega)) (by first | decide | omega) (by first | assumption | exact CL0_0 (by assumption) | exact CL0_1 (by assumption) | exact CL0_3 (by assumption) | exact CL0_4 (by assumption) | exact CL0_5 (by assumption) | exact CL0_6 (by assumption) | exact CL0_7 (by assumption) | exact CL0_8 (by assumption) | exact CL0_9 (by assumption) | exact CL0_10 (by assumption) | exact CL0_11 (by assumption) | exact CL0_12 (by assumption) | exact CL0_13 (by assumption) | exact CL1_2 (by assumption) | exact CL1_3 (by assumption) | exact CL80_2 (by assumption) | exact CL_slot (by assumption) (by omega) | exact (CL_sh (by assumption) (by omega)).1 | exact (CL_sh (by assumption) (by omega)).2.1 | rfl) ?_
      refine V_callV0 (μ' := mX7_useUp) dX9_acts_138 okX7_useUp lX9_121 rfl (by first | assumption | rfl | exact lay_s0 (by omega) | exact lay_s1 (by omega) | exact lay_s2 (by omega) | exact lay_h0 (by omega) | exact lay_h1 (by omega)) (by first | decide | omega) (Nat.le_of_ble_eq_true rfl) (Nat.le_of_ble_eq_true rfl) (by omega) ?_
      refine c_useUp ?_
      dsimp only [gPush]
      refine V_iloadn3 dX9_acts_141 ?_
      first | refine U_ifB_ne (tgt := 156) dX9_acts_142 (by decide) (by with_reducible rfl) (fun c142 => ?_) (fun c142 => ?_) | refine U_if_ne (tgt := 156) dX9_acts_142 (by decide) (by with_reducible rfl) (by omega) (fun c142 => ?_) (fun c142 => ?_) | refine V_if_ne (tgt := 156) dX9_acts_142 (by decide) (fun c142 => ?_) (fun c142 => ?_)
      · skip
        refine V_aloadn0 dX9_acts_156 ?_
        refine V_getR dX9_acts_157 fX9_10 (by first | assumption | rfl | exact lay_s0 (by omega) | exact lay_s1 (by omega) | exact lay_s2 (by omega) | exact lay_h0 (by omega) | exact lay_h1 (by omega)) (by first | decide | omega) (by first | assumption | exact CL0_0 (by assumption) | exact CL0_1 (by assumption) | exact CL0_3 (by assumption) | exact CL0_4 (by assumption) | exact CL0_5 (by assumption) | exact CL0_6 (by assumption) | exact CL0_7 (by assumption) | exact CL0_8 (by assumption) | exact CL0_9 (by assumption) | exact CL0_10 (by assumption) | exact CL0_11 (by assumption) | exact CL0_12 (by assumption) | exact CL0_13 (by assumption) | exact CL1_2 (by assumption) | exact CL1_3 (by assumption) | exact CL80_2 (by assumption) | exact CL_slot (by assumption) (by omega) | exact (CL_sh (by assumption) (by omega)).1 | exact (CL_sh (by assumption) (by omega)).2.1 | rfl) ?_
        refine V_getR dX9_acts_160 fX9_99 (by first | assumption | rfl | exact lay_s0 (by omega) | exact lay_s1 (by omega) | exact lay_s2 (by omega) | exact lay_h0 (by omega) | exact lay_h1 (by omega)) (by first | decide | omega) (by first | assumption | exact CL0_0 (by assumption) | exact CL0_1 (by assumption) | exact CL0_3 (by assumption) | exact CL0_4 (by assumption) | exact CL0_5 (by assumption) | exact CL0_6 (by assumption) | exact CL0_7 (by assumption) | exact CL0_8 (by assumption) | exact CL0_9 (by assumption) | exact CL0_10 (by assumption) | exact CL0_11 (by assumption) | exact CL0_12 (by assumption) | exact CL0_13 (by assumption) | exact CL1_2 (by assumption) | exact CL1_3 (by assumption) | exact CL80_2 (by assumption) | exact CL_slot (by assumption) (by omega) | exact (CL_sh (by assumption) (by omega)).1 | exact (CL_sh (by assumption) (by omega)).2.1 | rfl) ?_
        refine V_iloadn1 dX9_acts_163 ?_
        refine U_aald dX9_acts_164 (by with_reducible rfl) (by first | assumption | rfl | exact lay_s0 (by omega) | exact lay_s1 (by omega) | exact lay_s2 (by omega) | exact lay_h0 (by omega) | exact lay_h1 (by omega)) (by decide) (by first | decide | omega) (by omega) (by first | assumption | exact CL0_0 (by assumption) | exact CL0_1 (by assumption) | exact CL0_3 (by assumption) | exact CL0_4 (by assumption) | exact CL0_5 (by assumption) | exact CL0_6 (by assumption) | exact CL0_7 (by assumption) | exact CL0_8 (by assumption) | exact CL0_9 (by assumption) | exact CL0_10 (by assumption) | exact CL0_11 (by assumption) | exact CL0_12 (by assumption) | exact CL0_13 (by assumption) | exact CL1_2 (by assumption) | exact CL1_3 (by assumption) | exact CL80_2 (by assumption) | exact CL_slot (by assumption) (by omega) | exact (CL_sh (by assumption) (by omega)).1 | exact (CL_sh (by assumption) (by omega)).2.1 | rfl) ?_
        refine V_aloadn0 dX9_acts_165 ?_
        refine V_getR dX9_acts_166 fX9_76 (by first | assumption | rfl | exact lay_s0 (by omega) | exact lay_s1 (by omega) | exact lay_s2 (by omega) | exact lay_h0 (by omega) | exact lay_h1 (by omega)) (by first | decide | omega) (by first | assumption | exact CL0_0 (by assumption) | exact CL0_1 (by assumption) | exact CL0_3 (by assumption) | exact CL0_4 (by assumption) | exact CL0_5 (by assumption) | exact CL0_6 (by assumption) | exact CL0_7 (by assumption) | exact CL0_8 (by assumption) | exact CL0_9 (by assumption) | exact CL0_10 (by assumption) | exact CL0_11 (by assumption) | exact CL0_12 (by assumption) | exact CL0_13 (by assumption) | exact CL1_2 (by assumption) | exact CL1_3 (by assumption) | exact CL80_2 (by assumption) | exact CL_slot (by assumption) (by omega) | exact (CL_sh (by assumption) (by omega)).1 | exact (CL_sh (by assumption) (by omega)).2.1 | rfl) ?_
        refine V_callV1 (μ' := mX8_becomeLike) dX9_acts_169 okX8_becomeLike lX9_103 rfl (by first | assumption | rfl | exact lay_s0 (by omega) | exact lay_s1 (by omega) | exact lay_s2 (by omega) | exact lay_h0 (by omega) | exact lay_h1 (by omega)) (by first | decide | omega) (Nat.le_of_ble_eq_true rfl) (Nat.le_of_ble_eq_true rfl) (by omega) ?_
        refine c_becomeLike (by omega) (CL_T hC2 hs) (CL_80 hC2) (TI_fr hT1 (fr_sI (lo := 43) (hi := 44) Fr1.rf (by omega) (by omega)) (by omega)) (by omega) (fun h3 hT3 hF3 => ?_)
        have hQ' := hQ h3 (RC_put hR2 hs hW1 hT3 (hF3.wd (by omega) (by omega))) (f2.tr (hF3.toC (by omega)))
        dsimp only [gPush]
        refine V_iloadn2 dX9_acts_172 ?_
        refine V_iret dX9_acts_173 rfl rfl ?_
        exact hQ'
      · skip
        cases c142
    have endF : ∀ k h1 c', R.1 = false → TpI h1 B R.2.1 → (∀ a, a < 43 ∨ a = 44 ∨ (58 ≤ a ∧ a < 80) ∨ 83 ≤ a → gI h1 a = gI h a) → gL h1 = gL h → gR h1 = gR h → V Γ mX9_acts d 124 124 h1 134 [some (.ref 0), some (.int (nI s)), some (.int (nI c')), some (.int (gBo false)), some (.int (nI k))] [] Q := by
      intro k h1 c' hr1 hI1 e1 l1 k1
      have hC1 := CLay_eq hC k1
      obtain ⟨hR2, f2⟩ := fr h1 e1 l1 k1
      have hC2 := hR2.1
      rw [if_f hr1] at hQ
      have a1 : gI (sI h1 43 0 (nI 0)) 43 1 = nI R.2.1 := by rw [gI_sI, if_neg (by omega)]; exact hI1.2.1
      refine V_aloadn0 dX9_acts_134 ?_
      refine V_getR dX9_acts_135 fX9_22 (by first | assumption | rfl | exact lay_s0 (by omega) | exact lay_s1 (by omega) | exact lay_s2 (by omega) | exact lay_h0 (by omega) | exact lay_h1 (by omega)) (by first | decide | omega) (by first | assumption | exact CL0_0 (by assumption) | exact CL0_1 (by assumption) | exact CL0_3 (by assumption) | exact CL0_4 (by assumption) | exact CL0_5 (by assumption) | exact CL0_6 (by assumption) | exact CL0_7 (by assumption) | exact CL0_8 (by assumption) | exact CL0_9 (by assumption) | exact CL0_10 (by assumption) | exact CL0_11 (by assumption) | exact CL0_12 (by assumption) | exact CL0_13 (by assumption) | exact CL1_2 (by assumption) | exact CL1_3 (by assumption) | exact CL80_2 (by assumption) | exact CL_slot (by assumption) (by omega) | exact (CL_sh (by assumption) (by omega)).1 | exact (CL_sh (by assumption) (by omega)).2.1 | rfl) ?_
      refine V_callV0 (μ' := mX7_useUp) dX9_acts_138 okX7_useUp lX9_121 rfl (by first | assumption | rfl | exact lay_s0 (by omega) | exact lay_s1 (by omega) | exact lay_s2 (by omega) | exact lay_h0 (by omega) | exact lay_h1 (by omega)) (by first | decide | omega) (Nat.le_of_ble_eq_true rfl) (Nat.le_of_ble_eq_true rfl) (by omega) ?_
      refine c_useUp ?_
      dsimp only [gPush]
      refine V_iloadn3 dX9_acts_141 ?_
      first | refine U_ifB_ne (tgt := 156) dX9_acts_142 (by decide) (by with_reducible rfl) (fun c142 => ?_) (fun c142 => ?_) | refine U_if_ne (tgt := 156) dX9_acts_142 (by decide) (by with_reducible rfl) (by omega) (fun c142 => ?_) (fun c142 => ?_) | refine V_if_ne (tgt := 156) dX9_acts_142 (by decide) (fun c142 => ?_) (fun c142 => ?_)
      · skip
        cases c142
      · skip
        refine V_bipush (v := -100) dX9_acts_145 (by decide) ?_
        refine V_aloadn0 dX9_acts_147 ?_
        refine V_getR dX9_acts_148 fX9_22 (by first | assumption | rfl | exact lay_s0 (by omega) | exact lay_s1 (by omega) | exact lay_s2 (by omega) | exact lay_h0 (by omega) | exact lay_h1 (by omega)) (by first | decide | omega) (by first | assumption | exact CL0_0 (by assumption) | exact CL0_1 (by assumption) | exact CL0_3 (by assumption) | exact CL0_4 (by assumption) | exact CL0_5 (by assumption) | exact CL0_6 (by assumption) | exact CL0_7 (by assumption) | exact CL0_8 (by assumption) | exact CL0_9 (by assumption) | exact CL0_10 (by assumption) | exact CL0_11 (by assumption) | exact CL0_12 (by assumption) | exact CL0_13 (by assumption) | exact CL1_2 (by assumption) | exact CL1_3 (by assumption) | exact CL80_2 (by assumption) | exact CL_slot (by assumption) (by omega) | exact (CL_sh (by assumption) (by omega)).1 | exact (CL_sh (by assumption) (by omega)).2.1 | rfl) ?_
        refine V_getI dX9_acts_151 fX9_124 (Or.inl rfl) (by first | assumption | rfl | exact lay_s0 (by omega) | exact lay_s1 (by omega) | exact lay_s2 (by omega) | exact lay_h0 (by omega) | exact lay_h1 (by omega)) (by first | decide | omega) (by first | assumption | exact CL0_0 (by assumption) | exact CL0_1 (by assumption) | exact CL0_3 (by assumption) | exact CL0_4 (by assumption) | exact CL0_5 (by assumption) | exact CL0_6 (by assumption) | exact CL0_7 (by assumption) | exact CL0_8 (by assumption) | exact CL0_9 (by assumption) | exact CL0_10 (by assumption) | exact CL0_11 (by assumption) | exact CL0_12 (by assumption) | exact CL0_13 (by assumption) | exact CL1_2 (by assumption) | exact CL1_3 (by assumption) | exact CL80_2 (by assumption) | exact CL_slot (by assumption) (by omega) | exact (CL_sh (by assumption) (by omega)).1 | exact (CL_sh (by assumption) (by omega)).2.1 | rfl) ?_
        first | refine U_isub dX9_acts_154 (by with_reducible rfl) (by with_reducible rfl) (by omega) ?_ | refine V_isub dX9_acts_154 ?_
        refine V_iret dX9_acts_155 rfl rfl ?_
        exact hQ _ hR2 f2
    have loop : ∀ f k h1 a w' L' c', k + f = 60 → TI h1 80 (S.1.2.2.1 s).1 w' L' → WT S.1.1 ((S.1.2.2.1 s).1, w', L') → R.1 = (rdA B S.1.1 f a).1 → R.2.1 = (rdA B S.1.1 f a).2.1 → doA S.1.1 (S.1.2.2.1 s).1 R.2.2 (S.1.2.2.1 s).2.1 (S.1.2.2.1 s).2.2 0 = doA S.1.1 (S.1.2.2.1 s).1 (rdA B S.1.1 f a).2.2 w' L' c' → TpI h1 B a → (∀ a, a < 43 ∨ a = 44 ∨ (58 ≤ a ∧ a < 80) ∨ 83 ≤ a → gI h1 a = gI h a) → gL h1 = gL h → gR h1 = gR h → V Γ mX9_acts d 124 124 h1 50 [some (.ref 0), some (.int (nI s)), some (.int (nI c')), some (.int (gBo true)), some (.int (nI k))] [] Q := by
      intro f
      induction f with
      | zero =>
        intro k h1 a w' L' c' hk hT1 hW1 hr1 hr2 hdo hI1 e1 l1 k1
        have hC1 := CLay_eq hC k1
        rw [rdA] at hr1 hdo
        rw [doA_nil] at hdo
        refine V_iloadw4 dX9_acts_50 ?_
        refine V_bipush (v := nI 60) dX9_acts_52 (by decide) ?_
        first | refine U_icmp_ge (tgt := 134) dX9_acts_54 (by decide) (by with_reducible rfl) (by with_reducible rfl) (by omega) (by omega) (fun c54 => ?_) (fun c54 => ?_) | refine V_icmp_ge (tgt := 134) dX9_acts_54 (by decide) (fun c54 => ?_) (fun c54 => ?_)
        · skip
          exact endT k h1 a w' L' c' hT1 hW1 hr1 hdo hI1 e1 l1 k1
        · skip
          omega
      | succ f ih =>
        intro k h1 a w' L' c' hk hT1 hW1 hr1 hr2 hdo hI1 e1 l1 k1
        have hC1 := CLay_eq hC k1
        rw [rdA] at hr1 hr2 hdo
        have n1 : gI h1 1 0 = nI S.1.1 := by rw [e1 1 (by omega)]; exact n0
        have hable : a ≤ B.length := hI1.2.2.2.2.2
        refine V_iloadw4 dX9_acts_50 ?_
        refine V_bipush (v := nI 60) dX9_acts_52 (by decide) ?_
        first | refine U_icmp_ge (tgt := 134) dX9_acts_54 (by decide) (by with_reducible rfl) (by with_reducible rfl) (by omega) (by omega) (fun c54 => ?_) (fun c54 => ?_) | refine V_icmp_ge (tgt := 134) dX9_acts_54 (by decide) (fun c54 => ?_) (fun c54 => ?_)
        · skip
          omega
        · skip
          refine V_iloadn3 dX9_acts_57 ?_
          first | refine U_ifB_eq (tgt := 134) dX9_acts_58 (by decide) (by with_reducible rfl) (fun c58 => ?_) (fun c58 => ?_) | refine U_if_eq (tgt := 134) dX9_acts_58 (by decide) (by with_reducible rfl) (by omega) (fun c58 => ?_) (fun c58 => ?_) | refine V_if_eq (tgt := 134) dX9_acts_58 (by decide) (fun c58 => ?_) (fun c58 => ?_)
          · skip
            cases c58
          · skip
            refine V_aloadn0 dX9_acts_61 ?_
            refine V_getR dX9_acts_62 fX9_22 (by first | assumption | rfl | exact lay_s0 (by omega) | exact lay_s1 (by omega) | exact lay_s2 (by omega) | exact lay_h0 (by omega) | exact lay_h1 (by omega)) (by first | decide | omega) (by first | assumption | exact CL0_0 (by assumption) | exact CL0_1 (by assumption) | exact CL0_3 (by assumption) | exact CL0_4 (by assumption) | exact CL0_5 (by assumption) | exact CL0_6 (by assumption) | exact CL0_7 (by assumption) | exact CL0_8 (by assumption) | exact CL0_9 (by assumption) | exact CL0_10 (by assumption) | exact CL0_11 (by assumption) | exact CL0_12 (by assumption) | exact CL0_13 (by assumption) | exact CL1_2 (by assumption) | exact CL1_3 (by assumption) | exact CL80_2 (by assumption) | exact CL_slot (by assumption) (by omega) | exact (CL_sh (by assumption) (by omega)).1 | exact (CL_sh (by assumption) (by omega)).2.1 | rfl) ?_
            refine V_callV0 (μ' := mX7_goesOn) dX9_acts_65 okX7_goesOn lX9_173 rfl (by first | assumption | rfl | exact lay_s0 (by omega) | exact lay_s1 (by omega) | exact lay_s2 (by omega) | exact lay_h0 (by omega) | exact lay_h1 (by omega)) (by first | decide | omega) (Nat.le_of_ble_eq_true rfl) (Nat.le_of_ble_eq_true rfl) (by omega) ?_
            refine c_goesOn (CL43 hC1) hI1 (fun h2 hI2 z2 z3 hF2 => ?_)
            have hC2 := CLay_eq hC1 hF2.2.2
            have e2 : ∀ a, a < 43 ∨ a = 44 ∨ (58 ≤ a ∧ a < 80) ∨ 83 ≤ a → gI h2 a = gI h a := fun a ha => by rw [hF2.1 a (by omega)]; exact e1 a ha
            have l2 : gL h2 = gL h := by rw [hF2.2.1, l1]
            have k2 : gR h2 = gR h := by rw [hF2.2.2, k1]
            have hT2 := TI_fr hT1 hF2 (by omega)
            have n2 : gI h2 1 0 = nI S.1.1 := by rw [hF2.1 1 (by omega)]; exact n1
            dsimp only [gPush]
            first | refine U_ifB_eq (tgt := 134) dX9_acts_68 (by decide) (by with_reducible rfl) (fun c68 => ?_) (fun c68 => ?_) | refine U_if_eq (tgt := 134) dX9_acts_68 (by decide) (by with_reducible rfl) (by omega) (fun c68 => ?_) (fun c68 => ?_) | refine V_if_eq (tgt := 134) dX9_acts_68 (by decide) (fun c68 => ?_) (fun c68 => ?_)
            · skip
              have c68 := of_decide_eq_false c68
              rw [if_neg c68] at hr1 hr2 hdo
              rw [doA_nil] at hdo
              exact endT k h2 _ w' L' c' hT2 hW1 hr1 hdo hI2 e2 l2 k2
            · skip
              have c68 := of_decide_eq_true c68
              rw [if_pos c68] at hr1 hr2 hdo
              refine V_aloadn0 dX9_acts_71 ?_
              refine V_getR dX9_acts_72 fX9_22 (by first | assumption | rfl | exact lay_s0 (by omega) | exact lay_s1 (by omega) | exact lay_s2 (by omega) | exact lay_h0 (by omega) | exact lay_h1 (by omega)) (by first | decide | omega) (by first | assumption | exact CL0_0 (by assumption) | exact CL0_1 (by assumption) | exact CL0_3 (by assumption) | exact CL0_4 (by assumption) | exact CL0_5 (by assumption) | exact CL0_6 (by assumption) | exact CL0_7 (by assumption) | exact CL0_8 (by assumption) | exact CL0_9 (by assumption) | exact CL0_10 (by assumption) | exact CL0_11 (by assumption) | exact CL0_12 (by assumption) | exact CL0_13 (by assumption) | exact CL1_2 (by assumption) | exact CL1_3 (by assumption) | exact CL80_2 (by assumption) | exact CL_slot (by assumption) (by omega) | exact (CL_sh (by assumption) (by omega)).1 | exact (CL_sh (by assumption) (by omega)).2.1 | rfl) ?_
              refine V_aloadn0 dX9_acts_75 ?_
              refine V_getR dX9_acts_76 fX9_10 (by first | assumption | rfl | exact lay_s0 (by omega) | exact lay_s1 (by omega) | exact lay_s2 (by omega) | exact lay_h0 (by omega) | exact lay_h1 (by omega)) (by first | decide | omega) (by first | assumption | exact CL0_0 (by assumption) | exact CL0_1 (by assumption) | exact CL0_3 (by assumption) | exact CL0_4 (by assumption) | exact CL0_5 (by assumption) | exact CL0_6 (by assumption) | exact CL0_7 (by assumption) | exact CL0_8 (by assumption) | exact CL0_9 (by assumption) | exact CL0_10 (by assumption) | exact CL0_11 (by assumption) | exact CL0_12 (by assumption) | exact CL0_13 (by assumption) | exact CL1_2 (by assumption) | exact CL1_3 (by assumption) | exact CL80_2 (by assumption) | exact CL_slot (by assumption) (by omega) | exact (CL_sh (by assumption) (by omega)).1 | exact (CL_sh (by assumption) (by omega)).2.1 | rfl) ?_
              refine V_getI dX9_acts_79 fX9_84 (Or.inl rfl) (by first | assumption | rfl | exact lay_s0 (by omega) | exact lay_s1 (by omega) | exact lay_s2 (by omega) | exact lay_h0 (by omega) | exact lay_h1 (by omega)) (by first | decide | omega) (by first | assumption | exact CL0_0 (by assumption) | exact CL0_1 (by assumption) | exact CL0_3 (by assumption) | exact CL0_4 (by assumption) | exact CL0_5 (by assumption) | exact CL0_6 (by assumption) | exact CL0_7 (by assumption) | exact CL0_8 (by assumption) | exact CL0_9 (by assumption) | exact CL0_10 (by assumption) | exact CL0_11 (by assumption) | exact CL0_12 (by assumption) | exact CL0_13 (by assumption) | exact CL1_2 (by assumption) | exact CL1_3 (by assumption) | exact CL80_2 (by assumption) | exact CL_slot (by assumption) (by omega) | exact (CL_sh (by assumption) (by omega)).1 | exact (CL_sh (by assumption) (by omega)).2.1 | rfl) ?_
              refine V_callV1 (μ' := mX7_readsAct) dX9_acts_82 okX7_readsAct lX9_177 rfl (by first | assumption | rfl | exact lay_s0 (by omega) | exact lay_s1 (by omega) | exact lay_s2 (by omega) | exact lay_h0 (by omega) | exact lay_h1 (by omega)) (by first | decide | omega) (Nat.le_of_ble_eq_true rfl) (Nat.le_of_ble_eq_true rfl) (by omega) ?_
              refine c_readsAct (by omega) (by omega) hn5 (CL43 hC2) hI2 (fun h3 hI3 hst3 hF3 => ?_)
              have hC3 := CLay_eq hC2 hF3.2.2
              have e3 : ∀ a, a < 43 ∨ a = 44 ∨ (58 ≤ a ∧ a < 80) ∨ 83 ≤ a → gI h3 a = gI h a := fun a ha => by rw [hF3.1 a (by omega)]; exact e2 a ha
              have l3 : gL h3 = gL h := by rw [hF3.2.1, l2]
              have k3 : gR h3 = gR h := by rw [hF3.2.2, k2]
              have hT3 := TI_fr hT2 hF3 (by omega)
              have n3 : gI h3 1 0 = nI S.1.1 := by rw [hF3.1 1 (by omega)]; exact n2
              dsimp only [gPush]
              refine V_istoren3 dX9_acts_85 (by decide) rfl ?_
              refine V_iloadn3 dX9_acts_86 ?_
              first | refine U_ifB_eq (tgt := 128) dX9_acts_87 (by decide) (by with_reducible rfl) (fun c87 => ?_) (fun c87 => ?_) | refine U_if_eq (tgt := 128) dX9_acts_87 (by decide) (by with_reducible rfl) (by omega) (fun c87 => ?_) (fun c87 => ?_) | refine V_if_eq (tgt := 128) dX9_acts_87 (by decide) (fun c87 => ?_) (fun c87 => ?_)
              · skip
                rw [if_f c87] at hr1 hr2
                refine V_iinc4 dX9_acts_128 (by exact ginc1 _) (by decide) rfl ?_
                refine V_goto (tgt := 50) dX9_acts_131 (by decide) ?_
                rw [c87]
                have hI3' : TpI h3 B R.2.1 := by rw [hr2]; exact hI3
                refine V_iloadw4 dX9_acts_50 ?_
                refine V_bipush (v := nI 60) dX9_acts_52 (by decide) ?_
                refine U_icmp_ge (tgt := 134) dX9_acts_54 (by decide) (by with_reducible rfl) (by with_reducible rfl) (by omega) (by omega) (fun c54' => ?_) (fun c54' => ?_)
                · exact endF (k + 1) h3 c' hr1 hI3' e3 l3 k3
                refine V_iloadn3 dX9_acts_57 ?_
                refine U_ifB_eq (tgt := 134) dX9_acts_58 (by decide) (by with_reducible rfl) (fun c58' => ?_) (fun c58' => by cases c58')
                exact endF (k + 1) h3 c' hr1 hI3' e3 l3 k3
              · skip
                rw [if_t c87] at hr1 hr2 hdo
                rw [doA_cons] at hdo
                obtain ⟨ok1, ok2, ok3⟩ := raF_ok c87
                obtain ⟨s1, s2⟩ := hst3 c87
                generalize (raF B S.1.1 (skp B a)).2.1 = act at hdo ok1 ok2 s1 s2
                generalize (raF B S.1.1 (skp B a)).2.2.1 = stp at hdo ok2 ok3 s2
                have hj : (if act = 5 then 0 else stp) ≤ 8 := by
                  by_cases q : act = 5
                  · rw [if_pos q]; omega
                  · rw [if_neg q]; have := ok2 q; omega
                have pw : pfW act (S.1.2.2.1 s).1 w' L' stp S.1.1 = pfW act (S.1.2.2.1 s).1 w' L' (if act = 5 then 0 else stp) S.1.1 := by
                  by_cases q : act = 5
                  · subst q; rfl
                  · rw [if_neg q]
                have pb : pfB act (S.1.2.2.1 s).1 w' L' stp S.1.1 = pfB act (S.1.2.2.1 s).1 w' L' (if act = 5 then 0 else stp) S.1.1 := by
                  by_cases q : act = 5
                  · subst q; rfl
                  · rw [if_neg q]
                simp only at hdo
                rw [pw, pb] at hdo
                refine V_aloadn0 dX9_acts_90 ?_
                refine V_getR dX9_acts_91 fX9_35 (by first | assumption | rfl | exact lay_s0 (by omega) | exact lay_s1 (by omega) | exact lay_s2 (by omega) | exact lay_h0 (by omega) | exact lay_h1 (by omega)) (by first | decide | omega) (by first | assumption | exact CL0_0 (by assumption) | exact CL0_1 (by assumption) | exact CL0_3 (by assumption) | exact CL0_4 (by assumption) | exact CL0_5 (by assumption) | exact CL0_6 (by assumption) | exact CL0_7 (by assumption) | exact CL0_8 (by assumption) | exact CL0_9 (by assumption) | exact CL0_10 (by assumption) | exact CL0_11 (by assumption) | exact CL0_12 (by assumption) | exact CL0_13 (by assumption) | exact CL1_2 (by assumption) | exact CL1_3 (by assumption) | exact CL80_2 (by assumption) | exact CL_slot (by assumption) (by omega) | exact (CL_sh (by assumption) (by omega)).1 | exact (CL_sh (by assumption) (by omega)).2.1 | rfl) ?_
                refine V_aloadn0 dX9_acts_94 ?_
                refine V_getR dX9_acts_95 fX9_22 (by first | assumption | rfl | exact lay_s0 (by omega) | exact lay_s1 (by omega) | exact lay_s2 (by omega) | exact lay_h0 (by omega) | exact lay_h1 (by omega)) (by first | decide | omega) (by first | assumption | exact CL0_0 (by assumption) | exact CL0_1 (by assumption) | exact CL0_3 (by assumption) | exact CL0_4 (by assumption) | exact CL0_5 (by assumption) | exact CL0_6 (by assumption) | exact CL0_7 (by assumption) | exact CL0_8 (by assumption) | exact CL0_9 (by assumption) | exact CL0_10 (by assumption) | exact CL0_11 (by assumption) | exact CL0_12 (by assumption) | exact CL0_13 (by assumption) | exact CL1_2 (by assumption) | exact CL1_3 (by assumption) | exact CL80_2 (by assumption) | exact CL_slot (by assumption) (by omega) | exact (CL_sh (by assumption) (by omega)).1 | exact (CL_sh (by assumption) (by omega)).2.1 | rfl) ?_
                refine V_getI dX9_acts_98 fX9_180 (Or.inl rfl) (by first | assumption | rfl | exact lay_s0 (by omega) | exact lay_s1 (by omega) | exact lay_s2 (by omega) | exact lay_h0 (by omega) | exact lay_h1 (by omega)) (by first | decide | omega) (by first | assumption | exact CL0_0 (by assumption) | exact CL0_1 (by assumption) | exact CL0_3 (by assumption) | exact CL0_4 (by assumption) | exact CL0_5 (by assumption) | exact CL0_6 (by assumption) | exact CL0_7 (by assumption) | exact CL0_8 (by assumption) | exact CL0_9 (by assumption) | exact CL0_10 (by assumption) | exact CL0_11 (by assumption) | exact CL0_12 (by assumption) | exact CL0_13 (by assumption) | exact CL1_2 (by assumption) | exact CL1_3 (by assumption) | exact CL80_2 (by assumption) | exact CL_slot (by assumption) (by omega) | exact (CL_sh (by assumption) (by omega)).1 | exact (CL_sh (by assumption) (by omega)).2.1 | rfl) ?_
                refine V_aloadn0 dX9_acts_101 ?_
                refine V_getR dX9_acts_102 fX9_76 (by first | assumption | rfl | exact lay_s0 (by omega) | exact lay_s1 (by omega) | exact lay_s2 (by omega) | exact lay_h0 (by omega) | exact lay_h1 (by omega)) (by first | decide | omega) (by first | assumption | exact CL0_0 (by assumption) | exact CL0_1 (by assumption) | exact CL0_3 (by assumption) | exact CL0_4 (by assumption) | exact CL0_5 (by assumption) | exact CL0_6 (by assumption) | exact CL0_7 (by assumption) | exact CL0_8 (by assumption) | exact CL0_9 (by assumption) | exact CL0_10 (by assumption) | exact CL0_11 (by assumption) | exact CL0_12 (by assumption) | exact CL0_13 (by assumption) | exact CL1_2 (by assumption) | exact CL1_3 (by assumption) | exact CL80_2 (by assumption) | exact CL_slot (by assumption) (by omega) | exact (CL_sh (by assumption) (by omega)).1 | exact (CL_sh (by assumption) (by omega)).2.1 | rfl) ?_
                refine V_aloadn0 dX9_acts_105 ?_
                refine V_getR dX9_acts_106 fX9_22 (by first | assumption | rfl | exact lay_s0 (by omega) | exact lay_s1 (by omega) | exact lay_s2 (by omega) | exact lay_h0 (by omega) | exact lay_h1 (by omega)) (by first | decide | omega) (by first | assumption | exact CL0_0 (by assumption) | exact CL0_1 (by assumption) | exact CL0_3 (by assumption) | exact CL0_4 (by assumption) | exact CL0_5 (by assumption) | exact CL0_6 (by assumption) | exact CL0_7 (by assumption) | exact CL0_8 (by assumption) | exact CL0_9 (by assumption) | exact CL0_10 (by assumption) | exact CL0_11 (by assumption) | exact CL0_12 (by assumption) | exact CL0_13 (by assumption) | exact CL1_2 (by assumption) | exact CL1_3 (by assumption) | exact CL80_2 (by assumption) | exact CL_slot (by assumption) (by omega) | exact (CL_sh (by assumption) (by omega)).1 | exact (CL_sh (by assumption) (by omega)).2.1 | rfl) ?_
                refine V_getI dX9_acts_109 fX9_183 (Or.inl rfl) (by first | assumption | rfl | exact lay_s0 (by omega) | exact lay_s1 (by omega) | exact lay_s2 (by omega) | exact lay_h0 (by omega) | exact lay_h1 (by omega)) (by first | decide | omega) (by first | assumption | exact CL0_0 (by assumption) | exact CL0_1 (by assumption) | exact CL0_3 (by assumption) | exact CL0_4 (by assumption) | exact CL0_5 (by assumption) | exact CL0_6 (by assumption) | exact CL0_7 (by assumption) | exact CL0_8 (by assumption) | exact CL0_9 (by assumption) | exact CL0_10 (by assumption) | exact CL0_11 (by assumption) | exact CL0_12 (by assumption) | exact CL0_13 (by assumption) | exact CL1_2 (by assumption) | exact CL1_3 (by assumption) | exact CL80_2 (by assumption) | exact CL_slot (by assumption) (by omega) | exact (CL_sh (by assumption) (by omega)).1 | exact (CL_sh (by assumption) (by omega)).2.1 | rfl) ?_
                refine V_aloadn0 dX9_acts_112 ?_
                refine V_getR dX9_acts_113 fX9_10 (by first | assumption | rfl | exact lay_s0 (by omega) | exact lay_s1 (by omega) | exact lay_s2 (by omega) | exact lay_h0 (by omega) | exact lay_h1 (by omega)) (by first | decide | omega) (by first | assumption | exact CL0_0 (by assumption) | exact CL0_1 (by assumption) | exact CL0_3 (by assumption) | exact CL0_4 (by assumption) | exact CL0_5 (by assumption) | exact CL0_6 (by assumption) | exact CL0_7 (by assumption) | exact CL0_8 (by assumption) | exact CL0_9 (by assumption) | exact CL0_10 (by assumption) | exact CL0_11 (by assumption) | exact CL0_12 (by assumption) | exact CL0_13 (by assumption) | exact CL1_2 (by assumption) | exact CL1_3 (by assumption) | exact CL80_2 (by assumption) | exact CL_slot (by assumption) (by omega) | exact (CL_sh (by assumption) (by omega)).1 | exact (CL_sh (by assumption) (by omega)).2.1 | rfl) ?_
                refine V_getI dX9_acts_116 fX9_84 (Or.inl rfl) (by first | assumption | rfl | exact lay_s0 (by omega) | exact lay_s1 (by omega) | exact lay_s2 (by omega) | exact lay_h0 (by omega) | exact lay_h1 (by omega)) (by first | decide | omega) (by first | assumption | exact CL0_0 (by assumption) | exact CL0_1 (by assumption) | exact CL0_3 (by assumption) | exact CL0_4 (by assumption) | exact CL0_5 (by assumption) | exact CL0_6 (by assumption) | exact CL0_7 (by assumption) | exact CL0_8 (by assumption) | exact CL0_9 (by assumption) | exact CL0_10 (by assumption) | exact CL0_11 (by assumption) | exact CL0_12 (by assumption) | exact CL0_13 (by assumption) | exact CL1_2 (by assumption) | exact CL1_3 (by assumption) | exact CL80_2 (by assumption) | exact CL_slot (by assumption) (by omega) | exact (CL_sh (by assumption) (by omega)).1 | exact (CL_sh (by assumption) (by omega)).2.1 | rfl) ?_
                refine V_callV4 (μ' := mX3_perform) dX9_acts_119 okX3_perform lX9_166 rfl (by first | assumption | rfl | exact lay_s0 (by omega) | exact lay_s1 (by omega) | exact lay_s2 (by omega) | exact lay_h0 (by omega) | exact lay_h1 (by omega)) (by first | decide | omega) (Nat.le_of_ble_eq_true rfl) (Nat.le_of_ble_eq_true rfl) (by omega) ?_
                refine c_perform (i := if act = 5 then 0 else stp) (by omega) (CL_ML hC3) (CL_80 hC3) hT3 (by omega) (by omega) (fun z => by rw [if_neg z]; exact s2 z) hj hn5 (fun p hp => (hW1.2.2.1 p hp).2) (fun h4 hT4 hF4 => ?_)
                have hC4 := CLay_eq hC3 hF4.2.2
                have e4 : ∀ a, a < 43 ∨ a = 44 ∨ (58 ≤ a ∧ a < 80) ∨ 83 ≤ a → gI h4 a = gI h a := fun a ha => by rw [hF4.1 a (by omega) (by omega)]; exact e3 a ha
                have l4 : gL h4 = gL h := by rw [hF4.2.1, l3]
                have k4 : gR h4 = gR h := by rw [hF4.2.2, k3]
                have hI4 : TpI h4 B (raF B S.1.1 (skp B a)).2.2.2 := by
                  obtain ⟨p0, p1, p2, p3⟩ := hI3
                  exact ⟨by rw [hF4.1 43 (by omega) (by omega)]; exact p0, by rw [hF4.1 43 (by omega) (by omega)]; exact p1, fun p hp => by rw [hF4.1 44 (by omega) (by omega)]; exact p2 p hp, p3⟩
                have hW4 := WT_pf (act := act) (i := if act = 5 then 0 else stp) hW1 hz (fun z => by rw [if_neg z]; exact ok2 z)
                dsimp only [gPush]
                first | refine U_ifB_eq (tgt := 128) dX9_acts_122 (by decide) (by with_reducible rfl) (fun c122 => ?_) (fun c122 => ?_) | refine U_if_eq (tgt := 128) dX9_acts_122 (by decide) (by with_reducible rfl) (by omega) (fun c122 => ?_) (fun c122 => ?_) | refine V_if_eq (tgt := 128) dX9_acts_122 (by decide) (fun c122 => ?_) (fun c122 => ?_)
                · skip
                  rw [if_f c122] at hdo
                  refine V_iinc4 dX9_acts_128 (by exact ginc1 _) (by decide) rfl ?_
                  refine V_goto (tgt := 50) dX9_acts_131 (by decide) ?_
                  rw [c87]
                  exact ih (k + 1) h4 _ _ _ c' (by omega) hT4 hW4 hr1 hr2 hdo hI4 e4 l4 k4
                · skip
                  rw [if_t c122] at hdo
                  refine V_iinc2 dX9_acts_125 (by first | exact ginc1 _ | rfl) (by decide) rfl ?_
                  refine V_iinc4 dX9_acts_128 (by first | exact ginc1 _ | rfl) (by decide) rfl ?_
                  refine V_goto (tgt := 50) dX9_acts_131 (by decide) ?_
                  rw [c87]
                  exact ih (k + 1) h4 _ _ _ (c' + 1) (by omega) hT4 hW4 hr1 hr2 hdo hI4 e4 l4 k4
    refine V_iloadn1 dX9_acts_0 ?_
    refine V_callS1 (μ' := mX9_isSlot) dX9_acts_1 okX9_isSlot lX9_91 (Nat.le_of_ble_eq_true rfl) (Nat.le_of_ble_eq_true rfl) (by omega) ?_
    refine c_isSlot ?_
    rw [hg]
    dsimp only [gPush]
    first | refine U_ifB_ne (tgt := 9) dX9_acts_4 (by decide) (by with_reducible rfl) (fun c4 => ?_) (fun c4 => ?_) | refine U_if_ne (tgt := 9) dX9_acts_4 (by decide) (by with_reducible rfl) (by omega) (fun c4 => ?_) (fun c4 => ?_) | refine V_if_ne (tgt := 9) dX9_acts_4 (by decide) (fun c4 => ?_) (fun c4 => ?_)
    · skip
      refine V_aloadn0 dX9_acts_9 ?_
      refine V_iloadn1 dX9_acts_10 ?_
      refine V_callV1 (μ' := mX9_isHeld) dX9_acts_11 okX9_isHeld lX9_130 rfl (by first | assumption | rfl | exact lay_s0 (by omega) | exact lay_s1 (by omega) | exact lay_s2 (by omega) | exact lay_h0 (by omega) | exact lay_h1 (by omega)) (by first | decide | omega) (Nat.le_of_ble_eq_true rfl) (Nat.le_of_ble_eq_true rfl) (by omega) ?_
      refine c_isHeld hs (CL0_0 hC) (CL1_2 hC) (CL_slot hC hs) (lay_s0 hs) hT.1 hWT.1 ?_
      dsimp only [gPush]
      first | refine U_ifB_ne (tgt := 20) dX9_acts_14 (by decide) (by with_reducible rfl) (fun c14 => ?_) (fun c14 => ?_) | refine U_if_ne (tgt := 20) dX9_acts_14 (by decide) (by with_reducible rfl) (by omega) (fun c14 => ?_) (fun c14 => ?_) | refine V_if_ne (tgt := 20) dX9_acts_14 (by decide) (fun c14 => ?_) (fun c14 => ?_)
      · skip
        refine V_aloadn0 dX9_acts_20 ?_
        refine V_getR dX9_acts_21 fX9_76 (by first | assumption | rfl | exact lay_s0 (by omega) | exact lay_s1 (by omega) | exact lay_s2 (by omega) | exact lay_h0 (by omega) | exact lay_h1 (by omega)) (by first | decide | omega) (by first | assumption | exact CL0_0 (by assumption) | exact CL0_1 (by assumption) | exact CL0_3 (by assumption) | exact CL0_4 (by assumption) | exact CL0_5 (by assumption) | exact CL0_6 (by assumption) | exact CL0_7 (by assumption) | exact CL0_8 (by assumption) | exact CL0_9 (by assumption) | exact CL0_10 (by assumption) | exact CL0_11 (by assumption) | exact CL0_12 (by assumption) | exact CL0_13 (by assumption) | exact CL1_2 (by assumption) | exact CL1_3 (by assumption) | exact CL80_2 (by assumption) | exact CL_slot (by assumption) (by omega) | exact (CL_sh (by assumption) (by omega)).1 | exact (CL_sh (by assumption) (by omega)).2.1 | rfl) ?_
        refine V_aloadn0 dX9_acts_24 ?_
        refine V_getR dX9_acts_25 fX9_10 (by first | assumption | rfl | exact lay_s0 (by omega) | exact lay_s1 (by omega) | exact lay_s2 (by omega) | exact lay_h0 (by omega) | exact lay_h1 (by omega)) (by first | decide | omega) (by first | assumption | exact CL0_0 (by assumption) | exact CL0_1 (by assumption) | exact CL0_3 (by assumption) | exact CL0_4 (by assumption) | exact CL0_5 (by assumption) | exact CL0_6 (by assumption) | exact CL0_7 (by assumption) | exact CL0_8 (by assumption) | exact CL0_9 (by assumption) | exact CL0_10 (by assumption) | exact CL0_11 (by assumption) | exact CL0_12 (by assumption) | exact CL0_13 (by assumption) | exact CL1_2 (by assumption) | exact CL1_3 (by assumption) | exact CL80_2 (by assumption) | exact CL_slot (by assumption) (by omega) | exact (CL_sh (by assumption) (by omega)).1 | exact (CL_sh (by assumption) (by omega)).2.1 | rfl) ?_
        refine V_getR dX9_acts_28 fX9_99 (by first | assumption | rfl | exact lay_s0 (by omega) | exact lay_s1 (by omega) | exact lay_s2 (by omega) | exact lay_h0 (by omega) | exact lay_h1 (by omega)) (by first | decide | omega) (by first | assumption | exact CL0_0 (by assumption) | exact CL0_1 (by assumption) | exact CL0_3 (by assumption) | exact CL0_4 (by assumption) | exact CL0_5 (by assumption) | exact CL0_6 (by assumption) | exact CL0_7 (by assumption) | exact CL0_8 (by assumption) | exact CL0_9 (by assumption) | exact CL0_10 (by assumption) | exact CL0_11 (by assumption) | exact CL0_12 (by assumption) | exact CL0_13 (by assumption) | exact CL1_2 (by assumption) | exact CL1_3 (by assumption) | exact CL80_2 (by assumption) | exact CL_slot (by assumption) (by omega) | exact (CL_sh (by assumption) (by omega)).1 | exact (CL_sh (by assumption) (by omega)).2.1 | rfl) ?_
        refine V_iloadn1 dX9_acts_31 ?_
        refine U_aald dX9_acts_32 (by with_reducible rfl) (by first | assumption | rfl | exact lay_s0 (by omega) | exact lay_s1 (by omega) | exact lay_s2 (by omega) | exact lay_h0 (by omega) | exact lay_h1 (by omega)) (by decide) (by first | decide | omega) (by omega) (by first | assumption | exact CL0_0 (by assumption) | exact CL0_1 (by assumption) | exact CL0_3 (by assumption) | exact CL0_4 (by assumption) | exact CL0_5 (by assumption) | exact CL0_6 (by assumption) | exact CL0_7 (by assumption) | exact CL0_8 (by assumption) | exact CL0_9 (by assumption) | exact CL0_10 (by assumption) | exact CL0_11 (by assumption) | exact CL0_12 (by assumption) | exact CL0_13 (by assumption) | exact CL1_2 (by assumption) | exact CL1_3 (by assumption) | exact CL80_2 (by assumption) | exact CL_slot (by assumption) (by omega) | exact (CL_sh (by assumption) (by omega)).1 | exact (CL_sh (by assumption) (by omega)).2.1 | rfl) ?_
        refine V_callV1 (μ' := mX8_becomeLike) dX9_acts_33 okX8_becomeLike lX9_103 rfl (by first | assumption | rfl | exact lay_s0 (by omega) | exact lay_s1 (by omega) | exact lay_s2 (by omega) | exact lay_h0 (by omega) | exact lay_h1 (by omega)) (by first | decide | omega) (Nat.le_of_ble_eq_true rfl) (Nat.le_of_ble_eq_true rfl) (by omega) ?_
        refine c_becomeLike (by omega) (CL_80 hC) (CL_T hC hs) hT (by omega) (fun h1 hT1 hF1 => ?_)
        have hC1 := CLay_eq hC hF1.2.2
        dsimp only [gPush]
        refine V_aloadn0 dX9_acts_36 ?_
        refine V_getR dX9_acts_37 fX9_22 (by first | assumption | rfl | exact lay_s0 (by omega) | exact lay_s1 (by omega) | exact lay_s2 (by omega) | exact lay_h0 (by omega) | exact lay_h1 (by omega)) (by first | decide | omega) (by first | assumption | exact CL0_0 (by assumption) | exact CL0_1 (by assumption) | exact CL0_3 (by assumption) | exact CL0_4 (by assumption) | exact CL0_5 (by assumption) | exact CL0_6 (by assumption) | exact CL0_7 (by assumption) | exact CL0_8 (by assumption) | exact CL0_9 (by assumption) | exact CL0_10 (by assumption) | exact CL0_11 (by assumption) | exact CL0_12 (by assumption) | exact CL0_13 (by assumption) | exact CL1_2 (by assumption) | exact CL1_3 (by assumption) | exact CL80_2 (by assumption) | exact CL_slot (by assumption) (by omega) | exact (CL_sh (by assumption) (by omega)).1 | exact (CL_sh (by assumption) (by omega)).2.1 | rfl) ?_
        refine V_callV0 (μ' := mX7_rewind) dX9_acts_40 okX7_rewind lX9_170 rfl (by first | assumption | rfl | exact lay_s0 (by omega) | exact lay_s1 (by omega) | exact lay_s2 (by omega) | exact lay_h0 (by omega) | exact lay_h1 (by omega)) (by first | decide | omega) (Nat.le_of_ble_eq_true rfl) (Nat.le_of_ble_eq_true rfl) (by omega) ?_
        refine c_rewind ?_
        dsimp only [gPush]
        refine V_iconst (v := nI 0) dX9_acts_43 (by decide) ?_
        refine V_istoren2 dX9_acts_44 (by decide) rfl ?_
        refine V_iconst (v := nI 1) dX9_acts_45 (by decide) ?_
        refine V_istoren3 dX9_acts_46 (by decide) rfl ?_
        refine V_iconst (v := nI 0) dX9_acts_47 (by decide) ?_
        refine V_istorew4 dX9_acts_48 (by decide) rfl ?_
        exact loop 60 0 _ 0 _ _ 0 rfl (TI_fr hT1 (fr_sI (lo := 43) (hi := 44) Fr1.rf (by omega) (by omega)) (by omega)) hWT (by rw [← eR]) (by rw [← eR]) (by rw [← eR]) (TpB_at (TpB_cg hB (by rw [hF1.1 43 (by omega)]) (hF1.1 44 (by omega))) (Nat.zero_le _)) (fun a ha => by
          funext b
          rw [gI_sI, if_neg (by omega), hF1.1 a (by omega)]) (by rw [gL_sI, hF1.2.1]) (by rw [gR_sI, hF1.2.2])
      · skip
        exact absurd (of_decide_eq_false c14) (fun q => q hz)
    · skip
      cases c4
end C50
