/-! ===== the reference: acts told ===== -/
theorem rdA_0 (B : List Nat) (n a : Nat) : rdA B n 0 a = (true, a, []) := rfl
theorem rdA_s (B : List Nat) (n f a : Nat) : rdA B n (f + 1) a = if skp B a < B.length then (if (raF B n (skp B a)).1 then ((rdA B n f (raF B n (skp B a)).2.2.2).1, (rdA B n f (raF B n (skp B a)).2.2.2).2.1, ((raF B n (skp B a)).2.1, (raF B n (skp B a)).2.2.1) :: (rdA B n f (raF B n (skp B a)).2.2.2).2.2) else (false, (raF B n (skp B a)).2.2.2, [])) else (true, skp B a, []) := rfl
theorem raF_none {B : List Nat} {n p : Nat} (hs : skp B p = p) (hm : nmF B p (eon B p) 0 6 = none) : raF B n p = (false, 0, 0, p) := by
  unfold raF
  rw [hs, hm]
theorem raF_5 {B : List Nat} {n p : Nat} (hs : skp B p = p) (hm : nmF B p (eon B p) 0 6 = some 5) : raF B n p = ((semF B (eon B p)).1, 5, 0, (semF B (eon B p)).2) := by
  unfold raF
  rw [hs, hm]
  rfl
theorem raF_st {B : List Nat} {n p k : Nat} (hs : skp B p = p) (hm : nmF B p (eon B p) 0 6 = some k) (hk : k ≠ 5) (hst : skp B (eon B p) < B.length ∧ 49 ≤ B.getD (skp B (eon B p)) 0 ∧ B.getD (skp B (eon B p)) 0 ≤ 48 + (n - 1)) : raF B n p = ((semF B (skp B (eon B p) + 1)).1, k, B.getD (skp B (eon B p)) 0 - 48, (semF B (skp B (eon B p) + 1)).2) := by
  have e : stpF B n (eon B p) = (true, skp B (eon B p) + 1) := by unfold stpF; rw [if_pos hst]
  unfold raF
  rw [hs, hm]
  simp only [if_neg hk, e, if_true]
theorem raF_sf {B : List Nat} {n p k : Nat} (hs : skp B p = p) (hm : nmF B p (eon B p) 0 6 = some k) (hk : k ≠ 5) (hst : ¬ (skp B (eon B p) < B.length ∧ 49 ≤ B.getD (skp B (eon B p)) 0 ∧ B.getD (skp B (eon B p)) 0 ≤ 48 + (n - 1))) : raF B n p = (false, 0, 0, skp B (eon B p)) := by
  have e : stpF B n (eon B p) = (false, skp B (eon B p)) := by unfold stpF; rw [if_neg hst]
  unfold raF
  rw [hs, hm]
  simp only [if_neg hk, e, Bool.false_eq_true, if_false]
theorem sgn_in : ∀ b, b < 256 → ∀ n, n < 6 → inS (nI b - nI 48) n = decide (49 ≤ b ∧ b ≤ 48 + (n - 1)) := by decide +kernel
theorem sgn_end : ∀ n, n < 6 → inS (-1 - nI 48) n = false := by decide
theorem hr_sgn {B : List Nat} {a n : Nat} (h255 : ∀ p, B.getD p 0 ≤ 255) (hn : n ≤ 5) : inS (hrV B a - nI 48) n = decide (skp B a < B.length ∧ 49 ≤ B.getD (skp B a) 0 ∧ B.getD (skp B a) 0 ≤ 48 + (n - 1)) := by
  unfold hrV
  have := h255 (skp B a)
  by_cases h : skp B a < B.length
  · rw [if_pos h, sgn_in _ (by omega) n (by omega)]
    simp only [h, true_and]
  · rw [if_neg h, sgn_end n (by omega)]
    simp only [h, false_and, decide_false]
theorem hr_59 {B : List Nat} {a : Nat} (h255 : ∀ p, B.getD p 0 ≤ 255) : hrV B a = nI 59 ↔ (skp B a < B.length ∧ B.getD (skp B a) 0 = 59) := by
  unfold hrV
  have := h255 (skp B a)
  by_cases h : skp B a < B.length
  · rw [if_pos h, nI_eq (by omega) (by omega)]
    simp only [h, true_and]
  · rw [if_neg h]
    exact ⟨fun z => absurd z (by decide), fun z => absurd z.1 h⟩
theorem nI_m48 {b : Nat} (h : 48 ≤ b) : nI b - nI 48 = nI (b - 48) := pk_sub h
/-- acts told, in the arrays of the reference -/
def AtL (h : gH) (l : List (Nat × Nat)) : Prop := ∀ j, j < l.length → gI h 111 j = nI (l.getD j (0, 0)).1 ∧ ((l.getD j (0, 0)).1 ≠ 5 → gI h 112 j = nI (l.getD j (0, 0)).2)
theorem AtL_cg {h h' : gH} {l : List (Nat × Nat)} (hT : AtL h l) (a : gI h' 111 = gI h 111) (b : gI h' 112 = gI h 112) : AtL h' l := fun j hj => by rw [a, b]; exact hT j hj
theorem AtL_add {h h' : gH} {l : List (Nat × Nat)} {k i : Nat} (hT : AtL h l) (a : ∀ j, j ≠ l.length → gI h' 111 j = gI h 111 j) (b : ∀ j, j ≠ l.length → gI h' 112 j = gI h 112 j) (a1 : gI h' 111 l.length = nI k) (b1 : k ≠ 5 → gI h' 112 l.length = nI i) : AtL h' (l ++ [(k, i)]) := by
  intro j hj
  rw [List.length_append, List.length_singleton] at hj
  by_cases q : j = l.length
  · subst q
    have e : (l ++ [(k, i)]).getD l.length (0, 0) = (k, i) := by simp [List.getD_eq_getElem?_getD]
    rw [e]
    exact ⟨a1, b1⟩
  · have e : (l ++ [(k, i)]).getD j (0, 0) = l.getD j (0, 0) := by simp [List.getD_eq_getElem?_getD, List.getElem?_append_left (show j < l.length by omega)]
    rw [e, a j q, b j q]
    exact hT j (by omega)
def FrAt (h h' : gH) : Prop := (∀ x b, ¬ (x = 94 ∧ (b = 22 ∨ b = 29)) → x ≠ 111 → x ≠ 112 → gI h' x b = gI h x b) ∧ gL h' = gL h ∧ gR h' = gR h
theorem FrAt.rf {h : gH} : FrAt h h := ⟨fun _ _ _ _ _ => rfl, rfl, rfl⟩
theorem FrAt.tr {h h' h'' : gH} (a : FrAt h h') (b : FrAt h' h'') : FrAt h h'' := ⟨fun x y z u v => (b.1 x y z u v).trans (a.1 x y z u v), b.2.1.trans a.2.1, b.2.2.trans a.2.2⟩
theorem FrH.A {h h' : gH} (a : FrH h h') : FrAt h h' := ⟨fun x b z _ _ => a.1 x b (by omega), a.2.1, a.2.2⟩
theorem fra_sI {h h' : gH} {x k : Nat} {v : Int32} (f : FrAt h h') (hs : (x = 94 ∧ (k = 22 ∨ k = 29)) ∨ x = 111 ∨ x = 112) : FrAt h (sI h' x k v) := ⟨fun y b z u w => by rw [gI_sI, if_neg (by omega)]; exact f.1 y b z u w, f.2.1, f.2.2⟩
theorem MB_A {h h' : gH} {B : List Nat} (hB : MB h B) (a : FrAt h h') : MB h' B := MB_cg hB (a.1 94 21 (by omega) (by omega) (by omega)) (funext (fun b => a.1 108 b (by omega) (by omega) (by omega)))
section C75
variable {Γ : gM} {d : Nat} {h : gH} {Q : Option Value → gH → Prop} {S : GS}
set_option maxRecDepth 100000 in
set_option maxHeartbeats 4000000 in
theorem m_readsActs (hd : 3 ≤ d) (hR : RM h S) (hWG : WG S) (hQt : (acR S).1 = true → ∀ h', RM h' (setTp S []) → FrD h h' → AtL h' (acR S).2.2 → Q (some (.int (nI (acR S).2.2.length))) h') (hQf : (acR S).1 = false → ∀ h', RM h' (setTp S []) → FrD h h' → Q (some (.int (-100 - nI (acR S).2.1))) h') : V Γ mX10_readsActs d 124 124 h 0 [some (.ref 94), none, none] [] Q := by
  obtain ⟨hM, ⟨r0, r1, rT, rW⟩, rK, rK2, rB, rS⟩ := id hR
  obtain ⟨hWS, hWK, hWB, hWX⟩ := id hWG
  have hn2 := hWS.1
  have hn5 := hWS.2.1
  generalize hB0 : S.2.2.1 = B at rB hWB
  obtain ⟨b60, b255⟩ := hWB
  have eR : acR S = rdA B S.1.1 60 0 := by unfold acR; rw [hB0]
  generalize acR S = R at hQt hQf eR
  generalize hn9 : S.1.1 = n at r0 hn2 hn5 eR
  have nil : ∀ h1, gI h1 94 21 = nI 0 → (∀ x b, ¬ (x = 94 ∧ (b = 22 ∨ b = 29 ∨ b = 21)) → x ≠ 111 → x ≠ 112 → gI h1 x b = gI h x b) → gL h1 = gL h → gR h1 = gR h → RM h1 (setTp S []) ∧ FrD h h1 := fun h1 g e l r => ⟨RM_tp hR ⟨g, fun p hp => absurd hp (Nat.not_lt_zero _)⟩ (fun a _ ha => funext (fun b => e a b (by omega) (by omega) (by omega))) (fun k hk => e 94 k (by omega) (by omega) (by omega)) r, ⟨fun a ha => funext (fun b => e a b (by omega) (by omega) (by omega)), fun a ha => by rw [l], r⟩⟩
  have fin : ∀ h2 h1 a, FrAt h h1 → R.1 = false → R.2.1 = skp B a → gI h2 94 21 = nI 0 → (∀ x b, ¬ (x = 94 ∧ (b = 22 ∨ b = 21)) → gI h2 x b = gI h1 x b) → gL h2 = gL h1 → gR h2 = gR h1 → Q (some (.int (-100 - nI (skp B a)))) h2 := by
    intro h2 h1 a hF1 e1 e2 g21 e l r
    obtain ⟨u1, u2⟩ := nil h2 g21 (fun x b z u v => by rw [e x b (by omega)]; exact hF1.1 x b (by omega) u v) (l.trans hF1.2.1) (r.trans hF1.2.2)
    rw [← e2]
    exact hQf e1 h2 u1 u2
  have loop : ∀ f a l h1 x2, 60 ≤ a + f → R.1 = (rdA B n f a).1 → R.2.1 = (rdA B n f a).2.1 → R.2.2 = l ++ (rdA B n f a).2.2 → l.length ≤ a → a ≤ B.length → gI h1 94 22 = nI a → AtL h1 l → FrAt h h1 → V Γ mX10_readsActs d 124 124 h1 7 [some (.ref 94), some (.int (nI l.length)), x2] [] Q := by
    intro f
    induction f with
    | zero =>
      intro a l h1 x2 h60 e1 e2 e3 hla ha g22 hT hF
      rw [rdA_0] at e1 e2 e3
      have hM1 := MLay_eq hM hF.2.2
      have hB1 := MB_A rB hF
      have hsg := skp_ge B a
      have hv : hrV B a = -1 := by unfold hrV; rw [if_neg (by omega)]
      refine V_aloadn0 dX10_readsActs_7 ?_
      refine V_callV0 (μ' := mX10_here) dX10_readsActs_8 okX10_here lX10_133 rfl (by first | assumption | rfl) (by first | decide | omega) (Nat.le_of_ble_eq_true rfl) (Nat.le_of_ble_eq_true rfl) (by omega) ?_
      refine m_here hM1 hB1 b60 b255 g22 ha (fun h2 g2 hF2 => ?_)
      rw [hv]
      dsimp only [gPush]
      refine V_if_lt (tgt := 136) dX10_readsActs_11 (by decide) (fun c11 => ?_) (fun c11 => ?_)
      · skip
        refine V_aloadn0 dX10_readsActs_136 ?_
        refine V_iconst (v := nI 0) dX10_readsActs_137 (by decide) ?_
        refine V_putI dX10_readsActs_138 fX10_125 (by first | assumption | rfl) (by first | decide | omega) ?_
        refine V_iloadn1 dX10_readsActs_141 ?_
        refine V_iret dX10_readsActs_142 rfl rfl ?_
        rw [List.append_nil] at e3
        obtain ⟨u1, u2⟩ := nil (sI h2 94 21 (nI 0)) (by rw [gI_sI, if_pos ⟨rfl, rfl⟩]) (fun x b z u v => by rw [gI_sI, if_neg (by omega)]; exact (hF.tr hF2.A).1 x b (by omega) u v) (hF.tr hF2.A).2.1 (hF.tr hF2.A).2.2
        have hQ9 := hQt e1 _ u1 u2 (by rw [e3]; exact AtL_cg hT (by funext b; rw [gI_sI, if_neg (by omega)]; exact hF2.1 111 b (by omega)) (by funext b; rw [gI_sI, if_neg (by omega)]; exact hF2.1 112 b (by omega)))
        rw [e3] at hQ9
        exact hQ9
      · skip
        exact absurd (show (-1 : Int32) < 0 by decide) c11
    | succ f ih =>
      intro a l h1 x2 h60 e1 e2 e3 hla ha g22 hT hF
      rw [rdA_s] at e1 e2 e3
      have hM1 := MLay_eq hM hF.2.2
      have hB1 := MB_A rB hF
      have hsg := skp_ge B a
      have hsl := skp_le ha
      by_cases hlt : skp B a < B.length
      · rw [if_pos hlt] at e1 e2 e3
        have hv : hrV B a = nI (B.getD (skp B a) 0) := by unfold hrV; rw [if_pos hlt]
        have h9 := b255 (skp B a)
        have hs2 := skp_skp ha
        generalize hp9 : skp B a = p at e1 e2 e3 hsg hsl hlt hv hs2 h9
        have heg := eon_ge B p
        have hel := eon_le hsl
        have first : ∀ h2, gI h2 94 22 = nI p → FrAt h h2 → AtL h2 l → V Γ mX10_readsActs d 124 124 h2 14 [some (.ref 94), some (.int (nI l.length)), x2] [] Q := by
          intro h2 g2 hF2 hT2
          have hM2 := MLay_eq hM hF2.2.2
          have hB2 := MB_A rB hF2
          cases hnm : nmF B p (eon B p) 0 6 with
          | none =>
            rw [raF_none hs2 hnm, if_neg Bool.false_ne_true] at e1 e2
            refine V_aloadn0 dX10_readsActs_14 ?_
            refine V_callV0 (μ' := mX10_name) dX10_readsActs_15 okX10_name lX10_213 rfl (by first | assumption | rfl) (by first | decide | omega) (Nat.le_of_ble_eq_true rfl) (Nat.le_of_ble_eq_true rfl) (by omega) ?_
            refine m_name (by omega) hM2 hB2 b60 b255 g2 hsl (fun h3 g29 e' l' r' haz => ?_)
            have hF3 : FrAt h h3 := hF2.tr ⟨fun x b z _ _ => e' x b (by omega), l', r'⟩
            have hM3 := MLay_eq hM hF3.2.2
            have hB3 := MB_A rB hF3
            have g3 : gI h3 94 22 = nI p := by rw [e' 94 22 (by omega)]; exact g2
            have hao := ao_nm haz
            rw [hnm] at hao
            dsimp only at hao
            dsimp only [gPush]
            refine V_callS1 (μ' := mX10_actOf) dX10_readsActs_18 okX10_actOf lX10_217 (Nat.le_of_ble_eq_true rfl) (Nat.le_of_ble_eq_true rfl) (by omega) ?_
            refine m_actOf ?_
            rw [hao]
            dsimp only [gPush]
            refine V_istoren2 dX10_readsActs_21 (by decide) rfl ?_
            refine V_iloadn2 dX10_readsActs_22 ?_
            refine V_if_ge (tgt := 31) dX10_readsActs_23 (by decide) (fun c23 => ?_) (fun c23 => ?_)
            · skip
              exact absurd c23 (by decide)
            · skip
              refine V_aloadn0 dX10_readsActs_26 ?_
              refine V_callV0 (μ' := mX10_fault) dX10_readsActs_27 okX10_fault lX10_140 rfl (by first | assumption | rfl) (by first | decide | omega) (Nat.le_of_ble_eq_true rfl) (Nat.le_of_ble_eq_true rfl) (by omega) ?_
              refine m_fault (by omega) hM3 hB3 b60 b255 g3 hsl (fun h4 g21 e4 l4 r4 => ?_)
              have hQ9 := fin h4 h3 p hF3 e1 (by rw [e2, hs2]) g21 e4 l4 r4
              dsimp only [gPush]
              refine V_iret dX10_readsActs_30 rfl rfl ?_
              exact hQ9
          | some k =>
            have hk6 := nmF_lt _ _ _ _ _ _ hnm
            have tail : ∀ h6 a' i, a' ≤ B.length → eon B p ≤ a' → gI h6 94 22 = nI a' → AtL h6 (l ++ [(k, i)]) → FrAt h h6 → raF B n p = ((semF B a').1, k, i, (semF B a').2) → V Γ mX10_readsActs d 124 124 h6 106 [some (.ref 94), some (.int (nI l.length)), some (.int (nI k))] [] Q := by
              intro h6 a' i ha' hea g6 hT6 hF6 hra
              rw [hra] at e1 e2 e3
              have hM6 := MLay_eq hM hF6.2.2
              have hB6 := MB_A rB hF6
              have hag := skp_ge B a'
              have hal := skp_le ha'
              have hs3 := skp_skp ha'
              by_cases h59 : skp B a' < B.length ∧ B.getD (skp B a') 0 = 59
              · have e9 : semF B a' = (true, skp B a' + 1) := by unfold semF; rw [if_pos h59]
                have hv9 : hrV B a' = nI 59 := (hr_59 b255).mpr h59
                rw [e9] at e1 e2 e3
                simp only [if_true] at e1 e2 e3
                refine V_aloadn0 dX10_readsActs_106 ?_
                refine V_callV0 (μ' := mX10_here) dX10_readsActs_107 okX10_here lX10_133 rfl (by first | assumption | rfl) (by first | decide | omega) (Nat.le_of_ble_eq_true rfl) (Nat.le_of_ble_eq_true rfl) (by omega) ?_
                refine m_here hM6 hB6 b60 b255 g6 ha' (fun h7 g7 hF7 => ?_)
                rw [hv9]
                have hM7 := MLay_eq hM6 hF7.2.2
                dsimp only [gPush]
                refine V_bipush (v := nI 59) dX10_readsActs_110 (by decide) ?_
                first | refine U_icmp_eq (tgt := 120) dX10_readsActs_112 (by decide) (by with_reducible rfl) (by with_reducible rfl) (by omega) (by omega) (fun c112 => ?_) (fun c112 => ?_) | refine V_icmp_eq (tgt := 120) dX10_readsActs_112 (by decide) (fun c112 => ?_) (fun c112 => ?_)
                · skip
                  refine V_aloadn0 dX10_readsActs_120 ?_
                  first | refine V_dupa dX10_readsActs_121 ?_ | refine V_dupi dX10_readsActs_121 ?_
                  refine V_getI dX10_readsActs_122 fX10_130 (Or.inl rfl) (by first | assumption | rfl) (by first | decide | omega) (by first | assumption | exact ML_4 (by assumption) | exact ML_5 (by assumption) | exact ML_6 (by assumption) | exact ML_7 (by assumption) | exact ML_8 (by assumption) | exact ML_9 (by assumption) | exact ML_10 (by assumption) | exact ML_11 (by assumption) | exact ML_12 (by assumption) | exact ML_13 (by assumption) | exact ML_15 (by assumption) | exact ML_16 (by assumption) | exact ML_17 (by assumption) | exact ML_20 (by assumption) | exact ML_23 (by assumption) | exact ML_24 (by assumption) | exact ML_30 (by assumption) | exact ML_31 (by assumption) | exact ML_32 (by assumption) | exact ML_33 (by assumption) | exact ML_35 (by assumption) | exact ML_36 (by assumption) | exact ML_37 (by assumption) | exact ML_38 (by assumption) | exact ML_41 (by assumption) | exact ML_42 (by assumption) | exact ML_43 (by assumption) | exact ML_44 (by assumption) | exact ML_45 (by assumption) | rfl) ?_
                  refine V_iconst (v := nI 1) dX10_readsActs_125 (by decide) ?_
                  first | refine U_iadd dX10_readsActs_126 (by with_reducible rfl) (by with_reducible rfl) ?_ | refine V_iadd dX10_readsActs_126 ?_
                  refine V_putI dX10_readsActs_127 fX10_130 (by first | assumption | rfl) (by first | decide | omega) ?_
                  refine V_iinc1 dX10_readsActs_130 (by first | exact ginc1 _ | rfl) (by decide) rfl ?_
                  refine V_goto (tgt := 7) dX10_readsActs_133 (by decide) ?_
                  rw [show l.length + 1 = (l ++ [(k, i)]).length by simp]
                  exact ih (skp B a' + 1) (l ++ [(k, i)]) _ _ (by omega) e1 e2 (by rw [e3]; simp) (by simp; omega) (by omega) (by rw [gI_sI, if_pos ⟨rfl, rfl⟩]) (AtL_cg hT6 (by funext b; rw [gI_sI, if_neg (by omega)]; exact hF7.1 111 b (by omega)) (by funext b; rw [gI_sI, if_neg (by omega)]; exact hF7.1 112 b (by omega))) (fra_sI (hF6.tr hF7.A) (by omega))
                · skip
                  exact absurd rfl c112
              · have e9 : semF B a' = (false, skp B a') := by unfold semF; rw [if_neg h59]
                have hv9 : ¬ hrV B a' = nI 59 := fun z => h59 ((hr_59 b255).mp z)
                rw [e9] at e1 e2 e3
                simp only [Bool.false_eq_true, if_false] at e1 e2 e3
                refine V_aloadn0 dX10_readsActs_106 ?_
                refine V_callV0 (μ' := mX10_here) dX10_readsActs_107 okX10_here lX10_133 rfl (by first | assumption | rfl) (by first | decide | omega) (Nat.le_of_ble_eq_true rfl) (Nat.le_of_ble_eq_true rfl) (by omega) ?_
                refine m_here hM6 hB6 b60 b255 g6 ha' (fun h7 g7 hF7 => ?_)
                have hM7 := MLay_eq hM6 hF7.2.2
                have hB7 := MB_H hB6 hF7
                dsimp only [gPush]
                refine V_bipush (v := nI 59) dX10_readsActs_110 (by decide) ?_
                first | refine U_icmp_eq (tgt := 120) dX10_readsActs_112 (by decide) (by with_reducible rfl) (by with_reducible rfl) (by omega) (by omega) (fun c112 => ?_) (fun c112 => ?_) | refine V_icmp_eq (tgt := 120) dX10_readsActs_112 (by decide) (fun c112 => ?_) (fun c112 => ?_)
                · skip
                  exact absurd c112 hv9
                · skip
                  refine V_aloadn0 dX10_readsActs_115 ?_
                  refine V_callV0 (μ' := mX10_fault) dX10_readsActs_116 okX10_fault lX10_140 rfl (by first | assumption | rfl) (by first | decide | omega) (Nat.le_of_ble_eq_true rfl) (Nat.le_of_ble_eq_true rfl) (by omega) ?_
                  refine m_fault (by omega) hM7 hB7 b60 b255 g7 hal (fun h8 g21 e8 l8 r8 => ?_)
                  have hQ9 := fin h8 h7 (skp B a') (hF6.tr hF7.A) e1 (by rw [e2, hs3]) g21 e8 l8 r8
                  dsimp only [gPush]
                  refine V_iret dX10_readsActs_119 rfl rfl ?_
                  exact hQ9
            have from87 : ∀ h5, gI h5 94 22 = nI (skp B (eon B p)) → FrAt h h5 → (∀ j, j ≠ l.length → gI h5 111 j = gI h2 111 j) → (∀ j, j ≠ l.length → gI h5 112 j = gI h2 112 j) → gI h5 111 l.length = nI k → gI h5 112 l.length = hrV B (eon B p) - nI 48 → (k ≠ 5 → skp B (eon B p) < B.length ∧ 49 ≤ B.getD (skp B (eon B p)) 0 ∧ B.getD (skp B (eon B p)) 0 ≤ 48 + (n - 1)) → V Γ mX10_readsActs d 124 124 h5 87 [some (.ref 94), some (.int (nI l.length)), some (.int (nI k))] [] Q := by
              intro h5 g5 hF5 j1 j2 v1 v2 hsn
              have hM5 := MLay_eq hM hF5.2.2
              have hesg := skp_ge B (eon B p)
              have hesl := skp_le hel
              by_cases k5 : k = 5
              · subst k5
                have hra := raF_5 (n := n) hs2 hnm
                have hra2 : raF B n p = ((semF B (skp B (eon B p))).1, 5, 0, (semF B (skp B (eon B p))).2) := by
                  rw [hra]; unfold semF; rw [skp_skp hel]
                refine V_aloadn0 dX10_readsActs_87 ?_
                first | refine V_dupa dX10_readsActs_88 ?_ | refine V_dupi dX10_readsActs_88 ?_
                refine V_getI dX10_readsActs_89 fX10_130 (Or.inl rfl) (by first | assumption | rfl) (by first | decide | omega) (by first | assumption | exact ML_4 (by assumption) | exact ML_5 (by assumption) | exact ML_6 (by assumption) | exact ML_7 (by assumption) | exact ML_8 (by assumption) | exact ML_9 (by assumption) | exact ML_10 (by assumption) | exact ML_11 (by assumption) | exact ML_12 (by assumption) | exact ML_13 (by assumption) | exact ML_15 (by assumption) | exact ML_16 (by assumption) | exact ML_17 (by assumption) | exact ML_20 (by assumption) | exact ML_23 (by assumption) | exact ML_24 (by assumption) | exact ML_30 (by assumption) | exact ML_31 (by assumption) | exact ML_32 (by assumption) | exact ML_33 (by assumption) | exact ML_35 (by assumption) | exact ML_36 (by assumption) | exact ML_37 (by assumption) | exact ML_38 (by assumption) | exact ML_41 (by assumption) | exact ML_42 (by assumption) | exact ML_43 (by assumption) | exact ML_44 (by assumption) | exact ML_45 (by assumption) | rfl) ?_
                refine V_iloadn2 dX10_readsActs_92 ?_
                refine V_iconst (v := nI 5) dX10_readsActs_93 (by decide) ?_
                first | refine U_icmp_ge (tgt := 101) dX10_readsActs_94 (by decide) (by with_reducible rfl) (by with_reducible rfl) (by omega) (by omega) (fun c94 => ?_) (fun c94 => ?_) | refine V_icmp_ge (tgt := 101) dX10_readsActs_94 (by decide) (fun c94 => ?_) (fun c94 => ?_)
                · skip
                  refine V_iconst (v := nI 0) dX10_readsActs_101 (by decide) ?_
                  first | refine U_iadd dX10_readsActs_102 (by with_reducible rfl) (by with_reducible rfl) ?_ | refine V_iadd dX10_readsActs_102 ?_
                  refine V_putI dX10_readsActs_103 fX10_130 (by first | assumption | rfl) (by first | decide | omega) ?_
                  exact tail _ (skp B (eon B p)) 0 hesl hesg (by rw [gI_sI, if_pos ⟨rfl, rfl⟩]; rfl) (AtL_add hT2 (fun j hj => by rw [gI_sI, if_neg (by omega)]; exact j1 j hj) (fun j hj => by rw [gI_sI, if_neg (by omega)]; exact j2 j hj) (by rw [gI_sI, if_neg (by omega)]; exact v1) (fun z => absurd rfl z)) (fra_sI hF5 (by omega)) hra2
                · skip
                  omega
              · have hq := hsn k5
                have hra := raF_st (n := n) hs2 hnm k5 hq
                have hv5 : hrV B (eon B p) - nI 48 = nI (B.getD (skp B (eon B p)) 0 - 48) := by unfold hrV; rw [if_pos hq.1]; exact nI_m48 (by omega)
                refine V_aloadn0 dX10_readsActs_87 ?_
                first | refine V_dupa dX10_readsActs_88 ?_ | refine V_dupi dX10_readsActs_88 ?_
                refine V_getI dX10_readsActs_89 fX10_130 (Or.inl rfl) (by first | assumption | rfl) (by first | decide | omega) (by first | assumption | exact ML_4 (by assumption) | exact ML_5 (by assumption) | exact ML_6 (by assumption) | exact ML_7 (by assumption) | exact ML_8 (by assumption) | exact ML_9 (by assumption) | exact ML_10 (by assumption) | exact ML_11 (by assumption) | exact ML_12 (by assumption) | exact ML_13 (by assumption) | exact ML_15 (by assumption) | exact ML_16 (by assumption) | exact ML_17 (by assumption) | exact ML_20 (by assumption) | exact ML_23 (by assumption) | exact ML_24 (by assumption) | exact ML_30 (by assumption) | exact ML_31 (by assumption) | exact ML_32 (by assumption) | exact ML_33 (by assumption) | exact ML_35 (by assumption) | exact ML_36 (by assumption) | exact ML_37 (by assumption) | exact ML_38 (by assumption) | exact ML_41 (by assumption) | exact ML_42 (by assumption) | exact ML_43 (by assumption) | exact ML_44 (by assumption) | exact ML_45 (by assumption) | rfl) ?_
                refine V_iloadn2 dX10_readsActs_92 ?_
                refine V_iconst (v := nI 5) dX10_readsActs_93 (by decide) ?_
                first | refine U_icmp_ge (tgt := 101) dX10_readsActs_94 (by decide) (by with_reducible rfl) (by with_reducible rfl) (by omega) (by omega) (fun c94 => ?_) (fun c94 => ?_) | refine V_icmp_ge (tgt := 101) dX10_readsActs_94 (by decide) (fun c94 => ?_) (fun c94 => ?_)
                · skip
                  omega
                · skip
                  refine V_iconst (v := nI 1) dX10_readsActs_97 (by decide) ?_
                  refine V_goto (tgt := 102) dX10_readsActs_98 (by decide) ?_
                  first | refine U_iadd dX10_readsActs_102 (by with_reducible rfl) (by with_reducible rfl) ?_ | refine V_iadd dX10_readsActs_102 ?_
                  refine V_putI dX10_readsActs_103 fX10_130 (by first | assumption | rfl) (by first | decide | omega) ?_
                  exact tail _ (skp B (eon B p) + 1) _ (by omega) (by omega) (by rw [gI_sI, if_pos ⟨rfl, rfl⟩]) (AtL_add hT2 (fun j hj => by rw [gI_sI, if_neg (by omega)]; exact j1 j hj) (fun j hj => by rw [gI_sI, if_neg (by omega)]; exact j2 j hj) (by rw [gI_sI, if_neg (by omega)]; exact v1) (fun z => by rw [gI_sI, if_neg (by omega), v2, hv5])) (fra_sI hF5 (by omega)) hra
            have from64 : ∀ h5, gI h5 94 22 = nI (skp B (eon B p)) → FrAt h h5 → (∀ j, j ≠ l.length → gI h5 111 j = gI h2 111 j) → (∀ j, j ≠ l.length → gI h5 112 j = gI h2 112 j) → gI h5 111 l.length = nI k → gI h5 112 l.length = hrV B (eon B p) - nI 48 → V Γ mX10_readsActs d 124 124 h5 64 [some (.ref 94), some (.int (nI l.length)), some (.int (nI k))] [] Q := by
              intro h5 g5 hF5 j1 j2 v1 v2
              have hM5 := MLay_eq hM hF5.2.2
              have hB5 := MB_A rB hF5
              have n5 : gI h5 94 0 = nI n := by rw [hF5.1 94 0 (by omega) (by omega) (by omega)]; exact r0
              have hesl := skp_le hel
              have hin := hr_sgn (B := B) (a := eon B p) b255 hn5
              by_cases k5 : k = 5
              · skip
                refine V_iloadn2 dX10_readsActs_64 ?_
                refine V_iconst (v := nI 5) dX10_readsActs_65 (by decide) ?_
                first | refine U_icmp_ge (tgt := 87) dX10_readsActs_66 (by decide) (by with_reducible rfl) (by with_reducible rfl) (by omega) (by omega) (fun c66 => ?_) (fun c66 => ?_) | refine V_icmp_ge (tgt := 87) dX10_readsActs_66 (by decide) (fun c66 => ?_) (fun c66 => ?_)
                · skip
                  exact from87 h5 g5 hF5 j1 j2 v1 v2 (fun z => absurd k5 z)
                · skip
                  omega
              · by_cases hq : skp B (eon B p) < B.length ∧ 49 ≤ B.getD (skp B (eon B p)) 0 ∧ B.getD (skp B (eon B p)) 0 ≤ 48 + (n - 1)
                · rw [decide_eq_true hq] at hin
                  refine V_iloadn2 dX10_readsActs_64 ?_
                  refine V_iconst (v := nI 5) dX10_readsActs_65 (by decide) ?_
                  first | refine U_icmp_ge (tgt := 87) dX10_readsActs_66 (by decide) (by with_reducible rfl) (by with_reducible rfl) (by omega) (by omega) (fun c66 => ?_) (fun c66 => ?_) | refine V_icmp_ge (tgt := 87) dX10_readsActs_66 (by decide) (fun c66 => ?_) (fun c66 => ?_)
                  · skip
                    omega
                  · skip
                    refine V_aloadn0 dX10_readsActs_69 ?_
                    refine V_aloadn0 dX10_readsActs_70 ?_
                    refine V_getR dX10_readsActs_71 fX10_68 (by first | assumption | rfl) (by first | decide | omega) (by first | assumption | exact ML_4 (by assumption) | exact ML_5 (by assumption) | exact ML_6 (by assumption) | exact ML_7 (by assumption) | exact ML_8 (by assumption) | exact ML_9 (by assumption) | exact ML_10 (by assumption) | exact ML_11 (by assumption) | exact ML_12 (by assumption) | exact ML_13 (by assumption) | exact ML_15 (by assumption) | exact ML_16 (by assumption) | exact ML_17 (by assumption) | exact ML_20 (by assumption) | exact ML_23 (by assumption) | exact ML_24 (by assumption) | exact ML_30 (by assumption) | exact ML_31 (by assumption) | exact ML_32 (by assumption) | exact ML_33 (by assumption) | exact ML_35 (by assumption) | exact ML_36 (by assumption) | exact ML_37 (by assumption) | exact ML_38 (by assumption) | exact ML_41 (by assumption) | exact ML_42 (by assumption) | exact ML_43 (by assumption) | exact ML_44 (by assumption) | exact ML_45 (by assumption) | rfl) ?_
                    refine V_iloadn1 dX10_readsActs_74 ?_
                    refine U_iald dX10_readsActs_75 (by with_reducible rfl) (by first | assumption | rfl) (by first | decide | omega) (by omega) (by first | assumption | exact ML_4 (by assumption) | exact ML_5 (by assumption) | exact ML_6 (by assumption) | exact ML_7 (by assumption) | exact ML_8 (by assumption) | exact ML_9 (by assumption) | exact ML_10 (by assumption) | exact ML_11 (by assumption) | exact ML_12 (by assumption) | exact ML_13 (by assumption) | exact ML_15 (by assumption) | exact ML_16 (by assumption) | exact ML_17 (by assumption) | exact ML_20 (by assumption) | exact ML_23 (by assumption) | exact ML_24 (by assumption) | exact ML_30 (by assumption) | exact ML_31 (by assumption) | exact ML_32 (by assumption) | exact ML_33 (by assumption) | exact ML_35 (by assumption) | exact ML_36 (by assumption) | exact ML_37 (by assumption) | exact ML_38 (by assumption) | exact ML_41 (by assumption) | exact ML_42 (by assumption) | exact ML_43 (by assumption) | exact ML_44 (by assumption) | exact ML_45 (by assumption) | rfl) ?_
                    refine V_callV1 (μ' := mX10_isSign) dX10_readsActs_76 okX10_isSign lX10_173 rfl (by first | assumption | rfl) (by first | decide | omega) (Nat.le_of_ble_eq_true rfl) (Nat.le_of_ble_eq_true rfl) (by omega) ?_
                    refine m_isSign (by omega) (by omega) hn5 n5 ?_
                    rw [hin]
                    dsimp only [gPush]
                    first | refine U_ifB_ne (tgt := 87) dX10_readsActs_79 (by decide) (by with_reducible rfl) (fun c79 => ?_) (fun c79 => ?_) | refine U_if_ne (tgt := 87) dX10_readsActs_79 (by decide) (by with_reducible rfl) (by omega) (fun c79 => ?_) (fun c79 => ?_) | refine V_if_ne (tgt := 87) dX10_readsActs_79 (by decide) (fun c79 => ?_) (fun c79 => ?_)
                    · skip
                      exact from87 h5 g5 hF5 j1 j2 v1 v2 (fun _ => hq)
                    · skip
                      cases c79
                · rw [decide_eq_false hq] at hin
                  have hra := raF_sf (n := n) hs2 hnm k5 hq
                  rw [hra, if_neg Bool.false_ne_true] at e1 e2
                  have hss := skp_skp hel
                  refine V_iloadn2 dX10_readsActs_64 ?_
                  refine V_iconst (v := nI 5) dX10_readsActs_65 (by decide) ?_
                  first | refine U_icmp_ge (tgt := 87) dX10_readsActs_66 (by decide) (by with_reducible rfl) (by with_reducible rfl) (by omega) (by omega) (fun c66 => ?_) (fun c66 => ?_) | refine V_icmp_ge (tgt := 87) dX10_readsActs_66 (by decide) (fun c66 => ?_) (fun c66 => ?_)
                  · skip
                    omega
                  · skip
                    refine V_aloadn0 dX10_readsActs_69 ?_
                    refine V_aloadn0 dX10_readsActs_70 ?_
                    refine V_getR dX10_readsActs_71 fX10_68 (by first | assumption | rfl) (by first | decide | omega) (by first | assumption | exact ML_4 (by assumption) | exact ML_5 (by assumption) | exact ML_6 (by assumption) | exact ML_7 (by assumption) | exact ML_8 (by assumption) | exact ML_9 (by assumption) | exact ML_10 (by assumption) | exact ML_11 (by assumption) | exact ML_12 (by assumption) | exact ML_13 (by assumption) | exact ML_15 (by assumption) | exact ML_16 (by assumption) | exact ML_17 (by assumption) | exact ML_20 (by assumption) | exact ML_23 (by assumption) | exact ML_24 (by assumption) | exact ML_30 (by assumption) | exact ML_31 (by assumption) | exact ML_32 (by assumption) | exact ML_33 (by assumption) | exact ML_35 (by assumption) | exact ML_36 (by assumption) | exact ML_37 (by assumption) | exact ML_38 (by assumption) | exact ML_41 (by assumption) | exact ML_42 (by assumption) | exact ML_43 (by assumption) | exact ML_44 (by assumption) | exact ML_45 (by assumption) | rfl) ?_
                    refine V_iloadn1 dX10_readsActs_74 ?_
                    refine U_iald dX10_readsActs_75 (by with_reducible rfl) (by first | assumption | rfl) (by first | decide | omega) (by omega) (by first | assumption | exact ML_4 (by assumption) | exact ML_5 (by assumption) | exact ML_6 (by assumption) | exact ML_7 (by assumption) | exact ML_8 (by assumption) | exact ML_9 (by assumption) | exact ML_10 (by assumption) | exact ML_11 (by assumption) | exact ML_12 (by assumption) | exact ML_13 (by assumption) | exact ML_15 (by assumption) | exact ML_16 (by assumption) | exact ML_17 (by assumption) | exact ML_20 (by assumption) | exact ML_23 (by assumption) | exact ML_24 (by assumption) | exact ML_30 (by assumption) | exact ML_31 (by assumption) | exact ML_32 (by assumption) | exact ML_33 (by assumption) | exact ML_35 (by assumption) | exact ML_36 (by assumption) | exact ML_37 (by assumption) | exact ML_38 (by assumption) | exact ML_41 (by assumption) | exact ML_42 (by assumption) | exact ML_43 (by assumption) | exact ML_44 (by assumption) | exact ML_45 (by assumption) | rfl) ?_
                    refine V_callV1 (μ' := mX10_isSign) dX10_readsActs_76 okX10_isSign lX10_173 rfl (by first | assumption | rfl) (by first | decide | omega) (Nat.le_of_ble_eq_true rfl) (Nat.le_of_ble_eq_true rfl) (by omega) ?_
                    refine m_isSign (by omega) (by omega) hn5 n5 ?_
                    rw [hin]
                    dsimp only [gPush]
                    first | refine U_ifB_ne (tgt := 87) dX10_readsActs_79 (by decide) (by with_reducible rfl) (fun c79 => ?_) (fun c79 => ?_) | refine U_if_ne (tgt := 87) dX10_readsActs_79 (by decide) (by with_reducible rfl) (by omega) (fun c79 => ?_) (fun c79 => ?_) | refine V_if_ne (tgt := 87) dX10_readsActs_79 (by decide) (fun c79 => ?_) (fun c79 => ?_)
                    · skip
                      cases c79
                    · skip
                      refine V_aloadn0 dX10_readsActs_82 ?_
                      refine V_callV0 (μ' := mX10_fault) dX10_readsActs_83 okX10_fault lX10_140 rfl (by first | assumption | rfl) (by first | decide | omega) (Nat.le_of_ble_eq_true rfl) (Nat.le_of_ble_eq_true rfl) (by omega) ?_
                      refine m_fault (by omega) hM5 hB5 b60 b255 g5 hesl (fun h8 g21 e8 l8 r8 => ?_)
                      have hQ9 := fin h8 h5 (skp B (eon B p)) hF5 e1 (by rw [e2, hss]) g21 e8 l8 r8
                      dsimp only [gPush]
                      refine V_iret dX10_readsActs_86 rfl rfl ?_
                      exact hQ9
            refine V_aloadn0 dX10_readsActs_14 ?_
            refine V_callV0 (μ' := mX10_name) dX10_readsActs_15 okX10_name lX10_213 rfl (by first | assumption | rfl) (by first | decide | omega) (Nat.le_of_ble_eq_true rfl) (Nat.le_of_ble_eq_true rfl) (by omega) ?_
            refine m_name (by omega) hM2 hB2 b60 b255 g2 hsl (fun h3 g29 e' l' r' haz => ?_)
            have hF3 : FrAt h h3 := hF2.tr ⟨fun x b z _ _ => e' x b (by omega), l', r'⟩
            have hM3 := MLay_eq hM hF3.2.2
            have g3 : gI h3 94 22 = nI p := by rw [e' 94 22 (by omega)]; exact g2
            have hao := ao_nm haz
            rw [hnm] at hao
            dsimp only at hao
            generalize hh4 : sI (sI h3 94 22 (nI (p + (eon B p - p)))) 111 l.length (nI k) = h4
            have hF4 : FrAt h h4 := by rw [← hh4]; exact fra_sI (fra_sI hF3 (by omega)) (by omega)
            have hM4 := MLay_eq hM hF4.2.2
            have hB4 := MB_A rB hF4
            have g4 : gI h4 94 22 = nI (eon B p) := by rw [← hh4, gI_sI, if_neg (by omega), gI_sI, if_pos ⟨rfl, rfl⟩, show p + (eon B p - p) = eon B p by omega]
            have v4 : gI h4 111 l.length = nI k := by rw [← hh4, gI_sI, if_pos ⟨rfl, rfl⟩]
            have w4 : ∀ j, j ≠ l.length → gI h4 111 j = gI h2 111 j := fun j hj => by rw [← hh4, gI_sI, if_neg (by omega), gI_sI, if_neg (by omega)]; exact e' 111 j (by omega)
            have u4 : ∀ j, gI h4 112 j = gI h2 112 j := fun j => by rw [← hh4, gI_sI, if_neg (by omega), gI_sI, if_neg (by omega)]; exact e' 112 j (by omega)
            dsimp only [gPush]
            refine V_callS1 (μ' := mX10_actOf) dX10_readsActs_18 okX10_actOf lX10_217 (Nat.le_of_ble_eq_true rfl) (Nat.le_of_ble_eq_true rfl) (by omega) ?_
            refine m_actOf ?_
            rw [hao]
            dsimp only [gPush]
            refine V_istoren2 dX10_readsActs_21 (by decide) rfl ?_
            refine V_iloadn2 dX10_readsActs_22 ?_
            refine V_if_ge (tgt := 31) dX10_readsActs_23 (by decide) (fun c23 => ?_) (fun c23 => ?_)
            · skip
              refine V_aloadn0 dX10_readsActs_31 ?_
              first | refine V_dupa dX10_readsActs_32 ?_ | refine V_dupi dX10_readsActs_32 ?_
              refine V_getI dX10_readsActs_33 fX10_130 (Or.inl rfl) (by first | assumption | rfl) (by first | decide | omega) (by first | assumption | exact ML_4 (by assumption) | exact ML_5 (by assumption) | exact ML_6 (by assumption) | exact ML_7 (by assumption) | exact ML_8 (by assumption) | exact ML_9 (by assumption) | exact ML_10 (by assumption) | exact ML_11 (by assumption) | exact ML_12 (by assumption) | exact ML_13 (by assumption) | exact ML_15 (by assumption) | exact ML_16 (by assumption) | exact ML_17 (by assumption) | exact ML_20 (by assumption) | exact ML_23 (by assumption) | exact ML_24 (by assumption) | exact ML_30 (by assumption) | exact ML_31 (by assumption) | exact ML_32 (by assumption) | exact ML_33 (by assumption) | exact ML_35 (by assumption) | exact ML_36 (by assumption) | exact ML_37 (by assumption) | exact ML_38 (by assumption) | exact ML_41 (by assumption) | exact ML_42 (by assumption) | exact ML_43 (by assumption) | exact ML_44 (by assumption) | exact ML_45 (by assumption) | rfl) ?_
              refine V_aloadn0 dX10_readsActs_36 ?_
              refine V_getI dX10_readsActs_37 fX10_192 (Or.inl rfl) (by first | assumption | rfl) (by first | decide | omega) (by first | assumption | exact ML_4 (by assumption) | exact ML_5 (by assumption) | exact ML_6 (by assumption) | exact ML_7 (by assumption) | exact ML_8 (by assumption) | exact ML_9 (by assumption) | exact ML_10 (by assumption) | exact ML_11 (by assumption) | exact ML_12 (by assumption) | exact ML_13 (by assumption) | exact ML_15 (by assumption) | exact ML_16 (by assumption) | exact ML_17 (by assumption) | exact ML_20 (by assumption) | exact ML_23 (by assumption) | exact ML_24 (by assumption) | exact ML_30 (by assumption) | exact ML_31 (by assumption) | exact ML_32 (by assumption) | exact ML_33 (by assumption) | exact ML_35 (by assumption) | exact ML_36 (by assumption) | exact ML_37 (by assumption) | exact ML_38 (by assumption) | exact ML_41 (by assumption) | exact ML_42 (by assumption) | exact ML_43 (by assumption) | exact ML_44 (by assumption) | exact ML_45 (by assumption) | rfl) ?_
              first | refine U_iadd dX10_readsActs_40 (by with_reducible rfl) (by with_reducible rfl) ?_ | refine V_iadd dX10_readsActs_40 ?_
              refine V_putI dX10_readsActs_41 fX10_130 (by first | assumption | rfl) (by first | decide | omega) ?_
              refine V_aloadn0 dX10_readsActs_44 ?_
              refine V_getR dX10_readsActs_45 fX10_65 (by first | assumption | rfl) (by first | decide | omega) (by first | assumption | exact ML_4 (by assumption) | exact ML_5 (by assumption) | exact ML_6 (by assumption) | exact ML_7 (by assumption) | exact ML_8 (by assumption) | exact ML_9 (by assumption) | exact ML_10 (by assumption) | exact ML_11 (by assumption) | exact ML_12 (by assumption) | exact ML_13 (by assumption) | exact ML_15 (by assumption) | exact ML_16 (by assumption) | exact ML_17 (by assumption) | exact ML_20 (by assumption) | exact ML_23 (by assumption) | exact ML_24 (by assumption) | exact ML_30 (by assumption) | exact ML_31 (by assumption) | exact ML_32 (by assumption) | exact ML_33 (by assumption) | exact ML_35 (by assumption) | exact ML_36 (by assumption) | exact ML_37 (by assumption) | exact ML_38 (by assumption) | exact ML_41 (by assumption) | exact ML_42 (by assumption) | exact ML_43 (by assumption) | exact ML_44 (by assumption) | exact ML_45 (by assumption) | rfl) ?_
              refine V_iloadn1 dX10_readsActs_48 ?_
              refine V_iloadn2 dX10_readsActs_49 ?_
              refine U_iast dX10_readsActs_50 (by with_reducible rfl) (by first | assumption | rfl) (by first | decide | omega) (by omega) ?_
              rw [hh4]
              refine V_aloadn0 dX10_readsActs_51 ?_
              refine V_getR dX10_readsActs_52 fX10_68 (by first | assumption | rfl) (by first | decide | omega) (by first | assumption | exact ML_4 (by assumption) | exact ML_5 (by assumption) | exact ML_6 (by assumption) | exact ML_7 (by assumption) | exact ML_8 (by assumption) | exact ML_9 (by assumption) | exact ML_10 (by assumption) | exact ML_11 (by assumption) | exact ML_12 (by assumption) | exact ML_13 (by assumption) | exact ML_15 (by assumption) | exact ML_16 (by assumption) | exact ML_17 (by assumption) | exact ML_20 (by assumption) | exact ML_23 (by assumption) | exact ML_24 (by assumption) | exact ML_30 (by assumption) | exact ML_31 (by assumption) | exact ML_32 (by assumption) | exact ML_33 (by assumption) | exact ML_35 (by assumption) | exact ML_36 (by assumption) | exact ML_37 (by assumption) | exact ML_38 (by assumption) | exact ML_41 (by assumption) | exact ML_42 (by assumption) | exact ML_43 (by assumption) | exact ML_44 (by assumption) | exact ML_45 (by assumption) | rfl) ?_
              refine V_iloadn1 dX10_readsActs_55 ?_
              refine V_aloadn0 dX10_readsActs_56 ?_
              refine V_callV0 (μ' := mX10_here) dX10_readsActs_57 okX10_here lX10_133 rfl (by first | assumption | rfl) (by first | decide | omega) (Nat.le_of_ble_eq_true rfl) (Nat.le_of_ble_eq_true rfl) (by omega) ?_
              refine m_here hM4 hB4 b60 b255 g4 hel (fun h5 g5 hF5 => ?_)
              have hM5 := MLay_eq hM4 hF5.2.2
              dsimp only [gPush]
              refine V_bipush (v := nI 48) dX10_readsActs_60 (by decide) ?_
              first | refine U_isub dX10_readsActs_62 (by with_reducible rfl) (by with_reducible rfl) (by omega) ?_ | refine V_isub dX10_readsActs_62 ?_
              refine U_iast dX10_readsActs_63 (by with_reducible rfl) (by first | assumption | rfl) (by first | decide | omega) (by omega) ?_
              exact from64 _ (by rw [gI_sI, if_neg (by omega)]; exact g5) (fra_sI (hF4.tr hF5.A) (by omega)) (fun j hj => by rw [gI_sI, if_neg (by omega), hF5.1 111 j (by omega)]; exact w4 j hj) (fun j hj => by rw [gI_sI, if_neg (by omega), hF5.1 112 j (by omega)]; exact u4 j) (by rw [gI_sI, if_neg (by omega), hF5.1 111 _ (by omega)]; exact v4) (by rw [gI_sI, if_pos ⟨rfl, rfl⟩])
            · skip
              exact absurd (show nI 0 ≤ nI k from nI_le (Nat.zero_le k) (by omega)) c23
        refine V_aloadn0 dX10_readsActs_7 ?_
        refine V_callV0 (μ' := mX10_here) dX10_readsActs_8 okX10_here lX10_133 rfl (by first | assumption | rfl) (by first | decide | omega) (Nat.le_of_ble_eq_true rfl) (Nat.le_of_ble_eq_true rfl) (by omega) ?_
        refine m_here hM1 hB1 b60 b255 g22 ha (fun h2 g2 hF2 => ?_)
        rw [hv]
        dsimp only [gPush]
        refine V_if_lt (tgt := 136) dX10_readsActs_11 (by decide) (fun c11 => ?_) (fun c11 => ?_)
        · skip
          exact absurd c11 (Int32.not_lt.mpr (show nI 0 ≤ nI (B.getD p 0) from nI_le (Nat.zero_le _) (by omega)))
        · skip
          exact first h2 (by rw [g2, hp9]) (hF.tr hF2.A) (AtL_cg hT (hF2.c (by omega)) (hF2.c (by omega)))
      · rw [if_neg hlt] at e1 e2 e3
        have hv : hrV B a = -1 := by unfold hrV; rw [if_neg hlt]
        refine V_aloadn0 dX10_readsActs_7 ?_
        refine V_callV0 (μ' := mX10_here) dX10_readsActs_8 okX10_here lX10_133 rfl (by first | assumption | rfl) (by first | decide | omega) (Nat.le_of_ble_eq_true rfl) (Nat.le_of_ble_eq_true rfl) (by omega) ?_
        refine m_here hM1 hB1 b60 b255 g22 ha (fun h2 g2 hF2 => ?_)
        rw [hv]
        dsimp only [gPush]
        refine V_if_lt (tgt := 136) dX10_readsActs_11 (by decide) (fun c11 => ?_) (fun c11 => ?_)
        · skip
          refine V_aloadn0 dX10_readsActs_136 ?_
          refine V_iconst (v := nI 0) dX10_readsActs_137 (by decide) ?_
          refine V_putI dX10_readsActs_138 fX10_125 (by first | assumption | rfl) (by first | decide | omega) ?_
          refine V_iloadn1 dX10_readsActs_141 ?_
          refine V_iret dX10_readsActs_142 rfl rfl ?_
          rw [List.append_nil] at e3
          obtain ⟨u1, u2⟩ := nil (sI h2 94 21 (nI 0)) (by rw [gI_sI, if_pos ⟨rfl, rfl⟩]) (fun x b z u v => by rw [gI_sI, if_neg (by omega)]; exact (hF.tr hF2.A).1 x b (by omega) u v) (hF.tr hF2.A).2.1 (hF.tr hF2.A).2.2
          have hQ9 := hQt e1 _ u1 u2 (by rw [e3]; exact AtL_cg hT (by funext b; rw [gI_sI, if_neg (by omega)]; exact hF2.1 111 b (by omega)) (by funext b; rw [gI_sI, if_neg (by omega)]; exact hF2.1 112 b (by omega)))
          rw [e3] at hQ9
          exact hQ9
        · skip
          exact absurd (show (-1 : Int32) < 0 by decide) c11
  refine V_aloadn0 dX10_readsActs_0 ?_
  refine V_iconst (v := nI 0) dX10_readsActs_1 (by decide) ?_
  refine V_putI dX10_readsActs_2 fX10_130 (by first | assumption | rfl) (by first | decide | omega) ?_
  refine V_iconst (v := nI 0) dX10_readsActs_5 (by decide) ?_
  refine V_istoren1 dX10_readsActs_6 (by decide) rfl ?_
  exact loop 60 0 [] _ _ (by omega) (by rw [eR]) (by rw [eR]) (by rw [eR]; rfl) (Nat.zero_le _) (Nat.zero_le _) (by rw [gI_sI, if_pos ⟨rfl, rfl⟩]) (fun j hj => absurd hj (Nat.not_lt_zero _)) (fra_sI FrAt.rf (by omega))
end C75
