/-! ===== the reference: letters inserted ===== -/
def CG (h : gH) (P : List (List Nat)) : Prop := (∀ r, r < 6 → gI h 106 r = nI (P.getD r []).length) ∧ (∀ r c, r < 6 → c < (P.getD r []).length → gI h 109 (6 * r + c) = nI ((P.getD r []).getD c 0)) ∧ P.length ≤ 6 ∧ szL P ≤ 6 ∧ ∀ r c, (P.getD r []).getD c 0 ≤ 9
def CT (h : gH) (P T : List (List Nat)) : Prop := ∀ r c, r < 6 → c < (P.getD r []).length → gI h 115 (6 * r + c) = nI ((T.getD r []).getD c 0)
theorem CG_cg {h h' : gH} {P : List (List Nat)} (hC : CG h P) (e1 : gI h' 106 = gI h 106) (e2 : gI h' 109 = gI h 109) : CG h' P := ⟨fun r hr => by rw [e1]; exact hC.1 r hr, fun r c hr hc => by rw [e2]; exact hC.2.1 r c hr hc, hC.2.2⟩
theorem CT_cg {h h' : gH} {P T : List (List Nat)} (hC : CT h P T) (e : gI h' 115 = gI h 115) : CT h' P T := fun r c hr hc => by rw [e]; exact hC r c hr hc
theorem CG_row6 {h : gH} {P : List (List Nat)} (hC : CG h P) (r : Nat) : (P.getD r []).length ≤ 6 := Nat.le_trans (row_le_sz P r) hC.2.2.2.1
theorem fg_lt : ∀ (r : List Nat) (x c : Nat), c < fg r x → r.getD c 0 ≤ x
  | [], x, c, h => absurd h (Nat.not_lt_zero _)
  | a :: l, x, c, h => by
    unfold fg at h
    by_cases q : x < a
    · rw [if_pos q] at h; exact absurd h (Nat.not_lt_zero _)
    · rw [if_neg q] at h
      cases c with
      | zero => rw [List.getD_cons_zero]; omega
      | succ c => rw [List.getD_cons_succ]; exact fg_lt l x c (by omega)
theorem fg_at : ∀ (r : List Nat) (x : Nat), fg r x < r.length → x < r.getD (fg r x) 0
  | [], x, h => absurd h (Nat.not_lt_zero _)
  | a :: l, x, h => by
    unfold fg at h ⊢
    by_cases q : x < a
    · rw [if_pos q]; exact q
    · rw [if_neg q] at h ⊢
      rw [List.getD_cons_succ]
      exact fg_at l x (by simpa using h)
theorem CG_set {h : gH} {P P' : List (List Nat)} {r c x : Nat} (hC : CG h P) (hr : r < 6) (hc : c < (P.getD r []).length) (hx : x ≤ 9) (hP : ∀ q, P'.getD q [] = if q = r then (P.getD r []).set c x else P.getD q []) (hl : P'.length = P.length) (hz : szL P' = szL P) : CG (sI h 109 (6 * r + c) (nI x)) P' := by
  have h6 := CG_row6 hC
  obtain ⟨a1, a2, a3, a4, a5⟩ := hC
  have hlen : ∀ q, (P'.getD q []).length = (P.getD q []).length := fun q => by
    rw [hP]
    by_cases e : q = r
    · rw [if_pos e, List.length_set, e]
    · rw [if_neg e]
  refine ⟨fun q hq => ?_, fun q j hq hj => ?_, by rw [hl]; exact a3, by rw [hz]; exact a4, fun q j => ?_⟩
  · rw [gI_sI, if_neg (by omega), hlen]; exact a1 q hq
  · rw [hlen] at hj
    have hq6 := h6 q
    have hr6 := h6 r
    rw [gI_sI, hP]
    by_cases e : q = r
    · subst e
      rw [if_pos rfl, getD_set_nat hc]
      by_cases ec : j = c
      · rw [if_pos ⟨rfl, by omega⟩, if_pos ec]
      · rw [if_neg (by omega), if_neg ec]; exact a2 q j hq hj
    · rw [if_neg (by omega), if_neg e]; exact a2 q j hq hj
  · rw [hP]
    by_cases e : q = r
    · rw [if_pos e, getD_set_nat hc]
      by_cases ec : j = c
      · rw [if_pos ec]; exact hx
      · rw [if_neg ec]; exact a5 r j
    · rw [if_neg e]; exact a5 q j
theorem CG_add {h : gH} {P P' : List (List Nat)} {r x : Nat} (hC : CG h P) (hr : r < 6) (hx : x ≤ 9) (hs : szL P < 6) (hP : isAdd P P' r x) : CG (sI (sI h 109 (6 * r + (P.getD r []).length) (nI x)) 106 r (nI ((P.getD r []).length + 1))) P' := by
  have h6 := CG_row6 hC
  have hrs := row_le_sz P r
  obtain ⟨a1, a2, a3, a4, a5⟩ := hC
  obtain ⟨p1, p2, p3⟩ := hP
  refine ⟨fun q hq => ?_, fun q j hq hj => ?_, by rw [p2]; omega, by rw [p3]; omega, fun q j => ?_⟩
  · rw [gI_sI, p1]
    by_cases e : q = r
    · rw [if_pos ⟨rfl, e⟩, if_pos e, List.length_append]; rfl
    · rw [if_neg (fun z => e z.2), if_neg e, gI_sI, if_neg (by omega)]; exact a1 q hq
  · have hq6 := h6 q
    rw [p1] at hj
    rw [gI_sI, if_neg (by omega), gI_sI, p1]
    by_cases e : q = r
    · subst e
      rw [if_pos rfl] at hj ⊢
      rw [List.length_append, List.length_singleton] at hj
      rw [getD_snoc]
      by_cases ej : j = (P.getD q []).length
      · rw [if_pos ⟨rfl, by omega⟩, if_pos ej]
      · rw [if_neg (by omega), if_neg ej]; exact a2 q j hq (by omega)
    · rw [if_neg e] at hj ⊢
      rw [if_neg (by omega)]; exact a2 q j hq hj
  · rw [p1]
    by_cases e : q = r
    · rw [if_pos e, getD_snoc]
      split
      · exact hx
      · exact a5 r j
    · rw [if_neg e]; exact a5 q j
theorem drop_getD' (P : List (List Nat)) (q : Nat) : rdL (P.drop q) = rdL (P.drop (q + 1)) ++ P.getD q [] := by
  by_cases h : q < P.length
  · rw [drop_getD h, rdL_cons]
  · rw [List.drop_eq_nil_of_le (by omega), List.drop_eq_nil_of_le (by omega), getD_out (by omega)]
    rfl
section C65
variable {Γ : gM} {d : Nat} {h : gH} {Q : Option Value → gH → Prop} {S : GS}
set_option maxRecDepth 100000 in
set_option maxHeartbeats 4000000 in
theorem m_readsCells {P : List (List Nat)} (hM : MLay h) (hC : CG h P) (hQ : ∀ h', WW h' (rdL P) → gI h' 94 19 = nI 2 → (∀ a, a ≠ 94 → a ≠ 105 → gI h' a = gI h a) → (∀ k, k ≠ 18 → k ≠ 19 → gI h' 94 k = gI h 94 k) → gL h' = gL h → gR h' = gR h → Q none h') : V Γ mX10_readsCells d 124 124 h 0 [some (.ref 94), none, none] [] Q := by
  have h6 := CG_row6 hC
  obtain ⟨a1, a2, a3, a4, a5⟩ := id hC
  have hsz : ∀ q, (rdL (P.drop q)).length ≤ 6 := fun q => by rw [rdL_len]; have := szL_drop P q; omega
  have outer : ∀ q h1 x2, q ≤ 6 → gI h1 94 18 = nI (rdL (P.drop q)).length → (∀ j, j < (rdL (P.drop q)).length → gI h1 105 j = nI ((rdL (P.drop q)).getD j 0)) → (∀ a, a ≠ 94 → a ≠ 105 → gI h1 a = gI h a) → (∀ k, k ≠ 18 → k ≠ 19 → gI h1 94 k = gI h 94 k) → gL h1 = gL h → gR h1 = gR h → V Γ mX10_readsCells d 124 124 h1 7 [some (.ref 94), some (.int (nI q - nI 1)), x2] [] Q := by
    intro q
    induction q with
    | zero =>
      intro h1 x2 hq b1 b2 e1 e2 l r
      rw [List.drop_zero] at b1 b2
      have hQ9 := hQ (sI h1 94 19 (nI 2)) ⟨by rw [gI_sI, if_neg (by omega)]; exact b1, fun k hk => by rw [gI_sI, if_neg (by omega)]; exact b2 k hk, by rw [rdL_len]; exact a4, rdL_le a5⟩ (by rw [gI_sI, if_pos ⟨rfl, rfl⟩]) (fun a n1 n2 => by funext b; rw [gI_sI, if_neg (by omega)]; exact congrFun (e1 a n1 n2) b) (fun k n1 n2 => by rw [gI_sI, if_neg (by omega)]; exact e2 k n1 n2) l r
      refine V_iloadn1 dX10_readsCells_7 ?_
      refine V_if_lt (tgt := 65) dX10_readsCells_8 (by decide) (fun c8 => ?_) (fun c8 => ?_)
      · skip
        refine V_aloadn0 dX10_readsCells_65 ?_
        refine V_iconst (v := nI 2) dX10_readsCells_66 (by decide) ?_
        refine V_putI dX10_readsCells_67 fX10_108 (by first | assumption | rfl) (by first | decide | omega) ?_
        refine V_ret dX10_readsCells_70 rfl ?_
        exact hQ9
      · skip
        exact absurd ((gdec_lt (by omega)).mpr rfl) c8
    | succ q ih =>
      intro h1 x2 hq b1 b2 e1 e2 l r
      have hw := drop_getD' P q
      have hlen : (rdL (P.drop q)).length = (rdL (P.drop (q + 1))).length + (P.getD q []).length := by rw [hw, List.length_append]
      have hq6 := hsz q
      generalize hu : rdL (P.drop (q + 1)) = u at b1 b2 hw hlen
      have inner : ∀ f c h2, c + f = (P.getD q []).length → gI h2 94 18 = nI (u.length + c) → (∀ j, j < u.length + c → gI h2 105 j = nI ((rdL (P.drop q)).getD j 0)) → (∀ a, a ≠ 94 → a ≠ 105 → gI h2 a = gI h a) → (∀ k, k ≠ 18 → k ≠ 19 → gI h2 94 k = gI h 94 k) → gL h2 = gL h → gR h2 = gR h → V Γ mX10_readsCells d 124 124 h2 13 [some (.ref 94), some (.int (nI q)), some (.int (nI c))] [] Q := by
        intro f
        induction f with
        | zero =>
          intro c h2 hc b1' b2' e1' e2' l' r'
          have hM2 := MLay_eq hM r'
          have ec : c = (P.getD q []).length := by omega
          subst ec
          have g106 : gI h2 106 q = nI (P.getD q []).length := by rw [e1' 106 (by omega) (by omega)]; exact a1 q (by omega)
          have hq6' := h6 q
          refine V_iloadn2 dX10_readsCells_13 ?_
          refine V_aloadn0 dX10_readsCells_14 ?_
          refine V_getR dX10_readsCells_15 fX10_50 (by first | assumption | rfl) (by first | decide | omega) (by first | assumption | exact ML_4 (by assumption) | exact ML_5 (by assumption) | exact ML_6 (by assumption) | exact ML_7 (by assumption) | exact ML_8 (by assumption) | exact ML_9 (by assumption) | exact ML_10 (by assumption) | exact ML_11 (by assumption) | exact ML_12 (by assumption) | exact ML_13 (by assumption) | exact ML_15 (by assumption) | exact ML_16 (by assumption) | exact ML_17 (by assumption) | exact ML_20 (by assumption) | exact ML_23 (by assumption) | exact ML_24 (by assumption) | exact ML_30 (by assumption) | exact ML_31 (by assumption) | exact ML_32 (by assumption) | exact ML_33 (by assumption) | exact ML_35 (by assumption) | exact ML_36 (by assumption) | exact ML_37 (by assumption) | exact ML_38 (by assumption) | exact ML_41 (by assumption) | exact ML_42 (by assumption) | exact ML_43 (by assumption) | exact ML_44 (by assumption) | exact ML_45 (by assumption) | rfl) ?_
          refine V_iloadn1 dX10_readsCells_18 ?_
          refine U_iald dX10_readsCells_19 (by with_reducible rfl) (by first | assumption | rfl) (by first | decide | omega) (by omega) (by first | assumption | exact ML_4 (by assumption) | exact ML_5 (by assumption) | exact ML_6 (by assumption) | exact ML_7 (by assumption) | exact ML_8 (by assumption) | exact ML_9 (by assumption) | exact ML_10 (by assumption) | exact ML_11 (by assumption) | exact ML_12 (by assumption) | exact ML_13 (by assumption) | exact ML_15 (by assumption) | exact ML_16 (by assumption) | exact ML_17 (by assumption) | exact ML_20 (by assumption) | exact ML_23 (by assumption) | exact ML_24 (by assumption) | exact ML_30 (by assumption) | exact ML_31 (by assumption) | exact ML_32 (by assumption) | exact ML_33 (by assumption) | exact ML_35 (by assumption) | exact ML_36 (by assumption) | exact ML_37 (by assumption) | exact ML_38 (by assumption) | exact ML_41 (by assumption) | exact ML_42 (by assumption) | exact ML_43 (by assumption) | exact ML_44 (by assumption) | exact ML_45 (by assumption) | rfl) ?_
          first | refine U_icmp_ge (tgt := 59) dX10_readsCells_20 (by decide) (by with_reducible rfl) (by with_reducible rfl) (by omega) (by omega) (fun c20 => ?_) (fun c20 => ?_) | refine V_icmp_ge (tgt := 59) dX10_readsCells_20 (by decide) (fun c20 => ?_) (fun c20 => ?_)
          · skip
            refine V_iinc1 dX10_readsCells_59 (by first | exact gdecS _ | rfl) (by decide) rfl ?_
            refine V_goto (tgt := 7) dX10_readsCells_62 (by decide) ?_
            rw [← hlen] at b1' b2'
            exact ih h2 _ (by omega) b1' b2' e1' e2' l' r'
          · skip
            omega
        | succ f ihf =>
          intro c h2 hc b1' b2' e1' e2' l' r'
          have hM2 := MLay_eq hM r'
          have g106 : gI h2 106 q = nI (P.getD q []).length := by rw [e1' 106 (by omega) (by omega)]; exact a1 q (by omega)
          have g109 : gI h2 109 (6 * q + c) = nI ((P.getD q []).getD c 0) := by rw [e1' 109 (by omega) (by omega)]; exact a2 q c (by omega) (by omega)
          have hq6' := h6 q
          have g18 : gI (sI h2 105 (u.length + c) (nI ((P.getD q []).getD c 0))) 94 18 = nI (u.length + c) := by rw [gI_sI, if_neg (by omega)]; exact b1'
          refine V_iloadn2 dX10_readsCells_13 ?_
          refine V_aloadn0 dX10_readsCells_14 ?_
          refine V_getR dX10_readsCells_15 fX10_50 (by first | assumption | rfl) (by first | decide | omega) (by first | assumption | exact ML_4 (by assumption) | exact ML_5 (by assumption) | exact ML_6 (by assumption) | exact ML_7 (by assumption) | exact ML_8 (by assumption) | exact ML_9 (by assumption) | exact ML_10 (by assumption) | exact ML_11 (by assumption) | exact ML_12 (by assumption) | exact ML_13 (by assumption) | exact ML_15 (by assumption) | exact ML_16 (by assumption) | exact ML_17 (by assumption) | exact ML_20 (by assumption) | exact ML_23 (by assumption) | exact ML_24 (by assumption) | exact ML_30 (by assumption) | exact ML_31 (by assumption) | exact ML_32 (by assumption) | exact ML_33 (by assumption) | exact ML_35 (by assumption) | exact ML_36 (by assumption) | exact ML_37 (by assumption) | exact ML_38 (by assumption) | exact ML_41 (by assumption) | exact ML_42 (by assumption) | exact ML_43 (by assumption) | exact ML_44 (by assumption) | exact ML_45 (by assumption) | rfl) ?_
          refine V_iloadn1 dX10_readsCells_18 ?_
          refine U_iald dX10_readsCells_19 (by with_reducible rfl) (by first | assumption | rfl) (by first | decide | omega) (by omega) (by first | assumption | exact ML_4 (by assumption) | exact ML_5 (by assumption) | exact ML_6 (by assumption) | exact ML_7 (by assumption) | exact ML_8 (by assumption) | exact ML_9 (by assumption) | exact ML_10 (by assumption) | exact ML_11 (by assumption) | exact ML_12 (by assumption) | exact ML_13 (by assumption) | exact ML_15 (by assumption) | exact ML_16 (by assumption) | exact ML_17 (by assumption) | exact ML_20 (by assumption) | exact ML_23 (by assumption) | exact ML_24 (by assumption) | exact ML_30 (by assumption) | exact ML_31 (by assumption) | exact ML_32 (by assumption) | exact ML_33 (by assumption) | exact ML_35 (by assumption) | exact ML_36 (by assumption) | exact ML_37 (by assumption) | exact ML_38 (by assumption) | exact ML_41 (by assumption) | exact ML_42 (by assumption) | exact ML_43 (by assumption) | exact ML_44 (by assumption) | exact ML_45 (by assumption) | rfl) ?_
          first | refine U_icmp_ge (tgt := 59) dX10_readsCells_20 (by decide) (by with_reducible rfl) (by with_reducible rfl) (by omega) (by omega) (fun c20 => ?_) (fun c20 => ?_) | refine V_icmp_ge (tgt := 59) dX10_readsCells_20 (by decide) (fun c20 => ?_) (fun c20 => ?_)
          · skip
            omega
          · skip
            refine V_aloadn0 dX10_readsCells_23 ?_
            refine V_getR dX10_readsCells_24 fX10_47 (by first | assumption | rfl) (by first | decide | omega) (by first | assumption | exact ML_4 (by assumption) | exact ML_5 (by assumption) | exact ML_6 (by assumption) | exact ML_7 (by assumption) | exact ML_8 (by assumption) | exact ML_9 (by assumption) | exact ML_10 (by assumption) | exact ML_11 (by assumption) | exact ML_12 (by assumption) | exact ML_13 (by assumption) | exact ML_15 (by assumption) | exact ML_16 (by assumption) | exact ML_17 (by assumption) | exact ML_20 (by assumption) | exact ML_23 (by assumption) | exact ML_24 (by assumption) | exact ML_30 (by assumption) | exact ML_31 (by assumption) | exact ML_32 (by assumption) | exact ML_33 (by assumption) | exact ML_35 (by assumption) | exact ML_36 (by assumption) | exact ML_37 (by assumption) | exact ML_38 (by assumption) | exact ML_41 (by assumption) | exact ML_42 (by assumption) | exact ML_43 (by assumption) | exact ML_44 (by assumption) | exact ML_45 (by assumption) | rfl) ?_
            refine V_aloadn0 dX10_readsCells_27 ?_
            refine V_getI dX10_readsCells_28 fX10_111 (Or.inl rfl) (by first | assumption | rfl) (by first | decide | omega) (by first | assumption | exact ML_4 (by assumption) | exact ML_5 (by assumption) | exact ML_6 (by assumption) | exact ML_7 (by assumption) | exact ML_8 (by assumption) | exact ML_9 (by assumption) | exact ML_10 (by assumption) | exact ML_11 (by assumption) | exact ML_12 (by assumption) | exact ML_13 (by assumption) | exact ML_15 (by assumption) | exact ML_16 (by assumption) | exact ML_17 (by assumption) | exact ML_20 (by assumption) | exact ML_23 (by assumption) | exact ML_24 (by assumption) | exact ML_30 (by assumption) | exact ML_31 (by assumption) | exact ML_32 (by assumption) | exact ML_33 (by assumption) | exact ML_35 (by assumption) | exact ML_36 (by assumption) | exact ML_37 (by assumption) | exact ML_38 (by assumption) | exact ML_41 (by assumption) | exact ML_42 (by assumption) | exact ML_43 (by assumption) | exact ML_44 (by assumption) | exact ML_45 (by assumption) | rfl) ?_
            refine V_aloadn0 dX10_readsCells_31 ?_
            refine V_getR dX10_readsCells_32 fX10_59 (by first | assumption | rfl) (by first | decide | omega) (by first | assumption | exact ML_4 (by assumption) | exact ML_5 (by assumption) | exact ML_6 (by assumption) | exact ML_7 (by assumption) | exact ML_8 (by assumption) | exact ML_9 (by assumption) | exact ML_10 (by assumption) | exact ML_11 (by assumption) | exact ML_12 (by assumption) | exact ML_13 (by assumption) | exact ML_15 (by assumption) | exact ML_16 (by assumption) | exact ML_17 (by assumption) | exact ML_20 (by assumption) | exact ML_23 (by assumption) | exact ML_24 (by assumption) | exact ML_30 (by assumption) | exact ML_31 (by assumption) | exact ML_32 (by assumption) | exact ML_33 (by assumption) | exact ML_35 (by assumption) | exact ML_36 (by assumption) | exact ML_37 (by assumption) | exact ML_38 (by assumption) | exact ML_41 (by assumption) | exact ML_42 (by assumption) | exact ML_43 (by assumption) | exact ML_44 (by assumption) | exact ML_45 (by assumption) | rfl) ?_
            refine V_bipush (v := nI 6) dX10_readsCells_35 (by decide) ?_
            refine V_iloadn1 dX10_readsCells_37 ?_
            first | refine U_imul dX10_readsCells_38 (by with_reducible rfl) (by with_reducible rfl) ?_ | refine V_imul dX10_readsCells_38 ?_
            refine V_iloadn2 dX10_readsCells_39 ?_
            first | refine U_iadd dX10_readsCells_40 (by with_reducible rfl) (by with_reducible rfl) ?_ | refine V_iadd dX10_readsCells_40 ?_
            refine U_iald dX10_readsCells_41 (by with_reducible rfl) (by first | assumption | rfl) (by first | decide | omega) (by omega) (by first | assumption | exact ML_4 (by assumption) | exact ML_5 (by assumption) | exact ML_6 (by assumption) | exact ML_7 (by assumption) | exact ML_8 (by assumption) | exact ML_9 (by assumption) | exact ML_10 (by assumption) | exact ML_11 (by assumption) | exact ML_12 (by assumption) | exact ML_13 (by assumption) | exact ML_15 (by assumption) | exact ML_16 (by assumption) | exact ML_17 (by assumption) | exact ML_20 (by assumption) | exact ML_23 (by assumption) | exact ML_24 (by assumption) | exact ML_30 (by assumption) | exact ML_31 (by assumption) | exact ML_32 (by assumption) | exact ML_33 (by assumption) | exact ML_35 (by assumption) | exact ML_36 (by assumption) | exact ML_37 (by assumption) | exact ML_38 (by assumption) | exact ML_41 (by assumption) | exact ML_42 (by assumption) | exact ML_43 (by assumption) | exact ML_44 (by assumption) | exact ML_45 (by assumption) | rfl) ?_
            refine U_iast dX10_readsCells_42 (by with_reducible rfl) (by first | assumption | rfl) (by first | decide | omega) (by omega) ?_
            refine V_aloadn0 dX10_readsCells_43 ?_
            first | refine V_dupa dX10_readsCells_44 ?_ | refine V_dupi dX10_readsCells_44 ?_
            refine V_getI dX10_readsCells_45 fX10_111 (Or.inl rfl) (by first | assumption | rfl) (by first | decide | omega) (by first | assumption | exact ML_4 (by assumption) | exact ML_5 (by assumption) | exact ML_6 (by assumption) | exact ML_7 (by assumption) | exact ML_8 (by assumption) | exact ML_9 (by assumption) | exact ML_10 (by assumption) | exact ML_11 (by assumption) | exact ML_12 (by assumption) | exact ML_13 (by assumption) | exact ML_15 (by assumption) | exact ML_16 (by assumption) | exact ML_17 (by assumption) | exact ML_20 (by assumption) | exact ML_23 (by assumption) | exact ML_24 (by assumption) | exact ML_30 (by assumption) | exact ML_31 (by assumption) | exact ML_32 (by assumption) | exact ML_33 (by assumption) | exact ML_35 (by assumption) | exact ML_36 (by assumption) | exact ML_37 (by assumption) | exact ML_38 (by assumption) | exact ML_41 (by assumption) | exact ML_42 (by assumption) | exact ML_43 (by assumption) | exact ML_44 (by assumption) | exact ML_45 (by assumption) | rfl) ?_
            refine V_iconst (v := nI 1) dX10_readsCells_48 (by decide) ?_
            first | refine U_iadd dX10_readsCells_49 (by with_reducible rfl) (by with_reducible rfl) ?_ | refine V_iadd dX10_readsCells_49 ?_
            refine V_putI dX10_readsCells_50 fX10_111 (by first | assumption | rfl) (by first | decide | omega) ?_
            refine V_iinc2 dX10_readsCells_53 (by first | exact ginc1 _ | rfl) (by decide) rfl ?_
            refine V_goto (tgt := 13) dX10_readsCells_56 (by decide) ?_
            refine ihf (c + 1) _ (by omega) (by rw [gI_sI, if_pos ⟨rfl, rfl⟩]; rfl) (fun j hj => ?_) (fun a n1 n2 => ?_) (fun k n1 n2 => ?_) l' r'
            · rw [gI_sI, if_neg (by omega), gI_sI]
              by_cases ej : j = u.length + c
              · rw [if_pos ⟨rfl, ej⟩, ej, hw, getD_app, if_neg (by omega), show u.length + c - u.length = c by omega]
              · rw [if_neg (fun z => ej z.2)]; exact b2' j (by omega)
            · funext b
              rw [gI_sI, if_neg (fun z => n1 z.1), gI_sI, if_neg (fun z => n2 z.1)]; exact congrFun (e1' a n1 n2) b
            · rw [gI_sI, if_neg (by omega), gI_sI, if_neg (by omega)]; exact e2' k n1 n2
      rw [gdecP]
      refine V_iloadn1 dX10_readsCells_7 ?_
      refine V_if_lt (tgt := 65) dX10_readsCells_8 (by decide) (fun c8 => ?_) (fun c8 => ?_)
      · skip
        exact absurd c8 (nI_pos (by omega))
      · skip
        refine V_iconst (v := nI 0) dX10_readsCells_11 (by decide) ?_
        refine V_istoren2 dX10_readsCells_12 (by decide) rfl ?_
        refine inner _ 0 h1 (Nat.zero_add _) b1 (fun j hj => ?_) e1 e2 l r
        rw [hw, getD_app, if_pos (by omega)]; exact b2 j (by omega)
  have hn : P.drop 6 = [] := List.drop_eq_nil_of_le (by omega)
  refine V_aloadn0 dX10_readsCells_0 ?_
  refine V_iconst (v := nI 0) dX10_readsCells_1 (by decide) ?_
  refine V_putI dX10_readsCells_2 fX10_111 (by first | assumption | rfl) (by first | decide | omega) ?_
  refine V_iconst (v := nI 5) dX10_readsCells_5 (by decide) ?_
  refine V_istoren1 dX10_readsCells_6 (by decide) rfl ?_
  have ho := outer 6 (sI h 94 18 (nI 0)) none (Nat.le_refl _) (by rw [hn, gI_sI, if_pos ⟨rfl, rfl⟩]; rfl) (fun j hj => by rw [hn] at hj; exact absurd hj (Nat.not_lt_zero _)) (fun a n1 n2 => by funext b; rw [gI_sI, if_neg (fun z => n1 z.1)]) (fun k n1 n2 => by rw [gI_sI, if_neg (fun z => n1 z.2)]) rfl rfl
  exact ho
set_option maxRecDepth 100000 in
set_option maxHeartbeats 4000000 in
theorem m_inserts {w : List Nat} (hd : 1 ≤ d) (hM : MLay h) (hW : WW h w) (hQ : ∀ h', WW h' (rdL (insW w w.length)) → gI h' 94 19 = nI 2 → CG h' (insW w w.length) → CT h' (insW w w.length) (turW w w.length) → FrX h h' → Q none h') : V Γ mX10_inserts d 124 124 h 0 [some (.ref 94), none, none, none, none, none, none] [] Q := by
  obtain ⟨w0, w1, w6, w9⟩ := id hW
  have kloop : ∀ f k h1 x2 x3 x4 x5 x6, k + f = w.length → CG h1 (insW w k) → CT h1 (insW w k) (turW w k) → gI h1 105 = gI h 105 → gI h1 94 18 = gI h 94 18 → FrX h h1 → V Γ mX10_inserts d 124 124 h1 23 [some (.ref 94), some (.int (nI k)), x2, x3, x4, x5, x6] [] Q := by
    intro f
    induction f with
    | zero =>
      intro k h1 x2 x3 x4 x5 x6 hk hC hT e105 e18 hF
      have ek : k = w.length := by omega
      subst ek
      have hM1 := MLay_eq hM hF.2.2.2
      have g18 : gI h1 94 18 = nI w.length := by rw [e18]; exact w0
      refine V_iloadn1 dX10_inserts_23 ?_
      refine V_aloadn0 dX10_inserts_24 ?_
      refine V_getI dX10_inserts_25 fX10_111 (Or.inl rfl) (by first | assumption | rfl) (by first | decide | omega) (by first | assumption | exact ML_4 (by assumption) | exact ML_5 (by assumption) | exact ML_6 (by assumption) | exact ML_7 (by assumption) | exact ML_8 (by assumption) | exact ML_9 (by assumption) | exact ML_10 (by assumption) | exact ML_11 (by assumption) | exact ML_12 (by assumption) | exact ML_13 (by assumption) | exact ML_15 (by assumption) | exact ML_16 (by assumption) | exact ML_17 (by assumption) | exact ML_20 (by assumption) | exact ML_23 (by assumption) | exact ML_24 (by assumption) | exact ML_30 (by assumption) | exact ML_31 (by assumption) | exact ML_32 (by assumption) | exact ML_33 (by assumption) | exact ML_35 (by assumption) | exact ML_36 (by assumption) | exact ML_37 (by assumption) | exact ML_38 (by assumption) | exact ML_41 (by assumption) | exact ML_42 (by assumption) | exact ML_43 (by assumption) | exact ML_44 (by assumption) | exact ML_45 (by assumption) | rfl) ?_
      first | refine U_icmp_ge (tgt := 183) dX10_inserts_28 (by decide) (by with_reducible rfl) (by with_reducible rfl) (by omega) (by omega) (fun c28 => ?_) (fun c28 => ?_) | refine V_icmp_ge (tgt := 183) dX10_inserts_28 (by decide) (fun c28 => ?_) (fun c28 => ?_)
      · skip
        refine V_aloadn0 dX10_inserts_183 ?_
        refine V_callV0 (μ' := mX10_readsCells) dX10_inserts_184 okX10_readsCells lX10_143 rfl (by first | assumption | rfl) (by first | decide | omega) (Nat.le_of_ble_eq_true rfl) (Nat.le_of_ble_eq_true rfl) (by omega) ?_
        refine m_readsCells hM1 hC (fun h2 hW2 hk2 e2 e2' l2 r2 => ?_)
        dsimp only [gPush]
        refine V_ret dX10_inserts_187 rfl ?_
        exact hQ h2 hW2 hk2 (CG_cg hC (e2 106 (by omega) (by omega)) (e2 109 (by omega) (by omega))) (CT_cg hT (e2 115 (by omega) (by omega))) (hF.tr ⟨fun a ha => e2 a (by omega) (by omega), fun k hk => e2' k (by omega) (by omega), fun a _ => by rw [l2], r2⟩)
      · skip
        omega
    | succ f ih =>
      intro k h1 x2 x3 x4 x5 x6 hk hC hT e105 e18 hF
      have hM1 := MLay_eq hM hF.2.2.2
      have g18 : gI h1 94 18 = nI w.length := by rw [e18]; exact w0
      have gk : gI h1 105 k = nI (w.getD k 0) := by rw [e105]; exact w1 k (by omega)
      have hz := insW_sz w k
      have hne := insW_ne w k
      have hpar := insW_par w k
      have rloop : ∀ (rest restT D DT : List (List Nat)) (y : Nat) (h2 : gH) (x5 x6 : Option Value), CG h2 (D ++ rest) → CT h2 (D ++ rest) (DT ++ restT) → y ≤ 9 → szL (D ++ rest) = k → neL (D ++ rest) → parL D DT → parL rest restT → D ++ ins rest y = insW w (k + 1) → DT ++ insT rest restT y (k + 1) = turW w (k + 1) → gI h2 105 = gI h 105 → gI h2 94 18 = gI h 94 18 → FrX h h2 → V Γ mX10_inserts d 124 124 h2 43 [some (.ref 94), some (.int (nI k)), some (.int (nI y)), some (.int (nI D.length)), some (.int (nI 1)), x5, x6] [] Q := by
        intro rest
        induction rest with
        | nil =>
          intro restT D DT y h2 x5 x6 hC2 hT2 hy hz2 hne2 hpD hpr hins hinsT e105' e18' hF2
          have hM2 := MLay_eq hM hF2.2.2.2
          have hdl : D.length ≤ 5 := by have := neL_len _ hne2; rw [List.append_nil] at this hz2; omega
          have hrT : restT = [] := by cases restT with
            | nil => rfl
            | cons a b => simp [parL] at hpr
          subst hrT
          have hlT : DT.length = D.length := by have := congrArg List.length hpD; simpa using this.symm
          rw [List.append_nil] at hC2 hz2 hne2
          rw [List.append_nil, List.append_nil] at hT2
          have hrow : D.getD D.length [] = [] := getD_out (Nat.le_refl _)
          have g106 : gI h2 106 D.length = nI 0 := by have := hC2.1 D.length (by omega); rw [hrow] at this; exact this
          have hadd : isAdd D (D ++ [[y]]) D.length y := isAdd_end
          have hC3 := CG_add hC2 (r := D.length) (by omega) hy (by omega) hadd
          rw [hrow] at hC3
          generalize hh3 : sI h2 109 (6 * D.length + 0) (nI y) = h3
          have hM3 : MLay h3 := by rw [← hh3]; exact MLay_eq hM2 rfl
          have g106' : gI h3 106 D.length = nI 0 := by rw [← hh3, gI_sI, if_neg (by omega)]; exact g106
          generalize hh4 : sI h3 106 D.length (nI (0 + 1)) = h4
          have hM4 : MLay h4 := by rw [← hh4]; exact MLay_eq hM3 rfl
          have hC4 : CG h4 (insW w (k + 1)) := by rw [← hins, ← hh4, ← hh3]; exact hC3
          have hF5 : FrX h (sI h4 115 (6 * D.length + 0) (nI (k + 1))) := by rw [← hh4, ← hh3]; exact frx_sI (frx_sI (frx_sI hF2 (by omega)) (by omega)) (by omega)
          have hT5 : CT (sI h4 115 (6 * D.length + 0) (nI (k + 1))) (insW w (k + 1)) (turW w (k + 1)) := by
            rw [← hins, ← hinsT]
            intro r c hr hc
            have hc1 : c < ((D ++ [[y]]).getD r []).length := hc
            show gI _ 115 (6 * r + c) = nI (((DT ++ [[k + 1]]).getD r []).getD c 0)
            have h6 := CG_row6 hC2 r
            rw [hadd.1] at hc1
            rw [gI_sI, getD_mid, hlT]
            by_cases e : r = D.length
            · subst e
              rw [if_pos rfl, hrow] at hc1
              have ec : c = 0 := by simpa using hc1
              subst ec
              rw [if_pos ⟨rfl, rfl⟩, if_pos rfl]; rfl
            · rw [if_neg e] at hc1
              rw [if_neg (by omega), if_neg e]
              have hrl : r < D.length := by
                apply Classical.byContradiction
                intro q
                rw [getD_out (by omega)] at hc1
                exact absurd hc1 (Nat.not_lt_zero _)
              rw [if_pos hrl, ← hh4, gI_sI, if_neg (by omega), ← hh3, gI_sI, if_neg (by omega)]
              exact hT2 r c hr hc1
          have nxt := ih (k + 1) (sI h4 115 (6 * D.length + 0) (nI (k + 1))) (some (.int (nI 0))) (some (.int (nI (D.length + 1)))) (some (.int (nI 0))) (some (.int (nI 0))) (some (.int (nI 0))) (by omega) (CG_cg hC4 (by funext b; rw [gI_sI, if_neg (by omega)]) (by funext b; rw [gI_sI, if_neg (by omega)])) hT5 (by funext b; rw [gI_sI, if_neg (by omega), ← hh4, gI_sI, if_neg (by omega), ← hh3, gI_sI, if_neg (by omega)]; exact congrFun e105' b) (by rw [gI_sI, if_neg (by omega), ← hh4, gI_sI, if_neg (by omega), ← hh3, gI_sI, if_neg (by omega)]; exact e18') hF5
          have at84 : V Γ mX10_inserts d 124 124 h2 84 [some (.ref 94), some (.int (nI k)), some (.int (nI y)), some (.int (nI D.length)), some (.int (nI 1)), some (.int (nI 0)), x6] [] Q := by
            refine V_iloadw5 dX10_inserts_84 ?_
            refine V_aloadn0 dX10_inserts_86 ?_
            refine V_getR dX10_inserts_87 fX10_50 (by first | assumption | rfl) (by first | decide | omega) (by first | assumption | exact ML_4 (by assumption) | exact ML_5 (by assumption) | exact ML_6 (by assumption) | exact ML_7 (by assumption) | exact ML_8 (by assumption) | exact ML_9 (by assumption) | exact ML_10 (by assumption) | exact ML_11 (by assumption) | exact ML_12 (by assumption) | exact ML_13 (by assumption) | exact ML_15 (by assumption) | exact ML_16 (by assumption) | exact ML_17 (by assumption) | exact ML_20 (by assumption) | exact ML_23 (by assumption) | exact ML_24 (by assumption) | exact ML_30 (by assumption) | exact ML_31 (by assumption) | exact ML_32 (by assumption) | exact ML_33 (by assumption) | exact ML_35 (by assumption) | exact ML_36 (by assumption) | exact ML_37 (by assumption) | exact ML_38 (by assumption) | exact ML_41 (by assumption) | exact ML_42 (by assumption) | exact ML_43 (by assumption) | exact ML_44 (by assumption) | exact ML_45 (by assumption) | rfl) ?_
            refine V_iloadn3 dX10_inserts_90 ?_
            refine U_iald dX10_inserts_91 (by with_reducible rfl) (by first | assumption | rfl) (by first | decide | omega) (by omega) (by first | assumption | exact ML_4 (by assumption) | exact ML_5 (by assumption) | exact ML_6 (by assumption) | exact ML_7 (by assumption) | exact ML_8 (by assumption) | exact ML_9 (by assumption) | exact ML_10 (by assumption) | exact ML_11 (by assumption) | exact ML_12 (by assumption) | exact ML_13 (by assumption) | exact ML_15 (by assumption) | exact ML_16 (by assumption) | exact ML_17 (by assumption) | exact ML_20 (by assumption) | exact ML_23 (by assumption) | exact ML_24 (by assumption) | exact ML_30 (by assumption) | exact ML_31 (by assumption) | exact ML_32 (by assumption) | exact ML_33 (by assumption) | exact ML_35 (by assumption) | exact ML_36 (by assumption) | exact ML_37 (by assumption) | exact ML_38 (by assumption) | exact ML_41 (by assumption) | exact ML_42 (by assumption) | exact ML_43 (by assumption) | exact ML_44 (by assumption) | exact ML_45 (by assumption) | rfl) ?_
            first | refine U_icmp_ge (tgt := 99) dX10_inserts_92 (by decide) (by with_reducible rfl) (by with_reducible rfl) (by omega) (by omega) (fun c92 => ?_) (fun c92 => ?_) | refine V_icmp_ge (tgt := 99) dX10_inserts_92 (by decide) (fun c92 => ?_) (fun c92 => ?_)
            · skip
              refine V_iconst (v := nI 0) dX10_inserts_99 (by decide) ?_
              refine V_istorew4 dX10_inserts_100 (by decide) rfl ?_
              refine V_iloadw4 dX10_inserts_102 ?_
              first | refine U_ifB_eq (tgt := 122) dX10_inserts_104 (by decide) (by with_reducible rfl) (fun c104 => ?_) (fun c104 => ?_) | refine U_if_eq (tgt := 122) dX10_inserts_104 (by decide) (by with_reducible rfl) (by omega) (fun c104 => ?_) (fun c104 => ?_) | refine V_if_eq (tgt := 122) dX10_inserts_104 (by decide) (fun c104 => ?_) (fun c104 => ?_)
              · skip
                refine V_iconst (v := nI 0) dX10_inserts_122 (by decide) ?_
                refine V_istorew6 dX10_inserts_123 (by decide) rfl ?_
                refine V_aloadn0 dX10_inserts_125 ?_
                refine V_getR dX10_inserts_126 fX10_59 (by first | assumption | rfl) (by first | decide | omega) (by first | assumption | exact ML_4 (by assumption) | exact ML_5 (by assumption) | exact ML_6 (by assumption) | exact ML_7 (by assumption) | exact ML_8 (by assumption) | exact ML_9 (by assumption) | exact ML_10 (by assumption) | exact ML_11 (by assumption) | exact ML_12 (by assumption) | exact ML_13 (by assumption) | exact ML_15 (by assumption) | exact ML_16 (by assumption) | exact ML_17 (by assumption) | exact ML_20 (by assumption) | exact ML_23 (by assumption) | exact ML_24 (by assumption) | exact ML_30 (by assumption) | exact ML_31 (by assumption) | exact ML_32 (by assumption) | exact ML_33 (by assumption) | exact ML_35 (by assumption) | exact ML_36 (by assumption) | exact ML_37 (by assumption) | exact ML_38 (by assumption) | exact ML_41 (by assumption) | exact ML_42 (by assumption) | exact ML_43 (by assumption) | exact ML_44 (by assumption) | exact ML_45 (by assumption) | rfl) ?_
                refine V_bipush (v := nI 6) dX10_inserts_129 (by decide) ?_
                refine V_iloadn3 dX10_inserts_131 ?_
                first | refine U_imul dX10_inserts_132 (by with_reducible rfl) (by with_reducible rfl) ?_ | refine V_imul dX10_inserts_132 ?_
                refine V_iloadw5 dX10_inserts_133 ?_
                first | refine U_iadd dX10_inserts_135 (by with_reducible rfl) (by with_reducible rfl) ?_ | refine V_iadd dX10_inserts_135 ?_
                refine V_iloadn2 dX10_inserts_136 ?_
                refine U_iast dX10_inserts_137 (by with_reducible rfl) (by first | assumption | rfl) (by first | decide | omega) (by omega) ?_
                rw [hh3]
                refine V_iloadw6 dX10_inserts_138 ?_
                refine V_istoren2 dX10_inserts_140 (by decide) rfl ?_
                refine V_iloadw4 dX10_inserts_141 ?_
                first | refine U_ifB_ne (tgt := 171) dX10_inserts_143 (by decide) (by with_reducible rfl) (fun c143 => ?_) (fun c143 => ?_) | refine U_if_ne (tgt := 171) dX10_inserts_143 (by decide) (by with_reducible rfl) (by omega) (fun c143 => ?_) (fun c143 => ?_) | refine V_if_ne (tgt := 171) dX10_inserts_143 (by decide) (fun c143 => ?_) (fun c143 => ?_)
                · skip
                  omega
                · skip
                  refine V_aloadn0 dX10_inserts_146 ?_
                  refine V_getR dX10_inserts_147 fX10_50 (by first | assumption | rfl) (by first | decide | omega) (by first | assumption | exact ML_4 (by assumption) | exact ML_5 (by assumption) | exact ML_6 (by assumption) | exact ML_7 (by assumption) | exact ML_8 (by assumption) | exact ML_9 (by assumption) | exact ML_10 (by assumption) | exact ML_11 (by assumption) | exact ML_12 (by assumption) | exact ML_13 (by assumption) | exact ML_15 (by assumption) | exact ML_16 (by assumption) | exact ML_17 (by assumption) | exact ML_20 (by assumption) | exact ML_23 (by assumption) | exact ML_24 (by assumption) | exact ML_30 (by assumption) | exact ML_31 (by assumption) | exact ML_32 (by assumption) | exact ML_33 (by assumption) | exact ML_35 (by assumption) | exact ML_36 (by assumption) | exact ML_37 (by assumption) | exact ML_38 (by assumption) | exact ML_41 (by assumption) | exact ML_42 (by assumption) | exact ML_43 (by assumption) | exact ML_44 (by assumption) | exact ML_45 (by assumption) | rfl) ?_
                  refine V_iloadn3 dX10_inserts_150 ?_
                  refine V_dup2 dX10_inserts_151 ?_
                  refine U_iald dX10_inserts_152 (by with_reducible rfl) (by first | assumption | rfl) (by first | decide | omega) (by omega) (by first | assumption | exact ML_4 (by assumption) | exact ML_5 (by assumption) | exact ML_6 (by assumption) | exact ML_7 (by assumption) | exact ML_8 (by assumption) | exact ML_9 (by assumption) | exact ML_10 (by assumption) | exact ML_11 (by assumption) | exact ML_12 (by assumption) | exact ML_13 (by assumption) | exact ML_15 (by assumption) | exact ML_16 (by assumption) | exact ML_17 (by assumption) | exact ML_20 (by assumption) | exact ML_23 (by assumption) | exact ML_24 (by assumption) | exact ML_30 (by assumption) | exact ML_31 (by assumption) | exact ML_32 (by assumption) | exact ML_33 (by assumption) | exact ML_35 (by assumption) | exact ML_36 (by assumption) | exact ML_37 (by assumption) | exact ML_38 (by assumption) | exact ML_41 (by assumption) | exact ML_42 (by assumption) | exact ML_43 (by assumption) | exact ML_44 (by assumption) | exact ML_45 (by assumption) | rfl) ?_
                  refine V_iconst (v := nI 1) dX10_inserts_153 (by decide) ?_
                  first | refine U_iadd dX10_inserts_154 (by with_reducible rfl) (by with_reducible rfl) ?_ | refine V_iadd dX10_inserts_154 ?_
                  refine U_iast dX10_inserts_155 (by with_reducible rfl) (by first | assumption | rfl) (by first | decide | omega) (by omega) ?_
                  rw [hh4]
                  refine V_aloadn0 dX10_inserts_156 ?_
                  refine V_getR dX10_inserts_157 fX10_77 (by first | assumption | rfl) (by first | decide | omega) (by first | assumption | exact ML_4 (by assumption) | exact ML_5 (by assumption) | exact ML_6 (by assumption) | exact ML_7 (by assumption) | exact ML_8 (by assumption) | exact ML_9 (by assumption) | exact ML_10 (by assumption) | exact ML_11 (by assumption) | exact ML_12 (by assumption) | exact ML_13 (by assumption) | exact ML_15 (by assumption) | exact ML_16 (by assumption) | exact ML_17 (by assumption) | exact ML_20 (by assumption) | exact ML_23 (by assumption) | exact ML_24 (by assumption) | exact ML_30 (by assumption) | exact ML_31 (by assumption) | exact ML_32 (by assumption) | exact ML_33 (by assumption) | exact ML_35 (by assumption) | exact ML_36 (by assumption) | exact ML_37 (by assumption) | exact ML_38 (by assumption) | exact ML_41 (by assumption) | exact ML_42 (by assumption) | exact ML_43 (by assumption) | exact ML_44 (by assumption) | exact ML_45 (by assumption) | rfl) ?_
                  refine V_bipush (v := nI 6) dX10_inserts_160 (by decide) ?_
                  refine V_iloadn3 dX10_inserts_162 ?_
                  first | refine U_imul dX10_inserts_163 (by with_reducible rfl) (by with_reducible rfl) ?_ | refine V_imul dX10_inserts_163 ?_
                  refine V_iloadw5 dX10_inserts_164 ?_
                  first | refine U_iadd dX10_inserts_166 (by with_reducible rfl) (by with_reducible rfl) ?_ | refine V_iadd dX10_inserts_166 ?_
                  refine V_iloadn1 dX10_inserts_167 ?_
                  refine V_iconst (v := nI 1) dX10_inserts_168 (by decide) ?_
                  first | refine U_iadd dX10_inserts_169 (by with_reducible rfl) (by with_reducible rfl) ?_ | refine V_iadd dX10_inserts_169 ?_
                  refine U_iast dX10_inserts_170 (by with_reducible rfl) (by first | assumption | rfl) (by first | decide | omega) (by omega) ?_
                  refine V_iinc3 dX10_inserts_171 (by first | exact ginc1 _ | rfl) (by decide) rfl ?_
                  refine V_goto (tgt := 43) dX10_inserts_174 (by decide) ?_
                  refine V_iloadw4 dX10_inserts_43 ?_
                  first | refine U_ifB_eq (tgt := 177) dX10_inserts_45 (by decide) (by with_reducible rfl) (fun c45 => ?_) (fun c45 => ?_) | refine U_if_eq (tgt := 177) dX10_inserts_45 (by decide) (by with_reducible rfl) (by omega) (fun c45 => ?_) (fun c45 => ?_) | refine V_if_eq (tgt := 177) dX10_inserts_45 (by decide) (fun c45 => ?_) (fun c45 => ?_)
                  · skip
                    refine V_iinc1 dX10_inserts_177 (by first | exact ginc1 _ | rfl) (by decide) rfl ?_
                    refine V_goto (tgt := 23) dX10_inserts_180 (by decide) ?_
                    exact nxt
                  · skip
                    omega
              · skip
                omega
            · skip
              omega
          refine V_iloadw4 dX10_inserts_43 ?_
          first | refine U_ifB_eq (tgt := 177) dX10_inserts_45 (by decide) (by with_reducible rfl) (fun c45 => ?_) (fun c45 => ?_) | refine U_if_eq (tgt := 177) dX10_inserts_45 (by decide) (by with_reducible rfl) (by omega) (fun c45 => ?_) (fun c45 => ?_) | refine V_if_eq (tgt := 177) dX10_inserts_45 (by decide) (fun c45 => ?_) (fun c45 => ?_)
          · skip
            omega
          · skip
            refine V_iconst (v := nI 0) dX10_inserts_48 (by decide) ?_
            refine V_istorew5 dX10_inserts_49 (by decide) rfl ?_
            refine V_iloadw5 dX10_inserts_51 ?_
            refine V_aloadn0 dX10_inserts_53 ?_
            refine V_getR dX10_inserts_54 fX10_50 (by first | assumption | rfl) (by first | decide | omega) (by first | assumption | exact ML_4 (by assumption) | exact ML_5 (by assumption) | exact ML_6 (by assumption) | exact ML_7 (by assumption) | exact ML_8 (by assumption) | exact ML_9 (by assumption) | exact ML_10 (by assumption) | exact ML_11 (by assumption) | exact ML_12 (by assumption) | exact ML_13 (by assumption) | exact ML_15 (by assumption) | exact ML_16 (by assumption) | exact ML_17 (by assumption) | exact ML_20 (by assumption) | exact ML_23 (by assumption) | exact ML_24 (by assumption) | exact ML_30 (by assumption) | exact ML_31 (by assumption) | exact ML_32 (by assumption) | exact ML_33 (by assumption) | exact ML_35 (by assumption) | exact ML_36 (by assumption) | exact ML_37 (by assumption) | exact ML_38 (by assumption) | exact ML_41 (by assumption) | exact ML_42 (by assumption) | exact ML_43 (by assumption) | exact ML_44 (by assumption) | exact ML_45 (by assumption) | rfl) ?_
            refine V_iloadn3 dX10_inserts_57 ?_
            refine U_iald dX10_inserts_58 (by with_reducible rfl) (by first | assumption | rfl) (by first | decide | omega) (by omega) (by first | assumption | exact ML_4 (by assumption) | exact ML_5 (by assumption) | exact ML_6 (by assumption) | exact ML_7 (by assumption) | exact ML_8 (by assumption) | exact ML_9 (by assumption) | exact ML_10 (by assumption) | exact ML_11 (by assumption) | exact ML_12 (by assumption) | exact ML_13 (by assumption) | exact ML_15 (by assumption) | exact ML_16 (by assumption) | exact ML_17 (by assumption) | exact ML_20 (by assumption) | exact ML_23 (by assumption) | exact ML_24 (by assumption) | exact ML_30 (by assumption) | exact ML_31 (by assumption) | exact ML_32 (by assumption) | exact ML_33 (by assumption) | exact ML_35 (by assumption) | exact ML_36 (by assumption) | exact ML_37 (by assumption) | exact ML_38 (by assumption) | exact ML_41 (by assumption) | exact ML_42 (by assumption) | exact ML_43 (by assumption) | exact ML_44 (by assumption) | exact ML_45 (by assumption) | rfl) ?_
            first | refine U_icmp_ge (tgt := 84) dX10_inserts_59 (by decide) (by with_reducible rfl) (by with_reducible rfl) (by omega) (by omega) (fun c59 => ?_) (fun c59 => ?_) | refine V_icmp_ge (tgt := 84) dX10_inserts_59 (by decide) (fun c59 => ?_) (fun c59 => ?_)
            · skip
              exact at84
            · skip
              omega
        | cons r rs ihr =>
          intro restT D DT y h2 x5 x6 hC2 hT2 hy hz2 hne2 hpD hpr hins hinsT e105' e18' hF2
          have hM2 := MLay_eq hM hF2.2.2.2
          obtain ⟨t, ts, rfl⟩ : ∃ t ts, restT = t :: ts := by cases restT with
            | nil => simp [parL] at hpr
            | cons a b => exact ⟨a, b, rfl⟩
          have hrt : r.length = t.length ∧ parL rs ts := by simpa [parL] using hpr
          have hlT : DT.length = D.length := by have := congrArg List.length hpD; simpa using this.symm
          have hdl : D.length ≤ 5 := by
            have := neL_len _ hne2
            rw [List.length_append, List.length_cons] at this
            omega
          have hrow : (D ++ r :: rs).getD D.length [] = r := by rw [getD_mid, if_pos rfl]
          have g106 : gI h2 106 D.length = nI r.length := by have := hC2.1 D.length (by omega); rw [hrow] at this; exact this
          have hr6 := CG_row6 hC2 D.length
          rw [hrow] at hr6
          have hfl := fg_le r y
          have hcell : ∀ c, c < r.length → gI h2 109 (6 * D.length + c) = nI (r.getD c 0) := fun c hc => by
            have := hC2.2.1 D.length c (by omega) (by rw [hrow]; exact hc)
            rw [hrow] at this
            exact this
          have hlet : ∀ c, r.getD c 0 ≤ 9 := fun c => by have := hC2.2.2.2.2 D.length c; rw [hrow] at this; exact this
          have hrl : r.length ≤ k := by rw [szL_app, szL_cons] at hz2; omega
          have at84 : V Γ mX10_inserts d 124 124 h2 84 [some (.ref 94), some (.int (nI k)), some (.int (nI y)), some (.int (nI D.length)), some (.int (nI 1)), some (.int (nI (fg r y))), x6] [] Q := by
            by_cases hcase : fg r y = r.length
            · rw [ins, if_pos hcase] at hins
              rw [insT, if_pos hcase] at hinsT
              have hadd : isAdd (D ++ r :: rs) (D ++ (r ++ [y]) :: rs) D.length y := isAdd_mid
              have hC3 := CG_add hC2 (r := D.length) (by omega) hy (by omega) hadd
              rw [hrow] at hC3
              rw [hcase]
              generalize hh3 : sI h2 109 (6 * D.length + r.length) (nI y) = h3
              have hM3 : MLay h3 := by rw [← hh3]; exact MLay_eq hM2 rfl
              have g106' : gI h3 106 D.length = nI r.length := by rw [← hh3, gI_sI, if_neg (by omega)]; exact g106
              generalize hh4 : sI h3 106 D.length (nI (r.length + 1)) = h4
              have hM4 : MLay h4 := by rw [← hh4]; exact MLay_eq hM3 rfl
              have hC4 : CG h4 (insW w (k + 1)) := by rw [← hins, ← hh4, ← hh3]; exact hC3
              have hF5 : FrX h (sI h4 115 (6 * D.length + r.length) (nI (k + 1))) := by rw [← hh4, ← hh3]; exact frx_sI (frx_sI (frx_sI hF2 (by omega)) (by omega)) (by omega)
              have hT5 : CT (sI h4 115 (6 * D.length + r.length) (nI (k + 1))) (insW w (k + 1)) (turW w (k + 1)) := by
                rw [← hins, ← hinsT]
                intro q c hq hc
                have h6 := CG_row6 hC2 q
                rw [hadd.1, hrow] at hc
                show gI _ 115 (6 * q + c) = nI (((DT ++ (t ++ [k + 1]) :: ts).getD q []).getD c 0)
                rw [gI_sI, getD_mid, hlT]
                by_cases e : q = D.length
                · subst e
                  rw [if_pos rfl] at hc ⊢
                  rw [List.length_append, List.length_singleton] at hc
                  rw [getD_snoc, ← hrt.1]
                  by_cases ec : c = r.length
                  · rw [if_pos ⟨rfl, by omega⟩, if_pos ec]
                  · rw [if_neg (by omega), if_neg ec, ← hh4, gI_sI, if_neg (by omega), ← hh3, gI_sI, if_neg (by omega)]
                    have := hT2 D.length c hq (by rw [hrow]; omega)
                    rw [getD_mid, hlT, if_pos rfl] at this
                    exact this
                · rw [if_neg e] at hc
                  rw [if_neg (by omega), if_neg e, ← hh4, gI_sI, if_neg (by omega), ← hh3, gI_sI, if_neg (by omega)]
                  have := hT2 q c hq hc
                  rw [getD_mid, hlT, if_neg e] at this
                  exact this
              have nxt := ih (k + 1) (sI h4 115 (6 * D.length + r.length) (nI (k + 1))) (some (.int (nI 0))) (some (.int (nI (D.length + 1)))) (some (.int (nI 0))) (some (.int (nI r.length))) (some (.int (nI 0))) (by omega) (CG_cg hC4 (by funext b; rw [gI_sI, if_neg (by omega)]) (by funext b; rw [gI_sI, if_neg (by omega)])) hT5 (by funext b; rw [gI_sI, if_neg (by omega), ← hh4, gI_sI, if_neg (by omega), ← hh3, gI_sI, if_neg (by omega)]; exact congrFun e105' b) (by rw [gI_sI, if_neg (by omega), ← hh4, gI_sI, if_neg (by omega), ← hh3, gI_sI, if_neg (by omega)]; exact e18') hF5
              refine V_iloadw5 dX10_inserts_84 ?_
              refine V_aloadn0 dX10_inserts_86 ?_
              refine V_getR dX10_inserts_87 fX10_50 (by first | assumption | rfl) (by first | decide | omega) (by first | assumption | exact ML_4 (by assumption) | exact ML_5 (by assumption) | exact ML_6 (by assumption) | exact ML_7 (by assumption) | exact ML_8 (by assumption) | exact ML_9 (by assumption) | exact ML_10 (by assumption) | exact ML_11 (by assumption) | exact ML_12 (by assumption) | exact ML_13 (by assumption) | exact ML_15 (by assumption) | exact ML_16 (by assumption) | exact ML_17 (by assumption) | exact ML_20 (by assumption) | exact ML_23 (by assumption) | exact ML_24 (by assumption) | exact ML_30 (by assumption) | exact ML_31 (by assumption) | exact ML_32 (by assumption) | exact ML_33 (by assumption) | exact ML_35 (by assumption) | exact ML_36 (by assumption) | exact ML_37 (by assumption) | exact ML_38 (by assumption) | exact ML_41 (by assumption) | exact ML_42 (by assumption) | exact ML_43 (by assumption) | exact ML_44 (by assumption) | exact ML_45 (by assumption) | rfl) ?_
              refine V_iloadn3 dX10_inserts_90 ?_
              refine U_iald dX10_inserts_91 (by with_reducible rfl) (by first | assumption | rfl) (by first | decide | omega) (by omega) (by first | assumption | exact ML_4 (by assumption) | exact ML_5 (by assumption) | exact ML_6 (by assumption) | exact ML_7 (by assumption) | exact ML_8 (by assumption) | exact ML_9 (by assumption) | exact ML_10 (by assumption) | exact ML_11 (by assumption) | exact ML_12 (by assumption) | exact ML_13 (by assumption) | exact ML_15 (by assumption) | exact ML_16 (by assumption) | exact ML_17 (by assumption) | exact ML_20 (by assumption) | exact ML_23 (by assumption) | exact ML_24 (by assumption) | exact ML_30 (by assumption) | exact ML_31 (by assumption) | exact ML_32 (by assumption) | exact ML_33 (by assumption) | exact ML_35 (by assumption) | exact ML_36 (by assumption) | exact ML_37 (by assumption) | exact ML_38 (by assumption) | exact ML_41 (by assumption) | exact ML_42 (by assumption) | exact ML_43 (by assumption) | exact ML_44 (by assumption) | exact ML_45 (by assumption) | rfl) ?_
              first | refine U_icmp_ge (tgt := 99) dX10_inserts_92 (by decide) (by with_reducible rfl) (by with_reducible rfl) (by omega) (by omega) (fun c92 => ?_) (fun c92 => ?_) | refine V_icmp_ge (tgt := 99) dX10_inserts_92 (by decide) (fun c92 => ?_) (fun c92 => ?_)
              · skip
                refine V_iconst (v := nI 0) dX10_inserts_99 (by decide) ?_
                refine V_istorew4 dX10_inserts_100 (by decide) rfl ?_
                refine V_iloadw4 dX10_inserts_102 ?_
                first | refine U_ifB_eq (tgt := 122) dX10_inserts_104 (by decide) (by with_reducible rfl) (fun c104 => ?_) (fun c104 => ?_) | refine U_if_eq (tgt := 122) dX10_inserts_104 (by decide) (by with_reducible rfl) (by omega) (fun c104 => ?_) (fun c104 => ?_) | refine V_if_eq (tgt := 122) dX10_inserts_104 (by decide) (fun c104 => ?_) (fun c104 => ?_)
                · skip
                  refine V_iconst (v := nI 0) dX10_inserts_122 (by decide) ?_
                  refine V_istorew6 dX10_inserts_123 (by decide) rfl ?_
                  refine V_aloadn0 dX10_inserts_125 ?_
                  refine V_getR dX10_inserts_126 fX10_59 (by first | assumption | rfl) (by first | decide | omega) (by first | assumption | exact ML_4 (by assumption) | exact ML_5 (by assumption) | exact ML_6 (by assumption) | exact ML_7 (by assumption) | exact ML_8 (by assumption) | exact ML_9 (by assumption) | exact ML_10 (by assumption) | exact ML_11 (by assumption) | exact ML_12 (by assumption) | exact ML_13 (by assumption) | exact ML_15 (by assumption) | exact ML_16 (by assumption) | exact ML_17 (by assumption) | exact ML_20 (by assumption) | exact ML_23 (by assumption) | exact ML_24 (by assumption) | exact ML_30 (by assumption) | exact ML_31 (by assumption) | exact ML_32 (by assumption) | exact ML_33 (by assumption) | exact ML_35 (by assumption) | exact ML_36 (by assumption) | exact ML_37 (by assumption) | exact ML_38 (by assumption) | exact ML_41 (by assumption) | exact ML_42 (by assumption) | exact ML_43 (by assumption) | exact ML_44 (by assumption) | exact ML_45 (by assumption) | rfl) ?_
                  refine V_bipush (v := nI 6) dX10_inserts_129 (by decide) ?_
                  refine V_iloadn3 dX10_inserts_131 ?_
                  first | refine U_imul dX10_inserts_132 (by with_reducible rfl) (by with_reducible rfl) ?_ | refine V_imul dX10_inserts_132 ?_
                  refine V_iloadw5 dX10_inserts_133 ?_
                  first | refine U_iadd dX10_inserts_135 (by with_reducible rfl) (by with_reducible rfl) ?_ | refine V_iadd dX10_inserts_135 ?_
                  refine V_iloadn2 dX10_inserts_136 ?_
                  refine U_iast dX10_inserts_137 (by with_reducible rfl) (by first | assumption | rfl) (by first | decide | omega) (by omega) ?_
                  rw [hh3]
                  refine V_iloadw6 dX10_inserts_138 ?_
                  refine V_istoren2 dX10_inserts_140 (by decide) rfl ?_
                  refine V_iloadw4 dX10_inserts_141 ?_
                  first | refine U_ifB_ne (tgt := 171) dX10_inserts_143 (by decide) (by with_reducible rfl) (fun c143 => ?_) (fun c143 => ?_) | refine U_if_ne (tgt := 171) dX10_inserts_143 (by decide) (by with_reducible rfl) (by omega) (fun c143 => ?_) (fun c143 => ?_) | refine V_if_ne (tgt := 171) dX10_inserts_143 (by decide) (fun c143 => ?_) (fun c143 => ?_)
                  · skip
                    omega
                  · skip
                    refine V_aloadn0 dX10_inserts_146 ?_
                    refine V_getR dX10_inserts_147 fX10_50 (by first | assumption | rfl) (by first | decide | omega) (by first | assumption | exact ML_4 (by assumption) | exact ML_5 (by assumption) | exact ML_6 (by assumption) | exact ML_7 (by assumption) | exact ML_8 (by assumption) | exact ML_9 (by assumption) | exact ML_10 (by assumption) | exact ML_11 (by assumption) | exact ML_12 (by assumption) | exact ML_13 (by assumption) | exact ML_15 (by assumption) | exact ML_16 (by assumption) | exact ML_17 (by assumption) | exact ML_20 (by assumption) | exact ML_23 (by assumption) | exact ML_24 (by assumption) | exact ML_30 (by assumption) | exact ML_31 (by assumption) | exact ML_32 (by assumption) | exact ML_33 (by assumption) | exact ML_35 (by assumption) | exact ML_36 (by assumption) | exact ML_37 (by assumption) | exact ML_38 (by assumption) | exact ML_41 (by assumption) | exact ML_42 (by assumption) | exact ML_43 (by assumption) | exact ML_44 (by assumption) | exact ML_45 (by assumption) | rfl) ?_
                    refine V_iloadn3 dX10_inserts_150 ?_
                    refine V_dup2 dX10_inserts_151 ?_
                    refine U_iald dX10_inserts_152 (by with_reducible rfl) (by first | assumption | rfl) (by first | decide | omega) (by omega) (by first | assumption | exact ML_4 (by assumption) | exact ML_5 (by assumption) | exact ML_6 (by assumption) | exact ML_7 (by assumption) | exact ML_8 (by assumption) | exact ML_9 (by assumption) | exact ML_10 (by assumption) | exact ML_11 (by assumption) | exact ML_12 (by assumption) | exact ML_13 (by assumption) | exact ML_15 (by assumption) | exact ML_16 (by assumption) | exact ML_17 (by assumption) | exact ML_20 (by assumption) | exact ML_23 (by assumption) | exact ML_24 (by assumption) | exact ML_30 (by assumption) | exact ML_31 (by assumption) | exact ML_32 (by assumption) | exact ML_33 (by assumption) | exact ML_35 (by assumption) | exact ML_36 (by assumption) | exact ML_37 (by assumption) | exact ML_38 (by assumption) | exact ML_41 (by assumption) | exact ML_42 (by assumption) | exact ML_43 (by assumption) | exact ML_44 (by assumption) | exact ML_45 (by assumption) | rfl) ?_
                    refine V_iconst (v := nI 1) dX10_inserts_153 (by decide) ?_
                    first | refine U_iadd dX10_inserts_154 (by with_reducible rfl) (by with_reducible rfl) ?_ | refine V_iadd dX10_inserts_154 ?_
                    refine U_iast dX10_inserts_155 (by with_reducible rfl) (by first | assumption | rfl) (by first | decide | omega) (by omega) ?_
                    rw [hh4]
                    refine V_aloadn0 dX10_inserts_156 ?_
                    refine V_getR dX10_inserts_157 fX10_77 (by first | assumption | rfl) (by first | decide | omega) (by first | assumption | exact ML_4 (by assumption) | exact ML_5 (by assumption) | exact ML_6 (by assumption) | exact ML_7 (by assumption) | exact ML_8 (by assumption) | exact ML_9 (by assumption) | exact ML_10 (by assumption) | exact ML_11 (by assumption) | exact ML_12 (by assumption) | exact ML_13 (by assumption) | exact ML_15 (by assumption) | exact ML_16 (by assumption) | exact ML_17 (by assumption) | exact ML_20 (by assumption) | exact ML_23 (by assumption) | exact ML_24 (by assumption) | exact ML_30 (by assumption) | exact ML_31 (by assumption) | exact ML_32 (by assumption) | exact ML_33 (by assumption) | exact ML_35 (by assumption) | exact ML_36 (by assumption) | exact ML_37 (by assumption) | exact ML_38 (by assumption) | exact ML_41 (by assumption) | exact ML_42 (by assumption) | exact ML_43 (by assumption) | exact ML_44 (by assumption) | exact ML_45 (by assumption) | rfl) ?_
                    refine V_bipush (v := nI 6) dX10_inserts_160 (by decide) ?_
                    refine V_iloadn3 dX10_inserts_162 ?_
                    first | refine U_imul dX10_inserts_163 (by with_reducible rfl) (by with_reducible rfl) ?_ | refine V_imul dX10_inserts_163 ?_
                    refine V_iloadw5 dX10_inserts_164 ?_
                    first | refine U_iadd dX10_inserts_166 (by with_reducible rfl) (by with_reducible rfl) ?_ | refine V_iadd dX10_inserts_166 ?_
                    refine V_iloadn1 dX10_inserts_167 ?_
                    refine V_iconst (v := nI 1) dX10_inserts_168 (by decide) ?_
                    first | refine U_iadd dX10_inserts_169 (by with_reducible rfl) (by with_reducible rfl) ?_ | refine V_iadd dX10_inserts_169 ?_
                    refine U_iast dX10_inserts_170 (by with_reducible rfl) (by first | assumption | rfl) (by first | decide | omega) (by omega) ?_
                    refine V_iinc3 dX10_inserts_171 (by first | exact ginc1 _ | rfl) (by decide) rfl ?_
                    refine V_goto (tgt := 43) dX10_inserts_174 (by decide) ?_
                    refine V_iloadw4 dX10_inserts_43 ?_
                    first | refine U_ifB_eq (tgt := 177) dX10_inserts_45 (by decide) (by with_reducible rfl) (fun c45 => ?_) (fun c45 => ?_) | refine U_if_eq (tgt := 177) dX10_inserts_45 (by decide) (by with_reducible rfl) (by omega) (fun c45 => ?_) (fun c45 => ?_) | refine V_if_eq (tgt := 177) dX10_inserts_45 (by decide) (fun c45 => ?_) (fun c45 => ?_)
                    · skip
                      refine V_iinc1 dX10_inserts_177 (by first | exact ginc1 _ | rfl) (by decide) rfl ?_
                      refine V_goto (tgt := 23) dX10_inserts_180 (by decide) ?_
                      exact nxt
                    · skip
                      omega
                · skip
                  omega
              · skip
                omega
            · rw [ins, if_neg hcase] at hins
              rw [insT, if_neg hcase] at hinsT
              have hc : fg r y < r.length := by omega
              have gc := hcell (fg r y) hc
              have hC3 := CG_set (P' := D ++ r.set (fg r y) y :: rs) hC2 (r := D.length) (c := fg r y) (x := y) (by omega) (by rw [hrow]; exact hc) hy (fun q => by
                rw [hrow, getD_mid, getD_mid]
                by_cases e : q = D.length
                · rw [if_pos e, if_pos e]
                · rw [if_neg e, if_neg e, if_neg e]) (by simp) (by rw [szL_app, szL_app, szL_cons, szL_cons, List.length_set])
              have hlen3 : ∀ q, ((D ++ r.set (fg r y) y :: rs).getD q []).length = ((D ++ r :: rs).getD q []).length := fun q => by
                rw [getD_mid, getD_mid]
                by_cases e : q = D.length
                · rw [if_pos e, if_pos e, List.length_set]
                · rw [if_neg e, if_neg e]
              have hT3 : CT (sI h2 109 (6 * D.length + fg r y) (nI y)) (D ++ r.set (fg r y) y :: rs) (DT ++ t :: ts) := fun q c hq hcq => by
                rw [hlen3] at hcq
                rw [gI_sI, if_neg (by omega)]; exact hT2 q c hq hcq
              refine V_iloadw5 dX10_inserts_84 ?_
              refine V_aloadn0 dX10_inserts_86 ?_
              refine V_getR dX10_inserts_87 fX10_50 (by first | assumption | rfl) (by first | decide | omega) (by first | assumption | exact ML_4 (by assumption) | exact ML_5 (by assumption) | exact ML_6 (by assumption) | exact ML_7 (by assumption) | exact ML_8 (by assumption) | exact ML_9 (by assumption) | exact ML_10 (by assumption) | exact ML_11 (by assumption) | exact ML_12 (by assumption) | exact ML_13 (by assumption) | exact ML_15 (by assumption) | exact ML_16 (by assumption) | exact ML_17 (by assumption) | exact ML_20 (by assumption) | exact ML_23 (by assumption) | exact ML_24 (by assumption) | exact ML_30 (by assumption) | exact ML_31 (by assumption) | exact ML_32 (by assumption) | exact ML_33 (by assumption) | exact ML_35 (by assumption) | exact ML_36 (by assumption) | exact ML_37 (by assumption) | exact ML_38 (by assumption) | exact ML_41 (by assumption) | exact ML_42 (by assumption) | exact ML_43 (by assumption) | exact ML_44 (by assumption) | exact ML_45 (by assumption) | rfl) ?_
              refine V_iloadn3 dX10_inserts_90 ?_
              refine U_iald dX10_inserts_91 (by with_reducible rfl) (by first | assumption | rfl) (by first | decide | omega) (by omega) (by first | assumption | exact ML_4 (by assumption) | exact ML_5 (by assumption) | exact ML_6 (by assumption) | exact ML_7 (by assumption) | exact ML_8 (by assumption) | exact ML_9 (by assumption) | exact ML_10 (by assumption) | exact ML_11 (by assumption) | exact ML_12 (by assumption) | exact ML_13 (by assumption) | exact ML_15 (by assumption) | exact ML_16 (by assumption) | exact ML_17 (by assumption) | exact ML_20 (by assumption) | exact ML_23 (by assumption) | exact ML_24 (by assumption) | exact ML_30 (by assumption) | exact ML_31 (by assumption) | exact ML_32 (by assumption) | exact ML_33 (by assumption) | exact ML_35 (by assumption) | exact ML_36 (by assumption) | exact ML_37 (by assumption) | exact ML_38 (by assumption) | exact ML_41 (by assumption) | exact ML_42 (by assumption) | exact ML_43 (by assumption) | exact ML_44 (by assumption) | exact ML_45 (by assumption) | rfl) ?_
              first | refine U_icmp_ge (tgt := 99) dX10_inserts_92 (by decide) (by with_reducible rfl) (by with_reducible rfl) (by omega) (by omega) (fun c92 => ?_) (fun c92 => ?_) | refine V_icmp_ge (tgt := 99) dX10_inserts_92 (by decide) (fun c92 => ?_) (fun c92 => ?_)
              · skip
                omega
              · skip
                refine V_iconst (v := nI 1) dX10_inserts_95 (by decide) ?_
                refine V_goto (tgt := 100) dX10_inserts_96 (by decide) ?_
                refine V_istorew4 dX10_inserts_100 (by decide) rfl ?_
                refine V_iloadw4 dX10_inserts_102 ?_
                first | refine U_ifB_eq (tgt := 122) dX10_inserts_104 (by decide) (by with_reducible rfl) (fun c104 => ?_) (fun c104 => ?_) | refine U_if_eq (tgt := 122) dX10_inserts_104 (by decide) (by with_reducible rfl) (by omega) (fun c104 => ?_) (fun c104 => ?_) | refine V_if_eq (tgt := 122) dX10_inserts_104 (by decide) (fun c104 => ?_) (fun c104 => ?_)
                · skip
                  omega
                · skip
                  refine V_aloadn0 dX10_inserts_107 ?_
                  refine V_getR dX10_inserts_108 fX10_59 (by first | assumption | rfl) (by first | decide | omega) (by first | assumption | exact ML_4 (by assumption) | exact ML_5 (by assumption) | exact ML_6 (by assumption) | exact ML_7 (by assumption) | exact ML_8 (by assumption) | exact ML_9 (by assumption) | exact ML_10 (by assumption) | exact ML_11 (by assumption) | exact ML_12 (by assumption) | exact ML_13 (by assumption) | exact ML_15 (by assumption) | exact ML_16 (by assumption) | exact ML_17 (by assumption) | exact ML_20 (by assumption) | exact ML_23 (by assumption) | exact ML_24 (by assumption) | exact ML_30 (by assumption) | exact ML_31 (by assumption) | exact ML_32 (by assumption) | exact ML_33 (by assumption) | exact ML_35 (by assumption) | exact ML_36 (by assumption) | exact ML_37 (by assumption) | exact ML_38 (by assumption) | exact ML_41 (by assumption) | exact ML_42 (by assumption) | exact ML_43 (by assumption) | exact ML_44 (by assumption) | exact ML_45 (by assumption) | rfl) ?_
                  refine V_bipush (v := nI 6) dX10_inserts_111 (by decide) ?_
                  refine V_iloadn3 dX10_inserts_113 ?_
                  first | refine U_imul dX10_inserts_114 (by with_reducible rfl) (by with_reducible rfl) ?_ | refine V_imul dX10_inserts_114 ?_
                  refine V_iloadw5 dX10_inserts_115 ?_
                  first | refine U_iadd dX10_inserts_117 (by with_reducible rfl) (by with_reducible rfl) ?_ | refine V_iadd dX10_inserts_117 ?_
                  refine U_iald dX10_inserts_118 (by with_reducible rfl) (by first | assumption | rfl) (by first | decide | omega) (by omega) (by first | assumption | exact ML_4 (by assumption) | exact ML_5 (by assumption) | exact ML_6 (by assumption) | exact ML_7 (by assumption) | exact ML_8 (by assumption) | exact ML_9 (by assumption) | exact ML_10 (by assumption) | exact ML_11 (by assumption) | exact ML_12 (by assumption) | exact ML_13 (by assumption) | exact ML_15 (by assumption) | exact ML_16 (by assumption) | exact ML_17 (by assumption) | exact ML_20 (by assumption) | exact ML_23 (by assumption) | exact ML_24 (by assumption) | exact ML_30 (by assumption) | exact ML_31 (by assumption) | exact ML_32 (by assumption) | exact ML_33 (by assumption) | exact ML_35 (by assumption) | exact ML_36 (by assumption) | exact ML_37 (by assumption) | exact ML_38 (by assumption) | exact ML_41 (by assumption) | exact ML_42 (by assumption) | exact ML_43 (by assumption) | exact ML_44 (by assumption) | exact ML_45 (by assumption) | rfl) ?_
                  refine V_goto (tgt := 123) dX10_inserts_119 (by decide) ?_
                  refine V_istorew6 dX10_inserts_123 (by decide) rfl ?_
                  refine V_aloadn0 dX10_inserts_125 ?_
                  refine V_getR dX10_inserts_126 fX10_59 (by first | assumption | rfl) (by first | decide | omega) (by first | assumption | exact ML_4 (by assumption) | exact ML_5 (by assumption) | exact ML_6 (by assumption) | exact ML_7 (by assumption) | exact ML_8 (by assumption) | exact ML_9 (by assumption) | exact ML_10 (by assumption) | exact ML_11 (by assumption) | exact ML_12 (by assumption) | exact ML_13 (by assumption) | exact ML_15 (by assumption) | exact ML_16 (by assumption) | exact ML_17 (by assumption) | exact ML_20 (by assumption) | exact ML_23 (by assumption) | exact ML_24 (by assumption) | exact ML_30 (by assumption) | exact ML_31 (by assumption) | exact ML_32 (by assumption) | exact ML_33 (by assumption) | exact ML_35 (by assumption) | exact ML_36 (by assumption) | exact ML_37 (by assumption) | exact ML_38 (by assumption) | exact ML_41 (by assumption) | exact ML_42 (by assumption) | exact ML_43 (by assumption) | exact ML_44 (by assumption) | exact ML_45 (by assumption) | rfl) ?_
                  refine V_bipush (v := nI 6) dX10_inserts_129 (by decide) ?_
                  refine V_iloadn3 dX10_inserts_131 ?_
                  first | refine U_imul dX10_inserts_132 (by with_reducible rfl) (by with_reducible rfl) ?_ | refine V_imul dX10_inserts_132 ?_
                  refine V_iloadw5 dX10_inserts_133 ?_
                  first | refine U_iadd dX10_inserts_135 (by with_reducible rfl) (by with_reducible rfl) ?_ | refine V_iadd dX10_inserts_135 ?_
                  refine V_iloadn2 dX10_inserts_136 ?_
                  refine U_iast dX10_inserts_137 (by with_reducible rfl) (by first | assumption | rfl) (by first | decide | omega) (by omega) ?_
                  refine V_iloadw6 dX10_inserts_138 ?_
                  refine V_istoren2 dX10_inserts_140 (by decide) rfl ?_
                  refine V_iloadw4 dX10_inserts_141 ?_
                  first | refine U_ifB_ne (tgt := 171) dX10_inserts_143 (by decide) (by with_reducible rfl) (fun c143 => ?_) (fun c143 => ?_) | refine U_if_ne (tgt := 171) dX10_inserts_143 (by decide) (by with_reducible rfl) (by omega) (fun c143 => ?_) (fun c143 => ?_) | refine V_if_ne (tgt := 171) dX10_inserts_143 (by decide) (fun c143 => ?_) (fun c143 => ?_)
                  · skip
                    refine V_iinc3 dX10_inserts_171 (by first | exact ginc1 _ | rfl) (by decide) rfl ?_
                    refine V_goto (tgt := 43) dX10_inserts_174 (by decide) ?_
                    rw [show D.length + 1 = (D ++ [r.set (fg r y) y]).length by simp]
                    refine ihr ts (D ++ [r.set (fg r y) y]) (DT ++ [t]) (r.getD (fg r y) 0) _ _ _ (by rw [List.append_assoc]; exact hC3) (by rw [List.append_assoc, List.append_assoc]; exact hT3) (hlet _) ?_ ?_ ?_ hrt.2 (by rw [List.append_assoc]; exact hins) (by rw [List.append_assoc]; exact hinsT) (by funext b; rw [gI_sI, if_neg (by omega)]; exact congrFun e105' b) (by rw [gI_sI, if_neg (by omega)]; exact e18') (frx_sI hF2 (by omega))
                    · rw [← hz2, List.append_assoc, List.singleton_append, szL_app, szL_app, szL_cons, szL_cons, List.length_set]
                    · intro q hq
                      rw [List.append_assoc, List.singleton_append] at hq
                      rcases List.mem_append.mp hq with hq | hq
                      · exact hne2 q (List.mem_append_left _ hq)
                      · rcases List.mem_cons.mp hq with rfl | hq
                        · rw [List.length_set]; omega
                        · exact hne2 q (List.mem_append_right _ (List.mem_cons_of_mem _ hq))
                    · simp only [parL, List.map_append, List.map_cons, List.map_nil, List.length_set] at hpD ⊢; rw [hpD, hrt.1]
                  · skip
                    omega
          have cloop : ∀ g c, c + g = fg r y → V Γ mX10_inserts d 124 124 h2 51 [some (.ref 94), some (.int (nI k)), some (.int (nI y)), some (.int (nI D.length)), some (.int (nI 1)), some (.int (nI c)), x6] [] Q := by
            intro g
            induction g with
            | zero =>
              intro c hc
              have ec : c = fg r y := by omega
              subst ec
              by_cases hlt : fg r y < r.length
              · have hgt := fg_at r y hlt
                have gc := hcell (fg r y) hlt
                have hl9 := hlet (fg r y)
                refine V_iloadw5 dX10_inserts_51 ?_
                refine V_aloadn0 dX10_inserts_53 ?_
                refine V_getR dX10_inserts_54 fX10_50 (by first | assumption | rfl) (by first | decide | omega) (by first | assumption | exact ML_4 (by assumption) | exact ML_5 (by assumption) | exact ML_6 (by assumption) | exact ML_7 (by assumption) | exact ML_8 (by assumption) | exact ML_9 (by assumption) | exact ML_10 (by assumption) | exact ML_11 (by assumption) | exact ML_12 (by assumption) | exact ML_13 (by assumption) | exact ML_15 (by assumption) | exact ML_16 (by assumption) | exact ML_17 (by assumption) | exact ML_20 (by assumption) | exact ML_23 (by assumption) | exact ML_24 (by assumption) | exact ML_30 (by assumption) | exact ML_31 (by assumption) | exact ML_32 (by assumption) | exact ML_33 (by assumption) | exact ML_35 (by assumption) | exact ML_36 (by assumption) | exact ML_37 (by assumption) | exact ML_38 (by assumption) | exact ML_41 (by assumption) | exact ML_42 (by assumption) | exact ML_43 (by assumption) | exact ML_44 (by assumption) | exact ML_45 (by assumption) | rfl) ?_
                refine V_iloadn3 dX10_inserts_57 ?_
                refine U_iald dX10_inserts_58 (by with_reducible rfl) (by first | assumption | rfl) (by first | decide | omega) (by omega) (by first | assumption | exact ML_4 (by assumption) | exact ML_5 (by assumption) | exact ML_6 (by assumption) | exact ML_7 (by assumption) | exact ML_8 (by assumption) | exact ML_9 (by assumption) | exact ML_10 (by assumption) | exact ML_11 (by assumption) | exact ML_12 (by assumption) | exact ML_13 (by assumption) | exact ML_15 (by assumption) | exact ML_16 (by assumption) | exact ML_17 (by assumption) | exact ML_20 (by assumption) | exact ML_23 (by assumption) | exact ML_24 (by assumption) | exact ML_30 (by assumption) | exact ML_31 (by assumption) | exact ML_32 (by assumption) | exact ML_33 (by assumption) | exact ML_35 (by assumption) | exact ML_36 (by assumption) | exact ML_37 (by assumption) | exact ML_38 (by assumption) | exact ML_41 (by assumption) | exact ML_42 (by assumption) | exact ML_43 (by assumption) | exact ML_44 (by assumption) | exact ML_45 (by assumption) | rfl) ?_
                first | refine U_icmp_ge (tgt := 84) dX10_inserts_59 (by decide) (by with_reducible rfl) (by with_reducible rfl) (by omega) (by omega) (fun c59 => ?_) (fun c59 => ?_) | refine V_icmp_ge (tgt := 84) dX10_inserts_59 (by decide) (fun c59 => ?_) (fun c59 => ?_)
                · skip
                  omega
                · skip
                  refine V_aloadn0 dX10_inserts_62 ?_
                  refine V_getR dX10_inserts_63 fX10_59 (by first | assumption | rfl) (by first | decide | omega) (by first | assumption | exact ML_4 (by assumption) | exact ML_5 (by assumption) | exact ML_6 (by assumption) | exact ML_7 (by assumption) | exact ML_8 (by assumption) | exact ML_9 (by assumption) | exact ML_10 (by assumption) | exact ML_11 (by assumption) | exact ML_12 (by assumption) | exact ML_13 (by assumption) | exact ML_15 (by assumption) | exact ML_16 (by assumption) | exact ML_17 (by assumption) | exact ML_20 (by assumption) | exact ML_23 (by assumption) | exact ML_24 (by assumption) | exact ML_30 (by assumption) | exact ML_31 (by assumption) | exact ML_32 (by assumption) | exact ML_33 (by assumption) | exact ML_35 (by assumption) | exact ML_36 (by assumption) | exact ML_37 (by assumption) | exact ML_38 (by assumption) | exact ML_41 (by assumption) | exact ML_42 (by assumption) | exact ML_43 (by assumption) | exact ML_44 (by assumption) | exact ML_45 (by assumption) | rfl) ?_
                  refine V_bipush (v := nI 6) dX10_inserts_66 (by decide) ?_
                  refine V_iloadn3 dX10_inserts_68 ?_
                  first | refine U_imul dX10_inserts_69 (by with_reducible rfl) (by with_reducible rfl) ?_ | refine V_imul dX10_inserts_69 ?_
                  refine V_iloadw5 dX10_inserts_70 ?_
                  first | refine U_iadd dX10_inserts_72 (by with_reducible rfl) (by with_reducible rfl) ?_ | refine V_iadd dX10_inserts_72 ?_
                  refine U_iald dX10_inserts_73 (by with_reducible rfl) (by first | assumption | rfl) (by first | decide | omega) (by omega) (by first | assumption | exact ML_4 (by assumption) | exact ML_5 (by assumption) | exact ML_6 (by assumption) | exact ML_7 (by assumption) | exact ML_8 (by assumption) | exact ML_9 (by assumption) | exact ML_10 (by assumption) | exact ML_11 (by assumption) | exact ML_12 (by assumption) | exact ML_13 (by assumption) | exact ML_15 (by assumption) | exact ML_16 (by assumption) | exact ML_17 (by assumption) | exact ML_20 (by assumption) | exact ML_23 (by assumption) | exact ML_24 (by assumption) | exact ML_30 (by assumption) | exact ML_31 (by assumption) | exact ML_32 (by assumption) | exact ML_33 (by assumption) | exact ML_35 (by assumption) | exact ML_36 (by assumption) | exact ML_37 (by assumption) | exact ML_38 (by assumption) | exact ML_41 (by assumption) | exact ML_42 (by assumption) | exact ML_43 (by assumption) | exact ML_44 (by assumption) | exact ML_45 (by assumption) | rfl) ?_
                  refine V_iloadn2 dX10_inserts_74 ?_
                  first | refine U_icmp_gt (tgt := 84) dX10_inserts_75 (by decide) (by with_reducible rfl) (by with_reducible rfl) (by omega) (by omega) (fun c75 => ?_) (fun c75 => ?_) | refine V_icmp_gt (tgt := 84) dX10_inserts_75 (by decide) (fun c75 => ?_) (fun c75 => ?_)
                  · skip
                    exact at84
                  · skip
                    omega
              · skip
                refine V_iloadw5 dX10_inserts_51 ?_
                refine V_aloadn0 dX10_inserts_53 ?_
                refine V_getR dX10_inserts_54 fX10_50 (by first | assumption | rfl) (by first | decide | omega) (by first | assumption | exact ML_4 (by assumption) | exact ML_5 (by assumption) | exact ML_6 (by assumption) | exact ML_7 (by assumption) | exact ML_8 (by assumption) | exact ML_9 (by assumption) | exact ML_10 (by assumption) | exact ML_11 (by assumption) | exact ML_12 (by assumption) | exact ML_13 (by assumption) | exact ML_15 (by assumption) | exact ML_16 (by assumption) | exact ML_17 (by assumption) | exact ML_20 (by assumption) | exact ML_23 (by assumption) | exact ML_24 (by assumption) | exact ML_30 (by assumption) | exact ML_31 (by assumption) | exact ML_32 (by assumption) | exact ML_33 (by assumption) | exact ML_35 (by assumption) | exact ML_36 (by assumption) | exact ML_37 (by assumption) | exact ML_38 (by assumption) | exact ML_41 (by assumption) | exact ML_42 (by assumption) | exact ML_43 (by assumption) | exact ML_44 (by assumption) | exact ML_45 (by assumption) | rfl) ?_
                refine V_iloadn3 dX10_inserts_57 ?_
                refine U_iald dX10_inserts_58 (by with_reducible rfl) (by first | assumption | rfl) (by first | decide | omega) (by omega) (by first | assumption | exact ML_4 (by assumption) | exact ML_5 (by assumption) | exact ML_6 (by assumption) | exact ML_7 (by assumption) | exact ML_8 (by assumption) | exact ML_9 (by assumption) | exact ML_10 (by assumption) | exact ML_11 (by assumption) | exact ML_12 (by assumption) | exact ML_13 (by assumption) | exact ML_15 (by assumption) | exact ML_16 (by assumption) | exact ML_17 (by assumption) | exact ML_20 (by assumption) | exact ML_23 (by assumption) | exact ML_24 (by assumption) | exact ML_30 (by assumption) | exact ML_31 (by assumption) | exact ML_32 (by assumption) | exact ML_33 (by assumption) | exact ML_35 (by assumption) | exact ML_36 (by assumption) | exact ML_37 (by assumption) | exact ML_38 (by assumption) | exact ML_41 (by assumption) | exact ML_42 (by assumption) | exact ML_43 (by assumption) | exact ML_44 (by assumption) | exact ML_45 (by assumption) | rfl) ?_
                first | refine U_icmp_ge (tgt := 84) dX10_inserts_59 (by decide) (by with_reducible rfl) (by with_reducible rfl) (by omega) (by omega) (fun c59 => ?_) (fun c59 => ?_) | refine V_icmp_ge (tgt := 84) dX10_inserts_59 (by decide) (fun c59 => ?_) (fun c59 => ?_)
                · skip
                  exact at84
                · skip
                  omega
            | succ g ihg =>
              intro c hc
              have hle := fg_lt r y c (by omega)
              have gc := hcell c (by omega)
              refine V_iloadw5 dX10_inserts_51 ?_
              refine V_aloadn0 dX10_inserts_53 ?_
              refine V_getR dX10_inserts_54 fX10_50 (by first | assumption | rfl) (by first | decide | omega) (by first | assumption | exact ML_4 (by assumption) | exact ML_5 (by assumption) | exact ML_6 (by assumption) | exact ML_7 (by assumption) | exact ML_8 (by assumption) | exact ML_9 (by assumption) | exact ML_10 (by assumption) | exact ML_11 (by assumption) | exact ML_12 (by assumption) | exact ML_13 (by assumption) | exact ML_15 (by assumption) | exact ML_16 (by assumption) | exact ML_17 (by assumption) | exact ML_20 (by assumption) | exact ML_23 (by assumption) | exact ML_24 (by assumption) | exact ML_30 (by assumption) | exact ML_31 (by assumption) | exact ML_32 (by assumption) | exact ML_33 (by assumption) | exact ML_35 (by assumption) | exact ML_36 (by assumption) | exact ML_37 (by assumption) | exact ML_38 (by assumption) | exact ML_41 (by assumption) | exact ML_42 (by assumption) | exact ML_43 (by assumption) | exact ML_44 (by assumption) | exact ML_45 (by assumption) | rfl) ?_
              refine V_iloadn3 dX10_inserts_57 ?_
              refine U_iald dX10_inserts_58 (by with_reducible rfl) (by first | assumption | rfl) (by first | decide | omega) (by omega) (by first | assumption | exact ML_4 (by assumption) | exact ML_5 (by assumption) | exact ML_6 (by assumption) | exact ML_7 (by assumption) | exact ML_8 (by assumption) | exact ML_9 (by assumption) | exact ML_10 (by assumption) | exact ML_11 (by assumption) | exact ML_12 (by assumption) | exact ML_13 (by assumption) | exact ML_15 (by assumption) | exact ML_16 (by assumption) | exact ML_17 (by assumption) | exact ML_20 (by assumption) | exact ML_23 (by assumption) | exact ML_24 (by assumption) | exact ML_30 (by assumption) | exact ML_31 (by assumption) | exact ML_32 (by assumption) | exact ML_33 (by assumption) | exact ML_35 (by assumption) | exact ML_36 (by assumption) | exact ML_37 (by assumption) | exact ML_38 (by assumption) | exact ML_41 (by assumption) | exact ML_42 (by assumption) | exact ML_43 (by assumption) | exact ML_44 (by assumption) | exact ML_45 (by assumption) | rfl) ?_
              first | refine U_icmp_ge (tgt := 84) dX10_inserts_59 (by decide) (by with_reducible rfl) (by with_reducible rfl) (by omega) (by omega) (fun c59 => ?_) (fun c59 => ?_) | refine V_icmp_ge (tgt := 84) dX10_inserts_59 (by decide) (fun c59 => ?_) (fun c59 => ?_)
              · skip
                omega
              · skip
                refine V_aloadn0 dX10_inserts_62 ?_
                refine V_getR dX10_inserts_63 fX10_59 (by first | assumption | rfl) (by first | decide | omega) (by first | assumption | exact ML_4 (by assumption) | exact ML_5 (by assumption) | exact ML_6 (by assumption) | exact ML_7 (by assumption) | exact ML_8 (by assumption) | exact ML_9 (by assumption) | exact ML_10 (by assumption) | exact ML_11 (by assumption) | exact ML_12 (by assumption) | exact ML_13 (by assumption) | exact ML_15 (by assumption) | exact ML_16 (by assumption) | exact ML_17 (by assumption) | exact ML_20 (by assumption) | exact ML_23 (by assumption) | exact ML_24 (by assumption) | exact ML_30 (by assumption) | exact ML_31 (by assumption) | exact ML_32 (by assumption) | exact ML_33 (by assumption) | exact ML_35 (by assumption) | exact ML_36 (by assumption) | exact ML_37 (by assumption) | exact ML_38 (by assumption) | exact ML_41 (by assumption) | exact ML_42 (by assumption) | exact ML_43 (by assumption) | exact ML_44 (by assumption) | exact ML_45 (by assumption) | rfl) ?_
                refine V_bipush (v := nI 6) dX10_inserts_66 (by decide) ?_
                refine V_iloadn3 dX10_inserts_68 ?_
                first | refine U_imul dX10_inserts_69 (by with_reducible rfl) (by with_reducible rfl) ?_ | refine V_imul dX10_inserts_69 ?_
                refine V_iloadw5 dX10_inserts_70 ?_
                first | refine U_iadd dX10_inserts_72 (by with_reducible rfl) (by with_reducible rfl) ?_ | refine V_iadd dX10_inserts_72 ?_
                refine U_iald dX10_inserts_73 (by with_reducible rfl) (by first | assumption | rfl) (by first | decide | omega) (by omega) (by first | assumption | exact ML_4 (by assumption) | exact ML_5 (by assumption) | exact ML_6 (by assumption) | exact ML_7 (by assumption) | exact ML_8 (by assumption) | exact ML_9 (by assumption) | exact ML_10 (by assumption) | exact ML_11 (by assumption) | exact ML_12 (by assumption) | exact ML_13 (by assumption) | exact ML_15 (by assumption) | exact ML_16 (by assumption) | exact ML_17 (by assumption) | exact ML_20 (by assumption) | exact ML_23 (by assumption) | exact ML_24 (by assumption) | exact ML_30 (by assumption) | exact ML_31 (by assumption) | exact ML_32 (by assumption) | exact ML_33 (by assumption) | exact ML_35 (by assumption) | exact ML_36 (by assumption) | exact ML_37 (by assumption) | exact ML_38 (by assumption) | exact ML_41 (by assumption) | exact ML_42 (by assumption) | exact ML_43 (by assumption) | exact ML_44 (by assumption) | exact ML_45 (by assumption) | rfl) ?_
                refine V_iloadn2 dX10_inserts_74 ?_
                first | refine U_icmp_gt (tgt := 84) dX10_inserts_75 (by decide) (by with_reducible rfl) (by with_reducible rfl) (by omega) (by omega) (fun c75 => ?_) (fun c75 => ?_) | refine V_icmp_gt (tgt := 84) dX10_inserts_75 (by decide) (fun c75 => ?_) (fun c75 => ?_)
                · skip
                  omega
                · skip
                  refine V_iinc5 dX10_inserts_78 (by first | exact ginc1 _ | rfl) (by decide) rfl ?_
                  refine V_goto (tgt := 51) dX10_inserts_81 (by decide) ?_
                  exact ihg (c + 1) (by omega)
          refine V_iloadw4 dX10_inserts_43 ?_
          first | refine U_ifB_eq (tgt := 177) dX10_inserts_45 (by decide) (by with_reducible rfl) (fun c45 => ?_) (fun c45 => ?_) | refine U_if_eq (tgt := 177) dX10_inserts_45 (by decide) (by with_reducible rfl) (by omega) (fun c45 => ?_) (fun c45 => ?_) | refine V_if_eq (tgt := 177) dX10_inserts_45 (by decide) (fun c45 => ?_) (fun c45 => ?_)
          · skip
            omega
          · skip
            refine V_iconst (v := nI 0) dX10_inserts_48 (by decide) ?_
            refine V_istorew5 dX10_inserts_49 (by decide) rfl ?_
            exact cloop _ 0 (Nat.zero_add _)
      refine V_iloadn1 dX10_inserts_23 ?_
      refine V_aloadn0 dX10_inserts_24 ?_
      refine V_getI dX10_inserts_25 fX10_111 (Or.inl rfl) (by first | assumption | rfl) (by first | decide | omega) (by first | assumption | exact ML_4 (by assumption) | exact ML_5 (by assumption) | exact ML_6 (by assumption) | exact ML_7 (by assumption) | exact ML_8 (by assumption) | exact ML_9 (by assumption) | exact ML_10 (by assumption) | exact ML_11 (by assumption) | exact ML_12 (by assumption) | exact ML_13 (by assumption) | exact ML_15 (by assumption) | exact ML_16 (by assumption) | exact ML_17 (by assumption) | exact ML_20 (by assumption) | exact ML_23 (by assumption) | exact ML_24 (by assumption) | exact ML_30 (by assumption) | exact ML_31 (by assumption) | exact ML_32 (by assumption) | exact ML_33 (by assumption) | exact ML_35 (by assumption) | exact ML_36 (by assumption) | exact ML_37 (by assumption) | exact ML_38 (by assumption) | exact ML_41 (by assumption) | exact ML_42 (by assumption) | exact ML_43 (by assumption) | exact ML_44 (by assumption) | exact ML_45 (by assumption) | rfl) ?_
      first | refine U_icmp_ge (tgt := 183) dX10_inserts_28 (by decide) (by with_reducible rfl) (by with_reducible rfl) (by omega) (by omega) (fun c28 => ?_) (fun c28 => ?_) | refine V_icmp_ge (tgt := 183) dX10_inserts_28 (by decide) (fun c28 => ?_) (fun c28 => ?_)
      · skip
        omega
      · skip
        refine V_aloadn0 dX10_inserts_31 ?_
        refine V_getR dX10_inserts_32 fX10_47 (by first | assumption | rfl) (by first | decide | omega) (by first | assumption | exact ML_4 (by assumption) | exact ML_5 (by assumption) | exact ML_6 (by assumption) | exact ML_7 (by assumption) | exact ML_8 (by assumption) | exact ML_9 (by assumption) | exact ML_10 (by assumption) | exact ML_11 (by assumption) | exact ML_12 (by assumption) | exact ML_13 (by assumption) | exact ML_15 (by assumption) | exact ML_16 (by assumption) | exact ML_17 (by assumption) | exact ML_20 (by assumption) | exact ML_23 (by assumption) | exact ML_24 (by assumption) | exact ML_30 (by assumption) | exact ML_31 (by assumption) | exact ML_32 (by assumption) | exact ML_33 (by assumption) | exact ML_35 (by assumption) | exact ML_36 (by assumption) | exact ML_37 (by assumption) | exact ML_38 (by assumption) | exact ML_41 (by assumption) | exact ML_42 (by assumption) | exact ML_43 (by assumption) | exact ML_44 (by assumption) | exact ML_45 (by assumption) | rfl) ?_
        refine V_iloadn1 dX10_inserts_35 ?_
        refine U_iald dX10_inserts_36 (by with_reducible rfl) (by first | assumption | rfl) (by first | decide | omega) (by omega) (by first | assumption | exact ML_4 (by assumption) | exact ML_5 (by assumption) | exact ML_6 (by assumption) | exact ML_7 (by assumption) | exact ML_8 (by assumption) | exact ML_9 (by assumption) | exact ML_10 (by assumption) | exact ML_11 (by assumption) | exact ML_12 (by assumption) | exact ML_13 (by assumption) | exact ML_15 (by assumption) | exact ML_16 (by assumption) | exact ML_17 (by assumption) | exact ML_20 (by assumption) | exact ML_23 (by assumption) | exact ML_24 (by assumption) | exact ML_30 (by assumption) | exact ML_31 (by assumption) | exact ML_32 (by assumption) | exact ML_33 (by assumption) | exact ML_35 (by assumption) | exact ML_36 (by assumption) | exact ML_37 (by assumption) | exact ML_38 (by assumption) | exact ML_41 (by assumption) | exact ML_42 (by assumption) | exact ML_43 (by assumption) | exact ML_44 (by assumption) | exact ML_45 (by assumption) | rfl) ?_
        refine V_istoren2 dX10_inserts_37 (by decide) rfl ?_
        refine V_iconst (v := nI 0) dX10_inserts_38 (by decide) ?_
        refine V_istoren3 dX10_inserts_39 (by decide) rfl ?_
        refine V_iconst (v := nI 1) dX10_inserts_40 (by decide) ?_
        refine V_istorew4 dX10_inserts_41 (by decide) rfl ?_
        exact rloop (insW w k) (turW w k) [] [] (w.getD k 0) h1 _ _ hC hT (w9 k) hz hne rfl hpar rfl rfl e105 e18 hF
  have zloop : ∀ f q h1, q + f = 6 → (∀ j, j < q → gI h1 106 j = nI 0) → gI h1 105 = gI h 105 → gI h1 94 18 = gI h 94 18 → FrX h h1 → V Γ mX10_inserts d 124 124 h1 2 [some (.ref 94), some (.int (nI q)), none, none, none, none, none] [] Q := by
    intro f
    induction f with
    | zero =>
      intro q h1 hq hz e105 e18 hF
      have hC : CG h1 [] := ⟨fun r hr => by have := hz r (by omega); simpa using this, fun r c hr hc => by simp at hc, by decide, by decide, fun r c => by simp⟩
      refine V_iloadn1 dX10_inserts_2 ?_
      refine V_bipush (v := nI 6) dX10_inserts_3 (by decide) ?_
      first | refine U_icmp_ge (tgt := 21) dX10_inserts_5 (by decide) (by with_reducible rfl) (by with_reducible rfl) (by omega) (by omega) (fun c5 => ?_) (fun c5 => ?_) | refine V_icmp_ge (tgt := 21) dX10_inserts_5 (by decide) (fun c5 => ?_) (fun c5 => ?_)
      · skip
        refine V_iconst (v := nI 0) dX10_inserts_21 (by decide) ?_
        refine V_istoren1 dX10_inserts_22 (by decide) rfl ?_
        exact kloop _ 0 h1 _ _ _ _ _ (Nat.zero_add _) hC (fun r c hr hc => by rw [insW] at hc; simp at hc) e105 e18 hF
      · skip
        omega
    | succ f ih =>
      intro q h1 hq hz e105 e18 hF
      have hM1 := MLay_eq hM hF.2.2.2
      refine V_iloadn1 dX10_inserts_2 ?_
      refine V_bipush (v := nI 6) dX10_inserts_3 (by decide) ?_
      first | refine U_icmp_ge (tgt := 21) dX10_inserts_5 (by decide) (by with_reducible rfl) (by with_reducible rfl) (by omega) (by omega) (fun c5 => ?_) (fun c5 => ?_) | refine V_icmp_ge (tgt := 21) dX10_inserts_5 (by decide) (fun c5 => ?_) (fun c5 => ?_)
      · skip
        omega
      · skip
        refine V_aloadn0 dX10_inserts_8 ?_
        refine V_getR dX10_inserts_9 fX10_50 (by first | assumption | rfl) (by first | decide | omega) (by first | assumption | exact ML_4 (by assumption) | exact ML_5 (by assumption) | exact ML_6 (by assumption) | exact ML_7 (by assumption) | exact ML_8 (by assumption) | exact ML_9 (by assumption) | exact ML_10 (by assumption) | exact ML_11 (by assumption) | exact ML_12 (by assumption) | exact ML_13 (by assumption) | exact ML_15 (by assumption) | exact ML_16 (by assumption) | exact ML_17 (by assumption) | exact ML_20 (by assumption) | exact ML_23 (by assumption) | exact ML_24 (by assumption) | exact ML_30 (by assumption) | exact ML_31 (by assumption) | exact ML_32 (by assumption) | exact ML_33 (by assumption) | exact ML_35 (by assumption) | exact ML_36 (by assumption) | exact ML_37 (by assumption) | exact ML_38 (by assumption) | exact ML_41 (by assumption) | exact ML_42 (by assumption) | exact ML_43 (by assumption) | exact ML_44 (by assumption) | exact ML_45 (by assumption) | rfl) ?_
        refine V_iloadn1 dX10_inserts_12 ?_
        refine V_iconst (v := nI 0) dX10_inserts_13 (by decide) ?_
        refine U_iast dX10_inserts_14 (by with_reducible rfl) (by first | assumption | rfl) (by first | decide | omega) (by omega) ?_
        refine V_iinc1 dX10_inserts_15 (by first | exact ginc1 _ | rfl) (by decide) rfl ?_
        refine V_goto (tgt := 2) dX10_inserts_18 (by decide) ?_
        refine ih (q + 1) _ (by omega) (fun j hj => ?_) (by funext b; rw [gI_sI, if_neg (by omega)]; exact congrFun e105 b) (by rw [gI_sI, if_neg (by omega)]; exact e18) (frx_sI hF (by omega))
        rw [gI_sI]
        by_cases e : j = q
        · rw [if_pos ⟨rfl, e⟩]
        · rw [if_neg (fun z => e z.2)]; exact hz j (by omega)
  refine V_iconst (v := nI 0) dX10_inserts_0 (by decide) ?_
  refine V_istoren1 dX10_inserts_1 (by decide) rfl ?_
  exact zloop 6 0 h rfl (fun j hj => absurd hj (Nat.not_lt_zero _)) rfl rfl FrX.rf
end C65
