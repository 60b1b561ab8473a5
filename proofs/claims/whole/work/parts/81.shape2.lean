/-! ===== the reference: shapes told ===== -/
def FrO (h h' : gH) (arr : Nat) : Prop := (∀ a, a ≠ arr → gI h' a = gI h a) ∧ gL h' = gL h ∧ gR h' = gR h
theorem FrO.rf {h : gH} {arr : Nat} : FrO h h arr := ⟨fun _ _ => rfl, rfl, rfl⟩
theorem fro_sI {h h' : gH} {arr k : Nat} {v : Int32} (f : FrO h h' arr) : FrO h (sI h' arr k v) arr := ⟨fun a ha => by funext b; rw [gI_sI, if_neg (fun z => ha z.1)]; exact congrFun (f.1 a ha) b, f.2.1, f.2.2⟩
theorem drop_sum {l : List Nat} {q : Nat} (hq : q < l.length) : (l.drop q).sum = l.getD q 0 + (l.drop (q + 1)).sum := by
  rw [List.drop_eq_getElem_cons hq, List.sum_cons, List.getD_eq_getElem?_getD, List.getElem?_eq_getElem hq]
  rfl
section C81
variable {Γ : gM} {d : Nat} {h : gH} {Q : Option Value → gH → Prop} {S : GS}
set_option maxRecDepth 100000 in
set_option maxHeartbeats 4000000 in
theorem m_isShape {n arr : Nat} {D : Int32} (hn5 : n ≤ 5) (ha1 : 94 < arr) (ha2 : arr < 124) (hla : lay arr = some (.inl (0, 6))) (r0 : gI h 94 0 = nI n) (hQ : ∀ h', (shB n D = true → ∀ r, r < 6 → gI h' arr r = nI ((shL D).getD r 0)) → FrO h h' arr → Q (some (.int (gBo (shB n D)))) h') : V Γ mX10_isShape d 124 124 h 0 [some (.ref 94), some (.int D), some (.ref arr), none, none, none, none, none] [] Q := by
  have bad : ∀ q h1 m x5 s6, q ≤ 6 → m ≤ 10 → s6 < 1000 → shB n D = false → FrO h h1 arr → V Γ mX10_isShape d 124 124 h1 51 [some (.ref 94), some (.int D), some (.ref arr), some (.int (nI m)), some (.int (gBo false)), some (.int x5), some (.int (nI s6)), some (.int (nI q - nI 1))] [] Q := by
    intro q
    induction q with
    | zero =>
      intro h1 m x5 s6 hq hm hs hb hF
      have hQ9 := hQ h1 (fun z => by rw [hb] at z; cases z) hF
      rw [hb] at hQ9
      refine V_iloadw7 dX10_isShape_51 ?_
      refine V_if_lt (tgt := 138) dX10_isShape_53 (by decide) (fun c53 => ?_) (fun c53 => ?_)
      · skip
        refine V_iloadw4 dX10_isShape_138 ?_
        first | refine U_ifB_eq (tgt := 154) dX10_isShape_140 (by decide) (by with_reducible rfl) (fun c140 => ?_) (fun c140 => ?_) | refine U_if_eq (tgt := 154) dX10_isShape_140 (by decide) (by with_reducible rfl) (by omega) (fun c140 => ?_) (fun c140 => ?_) | refine V_if_eq (tgt := 154) dX10_isShape_140 (by decide) (fun c140 => ?_) (fun c140 => ?_)
        · skip
          refine V_iconst (v := nI 0) dX10_isShape_154 (by decide) ?_
          refine V_iret dX10_isShape_155 rfl (by first | exact gBo_nar _ | rfl | decide) ?_
          exact hQ9
        · skip
          cases c140
      · skip
        exact absurd ((gdec_lt (by omega)).mpr rfl) c53
    | succ q ih =>
      intro h1 m x5 s6 hq hm hs hb hF
      have z := ih (sI h1 arr q (nI 0)) m x5 s6 (by omega) hm hs hb (fro_sI hF)
      rw [gdecP]
      refine V_iloadw7 dX10_isShape_51 ?_
      refine V_if_lt (tgt := 138) dX10_isShape_53 (by decide) (fun c53 => ?_) (fun c53 => ?_)
      · skip
        exact absurd c53 (nI_pos (by omega))
      · skip
        refine V_aloadn2 dX10_isShape_56 ?_
        refine V_iloadw7 dX10_isShape_57 ?_
        refine V_iconst (v := nI 0) dX10_isShape_59 (by decide) ?_
        refine U_iast dX10_isShape_60 (by with_reducible rfl) (by first | assumption | rfl) (by first | decide | omega) (by omega) ?_
        refine V_iloadw7 dX10_isShape_61 ?_
        refine V_iloadn3 dX10_isShape_63 ?_
        first | refine U_icmp_ge (tgt := 132) dX10_isShape_64 (by decide) (by with_reducible rfl) (by with_reducible rfl) (by omega) (by omega) (fun c64 => ?_) (fun c64 => ?_) | refine V_icmp_ge (tgt := 132) dX10_isShape_64 (by decide) (fun c64 => ?_) (fun c64 => ?_)
        · skip
          refine V_iinc7 dX10_isShape_132 (by first | exact gdecS _ | rfl) (by decide) rfl ?_
          refine V_goto (tgt := 51) dX10_isShape_135 (by decide) ?_
          exact z
        · skip
          refine V_iloadw4 dX10_isShape_67 ?_
          first | refine U_ifB_eq (tgt := 132) dX10_isShape_69 (by decide) (by with_reducible rfl) (fun c69 => ?_) (fun c69 => ?_) | refine U_if_eq (tgt := 132) dX10_isShape_69 (by decide) (by with_reducible rfl) (by omega) (fun c69 => ?_) (fun c69 => ?_) | refine V_if_eq (tgt := 132) dX10_isShape_69 (by decide) (fun c69 => ?_) (fun c69 => ?_)
          · skip
            refine V_iinc7 dX10_isShape_132 (by first | exact gdecS _ | rfl) (by decide) rfl ?_
            refine V_goto (tgt := 51) dX10_isShape_135 (by decide) ?_
            exact z
          · skip
            cases c69
  by_cases hD : D < 0
  · have hb : shB n D = false := by unfold shB; rw [decide_eq_false (Int32.not_le.mpr hD), Bool.false_and]
    have z := bad 6 h 0 D 0 (Nat.le_refl _) (by omega) (by omega) hb FrO.rf
    have e5 : nI 5 = nI 6 - nI 1 := (gdecP 5).symm
    refine V_iconst (v := nI 0) dX10_isShape_0 (by decide) ?_
    refine V_istoren3 dX10_isShape_1 (by decide) rfl ?_
    refine V_iloadn1 dX10_isShape_2 ?_
    refine V_istorew4 dX10_isShape_3 (by decide) rfl ?_
    refine V_iloadw4 dX10_isShape_5 ?_
    first | refine U_if_le (tgt := 23) dX10_isShape_7 (by decide) (by with_reducible rfl) (by omega) (fun c7 => ?_) (fun c7 => ?_) | refine V_if_le (tgt := 23) dX10_isShape_7 (by decide) (fun c7 => ?_) (fun c7 => ?_)
    · skip
      refine V_iloadn1 dX10_isShape_23 ?_
      refine V_if_lt (tgt := 39) dX10_isShape_24 (by decide) (fun c24 => ?_) (fun c24 => ?_)
      · skip
        refine V_iconst (v := nI 0) dX10_isShape_39 (by decide) ?_
        refine V_istorew4 dX10_isShape_40 (by decide) rfl ?_
        refine V_iloadn1 dX10_isShape_42 ?_
        refine V_istorew5 dX10_isShape_43 (by decide) rfl ?_
        refine V_iconst (v := nI 0) dX10_isShape_45 (by decide) ?_
        refine V_istorew6 dX10_isShape_46 (by decide) rfl ?_
        refine V_iconst (v := nI 5) dX10_isShape_48 (by decide) ?_
        refine V_istorew7 dX10_isShape_49 (by decide) rfl ?_
        rw [e5]
        exact z
      · skip
        exact absurd hD c24
    · skip
      exact absurd (Int32.le_of_lt hD) c7
  obtain ⟨D', hD', rfl⟩ := nI_of hD
  have eB : shB n (nI D') = shOk D' n := by unfold shB; rw [decide_eq_true (nI_pos' hD'), Bool.true_and, cN_nI hD']
  have eL : shL (nI D') = digL D' (ndF 10 D') := by unfold shL; rw [cN_nI hD']
  rw [eB] at bad
  rw [eB, eL] at hQ
  generalize hm : ndF 10 D' = m at hQ
  have hm10 : m ≤ 10 := by rw [← hm]; exact ndF_le 10 D'
  have good : ∀ q h1, q ≤ 6 → m ≤ n → (∀ p, q ≤ p → p < 6 → gI h1 arr p = nI ((digL D' m).getD p 0)) → (∀ p, q ≤ p → p < m → (if p + 1 = m then 1 else (digL D' m).getD (p + 1) 0) ≤ (digL D' m).getD p 0) → (∀ p, q ≤ p → p < m → 1 ≤ (digL D' m).getD p 0) → ((digL D' m).drop q).sum ≤ 9 * (6 - q) → FrO h h1 arr → V Γ mX10_isShape d 124 124 h1 51 [some (.ref 94), some (.int (nI D')), some (.ref arr), some (.int (nI m)), some (.int (gBo true)), some (.int (nI (D' / 10 ^ (m - q)))), some (.int (nI ((digL D' m).drop q).sum)), some (.int (nI q - nI 1))] [] Q := by
    intro q
    induction q with
    | zero =>
      intro h1 hq hmn hA hc hp hs hF
      have e := shOk_t (D := D') (n := n) (by omega) (fun r hr => by rw [hm] at hr ⊢; exact hc r (by omega) hr)
      rw [hm] at e
      rw [List.drop_zero] at hs ⊢
      have hQ9 := hQ h1 (fun _ r hr => hA r (by omega) hr) hF
      rw [e] at hQ9
      by_cases h6 : (digL D' m).sum ≤ 6
      · rw [decide_eq_true h6] at hQ9
        refine V_iloadw7 dX10_isShape_51 ?_
        refine V_if_lt (tgt := 138) dX10_isShape_53 (by decide) (fun c53 => ?_) (fun c53 => ?_)
        · skip
          refine V_iloadw4 dX10_isShape_138 ?_
          first | refine U_ifB_eq (tgt := 154) dX10_isShape_140 (by decide) (by with_reducible rfl) (fun c140 => ?_) (fun c140 => ?_) | refine U_if_eq (tgt := 154) dX10_isShape_140 (by decide) (by with_reducible rfl) (by omega) (fun c140 => ?_) (fun c140 => ?_) | refine V_if_eq (tgt := 154) dX10_isShape_140 (by decide) (fun c140 => ?_) (fun c140 => ?_)
          · skip
            cases c140
          · skip
            refine V_iloadw6 dX10_isShape_143 ?_
            refine V_bipush (v := nI 6) dX10_isShape_145 (by decide) ?_
            first | refine U_icmp_gt (tgt := 154) dX10_isShape_147 (by decide) (by with_reducible rfl) (by with_reducible rfl) (by omega) (by omega) (fun c147 => ?_) (fun c147 => ?_) | refine V_icmp_gt (tgt := 154) dX10_isShape_147 (by decide) (fun c147 => ?_) (fun c147 => ?_)
            · skip
              omega
            · skip
              refine V_iconst (v := nI 1) dX10_isShape_150 (by decide) ?_
              refine V_goto (tgt := 155) dX10_isShape_151 (by decide) ?_
              refine V_iret dX10_isShape_155 rfl (by first | exact gBo_nar _ | rfl | decide) ?_
              exact hQ9
        · skip
          exact absurd ((gdec_lt (by omega)).mpr rfl) c53
      · rw [decide_eq_false h6] at hQ9
        refine V_iloadw7 dX10_isShape_51 ?_
        refine V_if_lt (tgt := 138) dX10_isShape_53 (by decide) (fun c53 => ?_) (fun c53 => ?_)
        · skip
          refine V_iloadw4 dX10_isShape_138 ?_
          first | refine U_ifB_eq (tgt := 154) dX10_isShape_140 (by decide) (by with_reducible rfl) (fun c140 => ?_) (fun c140 => ?_) | refine U_if_eq (tgt := 154) dX10_isShape_140 (by decide) (by with_reducible rfl) (by omega) (fun c140 => ?_) (fun c140 => ?_) | refine V_if_eq (tgt := 154) dX10_isShape_140 (by decide) (fun c140 => ?_) (fun c140 => ?_)
          · skip
            cases c140
          · skip
            refine V_iloadw6 dX10_isShape_143 ?_
            refine V_bipush (v := nI 6) dX10_isShape_145 (by decide) ?_
            first | refine U_icmp_gt (tgt := 154) dX10_isShape_147 (by decide) (by with_reducible rfl) (by with_reducible rfl) (by omega) (by omega) (fun c147 => ?_) (fun c147 => ?_) | refine V_icmp_gt (tgt := 154) dX10_isShape_147 (by decide) (fun c147 => ?_) (fun c147 => ?_)
            · skip
              refine V_iconst (v := nI 0) dX10_isShape_154 (by decide) ?_
              refine V_iret dX10_isShape_155 rfl (by first | exact gBo_nar _ | rfl | decide) ?_
              exact hQ9
            · skip
              omega
        · skip
          exact absurd ((gdec_lt (by omega)).mpr rfl) c53
    | succ q ih =>
      intro h1 hq hmn hA hc hp hs hF
      rw [gdecP]
      by_cases hqm : q < m
      · have hx : D' / 10 ^ (m - (q + 1)) < 2 ^ 31 := Nat.lt_of_le_of_lt (Nat.div_le_self _ _) hD'
        have hdg : D' / 10 ^ (m - (q + 1)) % 10 = (digL D' m).getD q 0 := by rw [digL_get (by omega), show m - 1 - q = m - (q + 1) by omega]
        have hdl := digL_le D' m q
        have hdl1 := digL_le D' m (q + 1)
        have hnext : D' / 10 ^ (m - (q + 1)) / 10 = D' / 10 ^ (m - q) := by rw [Nat.div_div_eq_div_mul, ← Nat.pow_succ, show (m - (q + 1)).succ = m - q by omega]
        have hsum := drop_sum (l := digL D' m) (q := q) (by rw [digL_len]; exact hqm)
        generalize hh2 : sI (sI h1 arr q (nI 0)) arr q (nI ((digL D' m).getD q 0)) = h2
        have hF2 : FrO h h2 arr := by rw [← hh2]; exact fro_sI (fro_sI hF)
        have g2 : gI h2 arr q = nI ((digL D' m).getD q 0) := by rw [← hh2, gI_sI, if_pos ⟨rfl, rfl⟩]
        have g3 : gI h2 arr (q + 1) = nI ((digL D' m).getD (q + 1) 0) := by rw [← hh2, gI_sI, if_neg (by omega), gI_sI, if_neg (by omega)]; exact hA (q + 1) (by omega) (by omega)
        have hA2 : ∀ p, q ≤ p → p < 6 → gI h2 arr p = nI ((digL D' m).getD p 0) := fun p a b => by
          by_cases e : p = q
          · subst e; exact g2
          · rw [← hh2, gI_sI, if_neg (fun z => e z.2), gI_sI, if_neg (fun z => e z.2)]; exact hA p (by omega) b
        by_cases hcond : (if q + 1 = m then 1 else (digL D' m).getD (q + 1) 0) ≤ (digL D' m).getD q 0
        · have h1q : 1 ≤ (digL D' m).getD q 0 := by
            by_cases e : q + 1 = m
            · rw [if_pos e] at hcond; exact hcond
            · rw [if_neg e] at hcond
              have := hp (q + 1) (by omega) (by omega)
              omega
          have z := ih h2 (by omega) hmn hA2 (fun p a b => by by_cases e : p = q; (· subst e; exact hcond); exact hc p (by omega) b) (fun p a b => by by_cases e : p = q; (· subst e; exact h1q); exact hp p (by omega) b) (by omega) hF2
          rw [hsum] at z
          by_cases e : q + 1 = m
          · skip
            refine V_iloadw7 dX10_isShape_51 ?_
            refine V_if_lt (tgt := 138) dX10_isShape_53 (by decide) (fun c53 => ?_) (fun c53 => ?_)
            · skip
              exact absurd c53 (nI_pos (by omega))
            · skip
              refine V_aloadn2 dX10_isShape_56 ?_
              refine V_iloadw7 dX10_isShape_57 ?_
              refine V_iconst (v := nI 0) dX10_isShape_59 (by decide) ?_
              refine U_iast dX10_isShape_60 (by with_reducible rfl) (by first | assumption | rfl) (by first | decide | omega) (by omega) ?_
              refine V_iloadw7 dX10_isShape_61 ?_
              refine V_iloadn3 dX10_isShape_63 ?_
              first | refine U_icmp_ge (tgt := 132) dX10_isShape_64 (by decide) (by with_reducible rfl) (by with_reducible rfl) (by omega) (by omega) (fun c64 => ?_) (fun c64 => ?_) | refine V_icmp_ge (tgt := 132) dX10_isShape_64 (by decide) (fun c64 => ?_) (fun c64 => ?_)
              · skip
                omega
              · skip
                refine V_iloadw4 dX10_isShape_67 ?_
                first | refine U_ifB_eq (tgt := 132) dX10_isShape_69 (by decide) (by with_reducible rfl) (fun c69 => ?_) (fun c69 => ?_) | refine U_if_eq (tgt := 132) dX10_isShape_69 (by decide) (by with_reducible rfl) (by omega) (fun c69 => ?_) (fun c69 => ?_) | refine V_if_eq (tgt := 132) dX10_isShape_69 (by decide) (fun c69 => ?_) (fun c69 => ?_)
                · skip
                  cases c69
                · skip
                  refine V_aloadn2 dX10_isShape_72 ?_
                  refine V_iloadw7 dX10_isShape_73 ?_
                  refine V_iloadw5 dX10_isShape_75 ?_
                  refine V_bipush (v := nI 10) dX10_isShape_77 (by decide) ?_
                  first | refine U_irem dX10_isShape_79 (by with_reducible rfl) (by with_reducible rfl) (by omega) (by omega) (by omega) ?_ | refine V_irem dX10_isShape_79 (by decide) ?_
                  rw [hdg]
                  refine U_iast dX10_isShape_80 (by with_reducible rfl) (by first | assumption | rfl) (by first | decide | omega) (by omega) ?_
                  rw [hh2]
                  refine V_iloadw5 dX10_isShape_81 ?_
                  refine V_bipush (v := nI 10) dX10_isShape_83 (by decide) ?_
                  first | refine U_idiv dX10_isShape_85 (by with_reducible rfl) (by with_reducible rfl) (by omega) (by omega) (by omega) ?_ | refine V_idiv dX10_isShape_85 (by decide) ?_
                  refine V_istorew5 dX10_isShape_86 (by decide) rfl ?_
                  refine V_iloadw6 dX10_isShape_88 ?_
                  refine V_aloadn2 dX10_isShape_90 ?_
                  refine V_iloadw7 dX10_isShape_91 ?_
                  refine U_iald dX10_isShape_93 (by with_reducible rfl) (by first | assumption | rfl) (by first | decide | omega) (by omega) (by first | assumption | exact ML_4 (by assumption) | exact ML_5 (by assumption) | exact ML_6 (by assumption) | exact ML_7 (by assumption) | exact ML_8 (by assumption) | exact ML_9 (by assumption) | exact ML_10 (by assumption) | exact ML_11 (by assumption) | exact ML_12 (by assumption) | exact ML_13 (by assumption) | exact ML_15 (by assumption) | exact ML_16 (by assumption) | exact ML_17 (by assumption) | exact ML_20 (by assumption) | exact ML_23 (by assumption) | exact ML_24 (by assumption) | exact ML_30 (by assumption) | exact ML_31 (by assumption) | exact ML_32 (by assumption) | exact ML_33 (by assumption) | exact ML_35 (by assumption) | exact ML_36 (by assumption) | exact ML_37 (by assumption) | exact ML_38 (by assumption) | exact ML_41 (by assumption) | exact ML_42 (by assumption) | exact ML_43 (by assumption) | exact ML_44 (by assumption) | exact ML_45 (by assumption) | rfl) ?_
                  first | refine U_iadd dX10_isShape_94 (by with_reducible rfl) (by with_reducible rfl) ?_ | refine V_iadd dX10_isShape_94 ?_
                  refine V_istorew6 dX10_isShape_95 (by decide) rfl ?_
                  refine V_aloadn2 dX10_isShape_97 ?_
                  refine V_iloadw7 dX10_isShape_98 ?_
                  refine U_iald dX10_isShape_100 (by with_reducible rfl) (by first | assumption | rfl) (by first | decide | omega) (by omega) (by first | assumption | exact ML_4 (by assumption) | exact ML_5 (by assumption) | exact ML_6 (by assumption) | exact ML_7 (by assumption) | exact ML_8 (by assumption) | exact ML_9 (by assumption) | exact ML_10 (by assumption) | exact ML_11 (by assumption) | exact ML_12 (by assumption) | exact ML_13 (by assumption) | exact ML_15 (by assumption) | exact ML_16 (by assumption) | exact ML_17 (by assumption) | exact ML_20 (by assumption) | exact ML_23 (by assumption) | exact ML_24 (by assumption) | exact ML_30 (by assumption) | exact ML_31 (by assumption) | exact ML_32 (by assumption) | exact ML_33 (by assumption) | exact ML_35 (by assumption) | exact ML_36 (by assumption) | exact ML_37 (by assumption) | exact ML_38 (by assumption) | exact ML_41 (by assumption) | exact ML_42 (by assumption) | exact ML_43 (by assumption) | exact ML_44 (by assumption) | exact ML_45 (by assumption) | rfl) ?_
                  first | refine U_if_le (tgt := 129) dX10_isShape_101 (by decide) (by with_reducible rfl) (by omega) (fun c101 => ?_) (fun c101 => ?_) | refine V_if_le (tgt := 129) dX10_isShape_101 (by decide) (fun c101 => ?_) (fun c101 => ?_)
                  · skip
                    omega
                  · skip
                    refine V_iloadw7 dX10_isShape_104 ?_
                    refine V_iloadn3 dX10_isShape_106 ?_
                    refine V_iconst (v := nI 1) dX10_isShape_107 (by decide) ?_
                    first | refine U_isub dX10_isShape_108 (by with_reducible rfl) (by with_reducible rfl) (by omega) ?_ | refine V_isub dX10_isShape_108 ?_
                    first | refine U_icmp_eq (tgt := 125) dX10_isShape_109 (by decide) (by with_reducible rfl) (by with_reducible rfl) (by omega) (by omega) (fun c109 => ?_) (fun c109 => ?_) | refine V_icmp_eq (tgt := 125) dX10_isShape_109 (by decide) (fun c109 => ?_) (fun c109 => ?_)
                    · skip
                      refine V_iconst (v := nI 1) dX10_isShape_125 (by decide) ?_
                      refine V_goto (tgt := 130) dX10_isShape_126 (by decide) ?_
                      refine V_istorew4 dX10_isShape_130 (by decide) rfl ?_
                      refine V_iinc7 dX10_isShape_132 (by first | exact gdecS _ | rfl) (by decide) rfl ?_
                      refine V_goto (tgt := 51) dX10_isShape_135 (by decide) ?_
                      rw [hnext, Nat.add_comm (List.sum _)]
                      exact z
                    · skip
                      omega
          · rw [if_neg e] at hcond
            refine V_iloadw7 dX10_isShape_51 ?_
            refine V_if_lt (tgt := 138) dX10_isShape_53 (by decide) (fun c53 => ?_) (fun c53 => ?_)
            · skip
              exact absurd c53 (nI_pos (by omega))
            · skip
              refine V_aloadn2 dX10_isShape_56 ?_
              refine V_iloadw7 dX10_isShape_57 ?_
              refine V_iconst (v := nI 0) dX10_isShape_59 (by decide) ?_
              refine U_iast dX10_isShape_60 (by with_reducible rfl) (by first | assumption | rfl) (by first | decide | omega) (by omega) ?_
              refine V_iloadw7 dX10_isShape_61 ?_
              refine V_iloadn3 dX10_isShape_63 ?_
              first | refine U_icmp_ge (tgt := 132) dX10_isShape_64 (by decide) (by with_reducible rfl) (by with_reducible rfl) (by omega) (by omega) (fun c64 => ?_) (fun c64 => ?_) | refine V_icmp_ge (tgt := 132) dX10_isShape_64 (by decide) (fun c64 => ?_) (fun c64 => ?_)
              · skip
                omega
              · skip
                refine V_iloadw4 dX10_isShape_67 ?_
                first | refine U_ifB_eq (tgt := 132) dX10_isShape_69 (by decide) (by with_reducible rfl) (fun c69 => ?_) (fun c69 => ?_) | refine U_if_eq (tgt := 132) dX10_isShape_69 (by decide) (by with_reducible rfl) (by omega) (fun c69 => ?_) (fun c69 => ?_) | refine V_if_eq (tgt := 132) dX10_isShape_69 (by decide) (fun c69 => ?_) (fun c69 => ?_)
                · skip
                  cases c69
                · skip
                  refine V_aloadn2 dX10_isShape_72 ?_
                  refine V_iloadw7 dX10_isShape_73 ?_
                  refine V_iloadw5 dX10_isShape_75 ?_
                  refine V_bipush (v := nI 10) dX10_isShape_77 (by decide) ?_
                  first | refine U_irem dX10_isShape_79 (by with_reducible rfl) (by with_reducible rfl) (by omega) (by omega) (by omega) ?_ | refine V_irem dX10_isShape_79 (by decide) ?_
                  rw [hdg]
                  refine U_iast dX10_isShape_80 (by with_reducible rfl) (by first | assumption | rfl) (by first | decide | omega) (by omega) ?_
                  rw [hh2]
                  refine V_iloadw5 dX10_isShape_81 ?_
                  refine V_bipush (v := nI 10) dX10_isShape_83 (by decide) ?_
                  first | refine U_idiv dX10_isShape_85 (by with_reducible rfl) (by with_reducible rfl) (by omega) (by omega) (by omega) ?_ | refine V_idiv dX10_isShape_85 (by decide) ?_
                  refine V_istorew5 dX10_isShape_86 (by decide) rfl ?_
                  refine V_iloadw6 dX10_isShape_88 ?_
                  refine V_aloadn2 dX10_isShape_90 ?_
                  refine V_iloadw7 dX10_isShape_91 ?_
                  refine U_iald dX10_isShape_93 (by with_reducible rfl) (by first | assumption | rfl) (by first | decide | omega) (by omega) (by first | assumption | exact ML_4 (by assumption) | exact ML_5 (by assumption) | exact ML_6 (by assumption) | exact ML_7 (by assumption) | exact ML_8 (by assumption) | exact ML_9 (by assumption) | exact ML_10 (by assumption) | exact ML_11 (by assumption) | exact ML_12 (by assumption) | exact ML_13 (by assumption) | exact ML_15 (by assumption) | exact ML_16 (by assumption) | exact ML_17 (by assumption) | exact ML_20 (by assumption) | exact ML_23 (by assumption) | exact ML_24 (by assumption) | exact ML_30 (by assumption) | exact ML_31 (by assumption) | exact ML_32 (by assumption) | exact ML_33 (by assumption) | exact ML_35 (by assumption) | exact ML_36 (by assumption) | exact ML_37 (by assumption) | exact ML_38 (by assumption) | exact ML_41 (by assumption) | exact ML_42 (by assumption) | exact ML_43 (by assumption) | exact ML_44 (by assumption) | exact ML_45 (by assumption) | rfl) ?_
                  first | refine U_iadd dX10_isShape_94 (by with_reducible rfl) (by with_reducible rfl) ?_ | refine V_iadd dX10_isShape_94 ?_
                  refine V_istorew6 dX10_isShape_95 (by decide) rfl ?_
                  refine V_aloadn2 dX10_isShape_97 ?_
                  refine V_iloadw7 dX10_isShape_98 ?_
                  refine U_iald dX10_isShape_100 (by with_reducible rfl) (by first | assumption | rfl) (by first | decide | omega) (by omega) (by first | assumption | exact ML_4 (by assumption) | exact ML_5 (by assumption) | exact ML_6 (by assumption) | exact ML_7 (by assumption) | exact ML_8 (by assumption) | exact ML_9 (by assumption) | exact ML_10 (by assumption) | exact ML_11 (by assumption) | exact ML_12 (by assumption) | exact ML_13 (by assumption) | exact ML_15 (by assumption) | exact ML_16 (by assumption) | exact ML_17 (by assumption) | exact ML_20 (by assumption) | exact ML_23 (by assumption) | exact ML_24 (by assumption) | exact ML_30 (by assumption) | exact ML_31 (by assumption) | exact ML_32 (by assumption) | exact ML_33 (by assumption) | exact ML_35 (by assumption) | exact ML_36 (by assumption) | exact ML_37 (by assumption) | exact ML_38 (by assumption) | exact ML_41 (by assumption) | exact ML_42 (by assumption) | exact ML_43 (by assumption) | exact ML_44 (by assumption) | exact ML_45 (by assumption) | rfl) ?_
                  first | refine U_if_le (tgt := 129) dX10_isShape_101 (by decide) (by with_reducible rfl) (by omega) (fun c101 => ?_) (fun c101 => ?_) | refine V_if_le (tgt := 129) dX10_isShape_101 (by decide) (fun c101 => ?_) (fun c101 => ?_)
                  · skip
                    omega
                  · skip
                    refine V_iloadw7 dX10_isShape_104 ?_
                    refine V_iloadn3 dX10_isShape_106 ?_
                    refine V_iconst (v := nI 1) dX10_isShape_107 (by decide) ?_
                    first | refine U_isub dX10_isShape_108 (by with_reducible rfl) (by with_reducible rfl) (by omega) ?_ | refine V_isub dX10_isShape_108 ?_
                    first | refine U_icmp_eq (tgt := 125) dX10_isShape_109 (by decide) (by with_reducible rfl) (by with_reducible rfl) (by omega) (by omega) (fun c109 => ?_) (fun c109 => ?_) | refine V_icmp_eq (tgt := 125) dX10_isShape_109 (by decide) (fun c109 => ?_) (fun c109 => ?_)
                    · skip
                      omega
                    · skip
                      refine V_aloadn2 dX10_isShape_112 ?_
                      refine V_iloadw7 dX10_isShape_113 ?_
                      refine U_iald dX10_isShape_115 (by with_reducible rfl) (by first | assumption | rfl) (by first | decide | omega) (by omega) (by first | assumption | exact ML_4 (by assumption) | exact ML_5 (by assumption) | exact ML_6 (by assumption) | exact ML_7 (by assumption) | exact ML_8 (by assumption) | exact ML_9 (by assumption) | exact ML_10 (by assumption) | exact ML_11 (by assumption) | exact ML_12 (by assumption) | exact ML_13 (by assumption) | exact ML_15 (by assumption) | exact ML_16 (by assumption) | exact ML_17 (by assumption) | exact ML_20 (by assumption) | exact ML_23 (by assumption) | exact ML_24 (by assumption) | exact ML_30 (by assumption) | exact ML_31 (by assumption) | exact ML_32 (by assumption) | exact ML_33 (by assumption) | exact ML_35 (by assumption) | exact ML_36 (by assumption) | exact ML_37 (by assumption) | exact ML_38 (by assumption) | exact ML_41 (by assumption) | exact ML_42 (by assumption) | exact ML_43 (by assumption) | exact ML_44 (by assumption) | exact ML_45 (by assumption) | rfl) ?_
                      refine V_aloadn2 dX10_isShape_116 ?_
                      refine V_iloadw7 dX10_isShape_117 ?_
                      refine V_iconst (v := nI 1) dX10_isShape_119 (by decide) ?_
                      first | refine U_iadd dX10_isShape_120 (by with_reducible rfl) (by with_reducible rfl) ?_ | refine V_iadd dX10_isShape_120 ?_
                      refine U_iald dX10_isShape_121 (by with_reducible rfl) (by first | assumption | rfl) (by first | decide | omega) (by omega) (by first | assumption | exact ML_4 (by assumption) | exact ML_5 (by assumption) | exact ML_6 (by assumption) | exact ML_7 (by assumption) | exact ML_8 (by assumption) | exact ML_9 (by assumption) | exact ML_10 (by assumption) | exact ML_11 (by assumption) | exact ML_12 (by assumption) | exact ML_13 (by assumption) | exact ML_15 (by assumption) | exact ML_16 (by assumption) | exact ML_17 (by assumption) | exact ML_20 (by assumption) | exact ML_23 (by assumption) | exact ML_24 (by assumption) | exact ML_30 (by assumption) | exact ML_31 (by assumption) | exact ML_32 (by assumption) | exact ML_33 (by assumption) | exact ML_35 (by assumption) | exact ML_36 (by assumption) | exact ML_37 (by assumption) | exact ML_38 (by assumption) | exact ML_41 (by assumption) | exact ML_42 (by assumption) | exact ML_43 (by assumption) | exact ML_44 (by assumption) | exact ML_45 (by assumption) | rfl) ?_
                      first | refine U_icmp_lt (tgt := 129) dX10_isShape_122 (by decide) (by with_reducible rfl) (by with_reducible rfl) (by omega) (by omega) (fun c122 => ?_) (fun c122 => ?_) | refine V_icmp_lt (tgt := 129) dX10_isShape_122 (by decide) (fun c122 => ?_) (fun c122 => ?_)
                      · skip
                        omega
                      · skip
                        refine V_iconst (v := nI 1) dX10_isShape_125 (by decide) ?_
                        refine V_goto (tgt := 130) dX10_isShape_126 (by decide) ?_
                        refine V_istorew4 dX10_isShape_130 (by decide) rfl ?_
                        refine V_iinc7 dX10_isShape_132 (by first | exact gdecS _ | rfl) (by decide) rfl ?_
                        refine V_goto (tgt := 51) dX10_isShape_135 (by decide) ?_
                        rw [hnext, Nat.add_comm (List.sum _)]
                        exact z
        · have hb := shOk_f (D := D') (n := n) (r := q) (by omega) (by rw [hm]; exact hcond)
          have z := bad q h2 m (nI (D' / 10 ^ (m - q))) (((digL D' m).drop (q + 1)).sum + (digL D' m).getD q 0) (by omega) hm10 (by omega) hb hF2
          by_cases h0 : (digL D' m).getD q 0 = 0
          · skip
            refine V_iloadw7 dX10_isShape_51 ?_
            refine V_if_lt (tgt := 138) dX10_isShape_53 (by decide) (fun c53 => ?_) (fun c53 => ?_)
            · skip
              exact absurd c53 (nI_pos (by omega))
            · skip
              refine V_aloadn2 dX10_isShape_56 ?_
              refine V_iloadw7 dX10_isShape_57 ?_
              refine V_iconst (v := nI 0) dX10_isShape_59 (by decide) ?_
              refine U_iast dX10_isShape_60 (by with_reducible rfl) (by first | assumption | rfl) (by first | decide | omega) (by omega) ?_
              refine V_iloadw7 dX10_isShape_61 ?_
              refine V_iloadn3 dX10_isShape_63 ?_
              first | refine U_icmp_ge (tgt := 132) dX10_isShape_64 (by decide) (by with_reducible rfl) (by with_reducible rfl) (by omega) (by omega) (fun c64 => ?_) (fun c64 => ?_) | refine V_icmp_ge (tgt := 132) dX10_isShape_64 (by decide) (fun c64 => ?_) (fun c64 => ?_)
              · skip
                omega
              · skip
                refine V_iloadw4 dX10_isShape_67 ?_
                first | refine U_ifB_eq (tgt := 132) dX10_isShape_69 (by decide) (by with_reducible rfl) (fun c69 => ?_) (fun c69 => ?_) | refine U_if_eq (tgt := 132) dX10_isShape_69 (by decide) (by with_reducible rfl) (by omega) (fun c69 => ?_) (fun c69 => ?_) | refine V_if_eq (tgt := 132) dX10_isShape_69 (by decide) (fun c69 => ?_) (fun c69 => ?_)
                · skip
                  cases c69
                · skip
                  refine V_aloadn2 dX10_isShape_72 ?_
                  refine V_iloadw7 dX10_isShape_73 ?_
                  refine V_iloadw5 dX10_isShape_75 ?_
                  refine V_bipush (v := nI 10) dX10_isShape_77 (by decide) ?_
                  first | refine U_irem dX10_isShape_79 (by with_reducible rfl) (by with_reducible rfl) (by omega) (by omega) (by omega) ?_ | refine V_irem dX10_isShape_79 (by decide) ?_
                  rw [hdg]
                  refine U_iast dX10_isShape_80 (by with_reducible rfl) (by first | assumption | rfl) (by first | decide | omega) (by omega) ?_
                  rw [hh2]
                  refine V_iloadw5 dX10_isShape_81 ?_
                  refine V_bipush (v := nI 10) dX10_isShape_83 (by decide) ?_
                  first | refine U_idiv dX10_isShape_85 (by with_reducible rfl) (by with_reducible rfl) (by omega) (by omega) (by omega) ?_ | refine V_idiv dX10_isShape_85 (by decide) ?_
                  refine V_istorew5 dX10_isShape_86 (by decide) rfl ?_
                  refine V_iloadw6 dX10_isShape_88 ?_
                  refine V_aloadn2 dX10_isShape_90 ?_
                  refine V_iloadw7 dX10_isShape_91 ?_
                  refine U_iald dX10_isShape_93 (by with_reducible rfl) (by first | assumption | rfl) (by first | decide | omega) (by omega) (by first | assumption | exact ML_4 (by assumption) | exact ML_5 (by assumption) | exact ML_6 (by assumption) | exact ML_7 (by assumption) | exact ML_8 (by assumption) | exact ML_9 (by assumption) | exact ML_10 (by assumption) | exact ML_11 (by assumption) | exact ML_12 (by assumption) | exact ML_13 (by assumption) | exact ML_15 (by assumption) | exact ML_16 (by assumption) | exact ML_17 (by assumption) | exact ML_20 (by assumption) | exact ML_23 (by assumption) | exact ML_24 (by assumption) | exact ML_30 (by assumption) | exact ML_31 (by assumption) | exact ML_32 (by assumption) | exact ML_33 (by assumption) | exact ML_35 (by assumption) | exact ML_36 (by assumption) | exact ML_37 (by assumption) | exact ML_38 (by assumption) | exact ML_41 (by assumption) | exact ML_42 (by assumption) | exact ML_43 (by assumption) | exact ML_44 (by assumption) | exact ML_45 (by assumption) | rfl) ?_
                  first | refine U_iadd dX10_isShape_94 (by with_reducible rfl) (by with_reducible rfl) ?_ | refine V_iadd dX10_isShape_94 ?_
                  refine V_istorew6 dX10_isShape_95 (by decide) rfl ?_
                  refine V_aloadn2 dX10_isShape_97 ?_
                  refine V_iloadw7 dX10_isShape_98 ?_
                  refine U_iald dX10_isShape_100 (by with_reducible rfl) (by first | assumption | rfl) (by first | decide | omega) (by omega) (by first | assumption | exact ML_4 (by assumption) | exact ML_5 (by assumption) | exact ML_6 (by assumption) | exact ML_7 (by assumption) | exact ML_8 (by assumption) | exact ML_9 (by assumption) | exact ML_10 (by assumption) | exact ML_11 (by assumption) | exact ML_12 (by assumption) | exact ML_13 (by assumption) | exact ML_15 (by assumption) | exact ML_16 (by assumption) | exact ML_17 (by assumption) | exact ML_20 (by assumption) | exact ML_23 (by assumption) | exact ML_24 (by assumption) | exact ML_30 (by assumption) | exact ML_31 (by assumption) | exact ML_32 (by assumption) | exact ML_33 (by assumption) | exact ML_35 (by assumption) | exact ML_36 (by assumption) | exact ML_37 (by assumption) | exact ML_38 (by assumption) | exact ML_41 (by assumption) | exact ML_42 (by assumption) | exact ML_43 (by assumption) | exact ML_44 (by assumption) | exact ML_45 (by assumption) | rfl) ?_
                  first | refine U_if_le (tgt := 129) dX10_isShape_101 (by decide) (by with_reducible rfl) (by omega) (fun c101 => ?_) (fun c101 => ?_) | refine V_if_le (tgt := 129) dX10_isShape_101 (by decide) (fun c101 => ?_) (fun c101 => ?_)
                  · skip
                    refine V_iconst (v := nI 0) dX10_isShape_129 (by decide) ?_
                    refine V_istorew4 dX10_isShape_130 (by decide) rfl ?_
                    refine V_iinc7 dX10_isShape_132 (by first | exact gdecS _ | rfl) (by decide) rfl ?_
                    refine V_goto (tgt := 51) dX10_isShape_135 (by decide) ?_
                    rw [hnext]
                    exact z
                  · skip
                    omega
          · have e : ¬ q + 1 = m := fun e => hcond (by rw [if_pos e]; omega)
            rw [if_neg e] at hcond
            refine V_iloadw7 dX10_isShape_51 ?_
            refine V_if_lt (tgt := 138) dX10_isShape_53 (by decide) (fun c53 => ?_) (fun c53 => ?_)
            · skip
              exact absurd c53 (nI_pos (by omega))
            · skip
              refine V_aloadn2 dX10_isShape_56 ?_
              refine V_iloadw7 dX10_isShape_57 ?_
              refine V_iconst (v := nI 0) dX10_isShape_59 (by decide) ?_
              refine U_iast dX10_isShape_60 (by with_reducible rfl) (by first | assumption | rfl) (by first | decide | omega) (by omega) ?_
              refine V_iloadw7 dX10_isShape_61 ?_
              refine V_iloadn3 dX10_isShape_63 ?_
              first | refine U_icmp_ge (tgt := 132) dX10_isShape_64 (by decide) (by with_reducible rfl) (by with_reducible rfl) (by omega) (by omega) (fun c64 => ?_) (fun c64 => ?_) | refine V_icmp_ge (tgt := 132) dX10_isShape_64 (by decide) (fun c64 => ?_) (fun c64 => ?_)
              · skip
                omega
              · skip
                refine V_iloadw4 dX10_isShape_67 ?_
                first | refine U_ifB_eq (tgt := 132) dX10_isShape_69 (by decide) (by with_reducible rfl) (fun c69 => ?_) (fun c69 => ?_) | refine U_if_eq (tgt := 132) dX10_isShape_69 (by decide) (by with_reducible rfl) (by omega) (fun c69 => ?_) (fun c69 => ?_) | refine V_if_eq (tgt := 132) dX10_isShape_69 (by decide) (fun c69 => ?_) (fun c69 => ?_)
                · skip
                  cases c69
                · skip
                  refine V_aloadn2 dX10_isShape_72 ?_
                  refine V_iloadw7 dX10_isShape_73 ?_
                  refine V_iloadw5 dX10_isShape_75 ?_
                  refine V_bipush (v := nI 10) dX10_isShape_77 (by decide) ?_
                  first | refine U_irem dX10_isShape_79 (by with_reducible rfl) (by with_reducible rfl) (by omega) (by omega) (by omega) ?_ | refine V_irem dX10_isShape_79 (by decide) ?_
                  rw [hdg]
                  refine U_iast dX10_isShape_80 (by with_reducible rfl) (by first | assumption | rfl) (by first | decide | omega) (by omega) ?_
                  rw [hh2]
                  refine V_iloadw5 dX10_isShape_81 ?_
                  refine V_bipush (v := nI 10) dX10_isShape_83 (by decide) ?_
                  first | refine U_idiv dX10_isShape_85 (by with_reducible rfl) (by with_reducible rfl) (by omega) (by omega) (by omega) ?_ | refine V_idiv dX10_isShape_85 (by decide) ?_
                  refine V_istorew5 dX10_isShape_86 (by decide) rfl ?_
                  refine V_iloadw6 dX10_isShape_88 ?_
                  refine V_aloadn2 dX10_isShape_90 ?_
                  refine V_iloadw7 dX10_isShape_91 ?_
                  refine U_iald dX10_isShape_93 (by with_reducible rfl) (by first | assumption | rfl) (by first | decide | omega) (by omega) (by first | assumption | exact ML_4 (by assumption) | exact ML_5 (by assumption) | exact ML_6 (by assumption) | exact ML_7 (by assumption) | exact ML_8 (by assumption) | exact ML_9 (by assumption) | exact ML_10 (by assumption) | exact ML_11 (by assumption) | exact ML_12 (by assumption) | exact ML_13 (by assumption) | exact ML_15 (by assumption) | exact ML_16 (by assumption) | exact ML_17 (by assumption) | exact ML_20 (by assumption) | exact ML_23 (by assumption) | exact ML_24 (by assumption) | exact ML_30 (by assumption) | exact ML_31 (by assumption) | exact ML_32 (by assumption) | exact ML_33 (by assumption) | exact ML_35 (by assumption) | exact ML_36 (by assumption) | exact ML_37 (by assumption) | exact ML_38 (by assumption) | exact ML_41 (by assumption) | exact ML_42 (by assumption) | exact ML_43 (by assumption) | exact ML_44 (by assumption) | exact ML_45 (by assumption) | rfl) ?_
                  first | refine U_iadd dX10_isShape_94 (by with_reducible rfl) (by with_reducible rfl) ?_ | refine V_iadd dX10_isShape_94 ?_
                  refine V_istorew6 dX10_isShape_95 (by decide) rfl ?_
                  refine V_aloadn2 dX10_isShape_97 ?_
                  refine V_iloadw7 dX10_isShape_98 ?_
                  refine U_iald dX10_isShape_100 (by with_reducible rfl) (by first | assumption | rfl) (by first | decide | omega) (by omega) (by first | assumption | exact ML_4 (by assumption) | exact ML_5 (by assumption) | exact ML_6 (by assumption) | exact ML_7 (by assumption) | exact ML_8 (by assumption) | exact ML_9 (by assumption) | exact ML_10 (by assumption) | exact ML_11 (by assumption) | exact ML_12 (by assumption) | exact ML_13 (by assumption) | exact ML_15 (by assumption) | exact ML_16 (by assumption) | exact ML_17 (by assumption) | exact ML_20 (by assumption) | exact ML_23 (by assumption) | exact ML_24 (by assumption) | exact ML_30 (by assumption) | exact ML_31 (by assumption) | exact ML_32 (by assumption) | exact ML_33 (by assumption) | exact ML_35 (by assumption) | exact ML_36 (by assumption) | exact ML_37 (by assumption) | exact ML_38 (by assumption) | exact ML_41 (by assumption) | exact ML_42 (by assumption) | exact ML_43 (by assumption) | exact ML_44 (by assumption) | exact ML_45 (by assumption) | rfl) ?_
                  first | refine U_if_le (tgt := 129) dX10_isShape_101 (by decide) (by with_reducible rfl) (by omega) (fun c101 => ?_) (fun c101 => ?_) | refine V_if_le (tgt := 129) dX10_isShape_101 (by decide) (fun c101 => ?_) (fun c101 => ?_)
                  · skip
                    omega
                  · skip
                    refine V_iloadw7 dX10_isShape_104 ?_
                    refine V_iloadn3 dX10_isShape_106 ?_
                    refine V_iconst (v := nI 1) dX10_isShape_107 (by decide) ?_
                    first | refine U_isub dX10_isShape_108 (by with_reducible rfl) (by with_reducible rfl) (by omega) ?_ | refine V_isub dX10_isShape_108 ?_
                    first | refine U_icmp_eq (tgt := 125) dX10_isShape_109 (by decide) (by with_reducible rfl) (by with_reducible rfl) (by omega) (by omega) (fun c109 => ?_) (fun c109 => ?_) | refine V_icmp_eq (tgt := 125) dX10_isShape_109 (by decide) (fun c109 => ?_) (fun c109 => ?_)
                    · skip
                      omega
                    · skip
                      refine V_aloadn2 dX10_isShape_112 ?_
                      refine V_iloadw7 dX10_isShape_113 ?_
                      refine U_iald dX10_isShape_115 (by with_reducible rfl) (by first | assumption | rfl) (by first | decide | omega) (by omega) (by first | assumption | exact ML_4 (by assumption) | exact ML_5 (by assumption) | exact ML_6 (by assumption) | exact ML_7 (by assumption) | exact ML_8 (by assumption) | exact ML_9 (by assumption) | exact ML_10 (by assumption) | exact ML_11 (by assumption) | exact ML_12 (by assumption) | exact ML_13 (by assumption) | exact ML_15 (by assumption) | exact ML_16 (by assumption) | exact ML_17 (by assumption) | exact ML_20 (by assumption) | exact ML_23 (by assumption) | exact ML_24 (by assumption) | exact ML_30 (by assumption) | exact ML_31 (by assumption) | exact ML_32 (by assumption) | exact ML_33 (by assumption) | exact ML_35 (by assumption) | exact ML_36 (by assumption) | exact ML_37 (by assumption) | exact ML_38 (by assumption) | exact ML_41 (by assumption) | exact ML_42 (by assumption) | exact ML_43 (by assumption) | exact ML_44 (by assumption) | exact ML_45 (by assumption) | rfl) ?_
                      refine V_aloadn2 dX10_isShape_116 ?_
                      refine V_iloadw7 dX10_isShape_117 ?_
                      refine V_iconst (v := nI 1) dX10_isShape_119 (by decide) ?_
                      first | refine U_iadd dX10_isShape_120 (by with_reducible rfl) (by with_reducible rfl) ?_ | refine V_iadd dX10_isShape_120 ?_
                      refine U_iald dX10_isShape_121 (by with_reducible rfl) (by first | assumption | rfl) (by first | decide | omega) (by omega) (by first | assumption | exact ML_4 (by assumption) | exact ML_5 (by assumption) | exact ML_6 (by assumption) | exact ML_7 (by assumption) | exact ML_8 (by assumption) | exact ML_9 (by assumption) | exact ML_10 (by assumption) | exact ML_11 (by assumption) | exact ML_12 (by assumption) | exact ML_13 (by assumption) | exact ML_15 (by assumption) | exact ML_16 (by assumption) | exact ML_17 (by assumption) | exact ML_20 (by assumption) | exact ML_23 (by assumption) | exact ML_24 (by assumption) | exact ML_30 (by assumption) | exact ML_31 (by assumption) | exact ML_32 (by assumption) | exact ML_33 (by assumption) | exact ML_35 (by assumption) | exact ML_36 (by assumption) | exact ML_37 (by assumption) | exact ML_38 (by assumption) | exact ML_41 (by assumption) | exact ML_42 (by assumption) | exact ML_43 (by assumption) | exact ML_44 (by assumption) | exact ML_45 (by assumption) | rfl) ?_
                      first | refine U_icmp_lt (tgt := 129) dX10_isShape_122 (by decide) (by with_reducible rfl) (by with_reducible rfl) (by omega) (by omega) (fun c122 => ?_) (fun c122 => ?_) | refine V_icmp_lt (tgt := 129) dX10_isShape_122 (by decide) (fun c122 => ?_) (fun c122 => ?_)
                      · skip
                        refine V_iconst (v := nI 0) dX10_isShape_129 (by decide) ?_
                        refine V_istorew4 dX10_isShape_130 (by decide) rfl ?_
                        refine V_iinc7 dX10_isShape_132 (by first | exact gdecS _ | rfl) (by decide) rfl ?_
                        refine V_goto (tgt := 51) dX10_isShape_135 (by decide) ?_
                        rw [hnext]
                        exact z
                      · skip
                        omega
      · have hz : (digL D' m).getD q 0 = 0 := by rw [List.getD_eq_getElem?_getD, List.getElem?_eq_none (by rw [digL_len]; omega)]; rfl
        have hd1 : (digL D' m).drop (q + 1) = [] := List.drop_eq_nil_of_le (by rw [digL_len]; omega)
        have hd0 : (digL D' m).drop q = [] := List.drop_eq_nil_of_le (by rw [digL_len]; omega)
        have z := ih (sI h1 arr q (nI 0)) (by omega) hmn (fun p a b => by by_cases e : p = q; (· subst e; rw [gI_sI, if_pos ⟨rfl, rfl⟩, hz]); rw [gI_sI, if_neg (fun z => e z.2)]; exact hA p (by omega) b) (fun p a b => absurd b (by omega)) (fun p a b => absurd b (by omega)) (by rw [hd0]; exact Nat.zero_le _) (fro_sI hF)
        rw [hd0, show m - q = 0 by omega] at z
        rw [hd1, show m - (q + 1) = 0 by omega]
        refine V_iloadw7 dX10_isShape_51 ?_
        refine V_if_lt (tgt := 138) dX10_isShape_53 (by decide) (fun c53 => ?_) (fun c53 => ?_)
        · skip
          exact absurd c53 (nI_pos (by omega))
        · skip
          refine V_aloadn2 dX10_isShape_56 ?_
          refine V_iloadw7 dX10_isShape_57 ?_
          refine V_iconst (v := nI 0) dX10_isShape_59 (by decide) ?_
          refine U_iast dX10_isShape_60 (by with_reducible rfl) (by first | assumption | rfl) (by first | decide | omega) (by omega) ?_
          refine V_iloadw7 dX10_isShape_61 ?_
          refine V_iloadn3 dX10_isShape_63 ?_
          first | refine U_icmp_ge (tgt := 132) dX10_isShape_64 (by decide) (by with_reducible rfl) (by with_reducible rfl) (by omega) (by omega) (fun c64 => ?_) (fun c64 => ?_) | refine V_icmp_ge (tgt := 132) dX10_isShape_64 (by decide) (fun c64 => ?_) (fun c64 => ?_)
          · skip
            refine V_iinc7 dX10_isShape_132 (by first | exact gdecS _ | rfl) (by decide) rfl ?_
            refine V_goto (tgt := 51) dX10_isShape_135 (by decide) ?_
            exact z
          · skip
            omega
  have e5 : nI 5 = nI 6 - nI 1 := (gdecP 5).symm
  have hs9 : (digL D' m).drop 6 = [] ∨ 6 < m := by
    by_cases q : 6 < m
    · exact Or.inr q
    · exact Or.inl (List.drop_eq_nil_of_le (by rw [digL_len]; omega))
  have from23 : ∀ x4 x5 x6 x7, V Γ mX10_isShape d 124 124 h 23 [some (.ref 94), some (.int (nI D')), some (.ref arr), some (.int (nI m)), some (.int x4), x5, x6, x7] [] Q := by
    intro x4 x5 x6 x7
    have hnn : ¬ nI D' < 0 := Int32.not_lt.mpr (nI_pos' hD')
    by_cases hmn : m ≤ n
    · have hd6 : (digL D' m).drop 6 = [] := List.drop_eq_nil_of_le (by rw [digL_len]; omega)
      have z := good 6 h (Nat.le_refl _) hmn (fun p a b => absurd b (by omega)) (fun p a b => absurd b (by omega)) (fun p a b => absurd b (by omega)) (by rw [hd6]; exact Nat.zero_le _) FrO.rf
      rw [hd6, show m - 6 = 0 by omega, Nat.pow_zero, Nat.div_one] at z
      refine V_iloadn1 dX10_isShape_23 ?_
      refine V_if_lt (tgt := 39) dX10_isShape_24 (by decide) (fun c24 => ?_) (fun c24 => ?_)
      · skip
        exact absurd c24 hnn
      · skip
        refine V_iloadn3 dX10_isShape_27 ?_
        refine V_aloadn0 dX10_isShape_28 ?_
        refine V_getI dX10_isShape_29 fX10_7 (Or.inl rfl) (by first | assumption | rfl) (by first | decide | omega) (by first | assumption | exact ML_4 (by assumption) | exact ML_5 (by assumption) | exact ML_6 (by assumption) | exact ML_7 (by assumption) | exact ML_8 (by assumption) | exact ML_9 (by assumption) | exact ML_10 (by assumption) | exact ML_11 (by assumption) | exact ML_12 (by assumption) | exact ML_13 (by assumption) | exact ML_15 (by assumption) | exact ML_16 (by assumption) | exact ML_17 (by assumption) | exact ML_20 (by assumption) | exact ML_23 (by assumption) | exact ML_24 (by assumption) | exact ML_30 (by assumption) | exact ML_31 (by assumption) | exact ML_32 (by assumption) | exact ML_33 (by assumption) | exact ML_35 (by assumption) | exact ML_36 (by assumption) | exact ML_37 (by assumption) | exact ML_38 (by assumption) | exact ML_41 (by assumption) | exact ML_42 (by assumption) | exact ML_43 (by assumption) | exact ML_44 (by assumption) | exact ML_45 (by assumption) | rfl) ?_
        first | refine U_icmp_gt (tgt := 39) dX10_isShape_32 (by decide) (by with_reducible rfl) (by with_reducible rfl) (by omega) (by omega) (fun c32 => ?_) (fun c32 => ?_) | refine V_icmp_gt (tgt := 39) dX10_isShape_32 (by decide) (fun c32 => ?_) (fun c32 => ?_)
        · skip
          omega
        · skip
          refine V_iconst (v := nI 1) dX10_isShape_35 (by decide) ?_
          refine V_goto (tgt := 40) dX10_isShape_36 (by decide) ?_
          refine V_istorew4 dX10_isShape_40 (by decide) rfl ?_
          refine V_iloadn1 dX10_isShape_42 ?_
          refine V_istorew5 dX10_isShape_43 (by decide) rfl ?_
          refine V_iconst (v := nI 0) dX10_isShape_45 (by decide) ?_
          refine V_istorew6 dX10_isShape_46 (by decide) rfl ?_
          refine V_iconst (v := nI 5) dX10_isShape_48 (by decide) ?_
          refine V_istorew7 dX10_isShape_49 (by decide) rfl ?_
          rw [e5]
          exact z
    · have hb : shOk D' n = false := by unfold shOk; rw [hm, decide_eq_false hmn, Bool.false_and]
      have z := bad 6 h m (nI D') 0 (Nat.le_refl _) hm10 (by omega) hb FrO.rf
      refine V_iloadn1 dX10_isShape_23 ?_
      refine V_if_lt (tgt := 39) dX10_isShape_24 (by decide) (fun c24 => ?_) (fun c24 => ?_)
      · skip
        exact absurd c24 hnn
      · skip
        refine V_iloadn3 dX10_isShape_27 ?_
        refine V_aloadn0 dX10_isShape_28 ?_
        refine V_getI dX10_isShape_29 fX10_7 (Or.inl rfl) (by first | assumption | rfl) (by first | decide | omega) (by first | assumption | exact ML_4 (by assumption) | exact ML_5 (by assumption) | exact ML_6 (by assumption) | exact ML_7 (by assumption) | exact ML_8 (by assumption) | exact ML_9 (by assumption) | exact ML_10 (by assumption) | exact ML_11 (by assumption) | exact ML_12 (by assumption) | exact ML_13 (by assumption) | exact ML_15 (by assumption) | exact ML_16 (by assumption) | exact ML_17 (by assumption) | exact ML_20 (by assumption) | exact ML_23 (by assumption) | exact ML_24 (by assumption) | exact ML_30 (by assumption) | exact ML_31 (by assumption) | exact ML_32 (by assumption) | exact ML_33 (by assumption) | exact ML_35 (by assumption) | exact ML_36 (by assumption) | exact ML_37 (by assumption) | exact ML_38 (by assumption) | exact ML_41 (by assumption) | exact ML_42 (by assumption) | exact ML_43 (by assumption) | exact ML_44 (by assumption) | exact ML_45 (by assumption) | rfl) ?_
        first | refine U_icmp_gt (tgt := 39) dX10_isShape_32 (by decide) (by with_reducible rfl) (by with_reducible rfl) (by omega) (by omega) (fun c32 => ?_) (fun c32 => ?_) | refine V_icmp_gt (tgt := 39) dX10_isShape_32 (by decide) (fun c32 => ?_) (fun c32 => ?_)
        · skip
          refine V_iconst (v := nI 0) dX10_isShape_39 (by decide) ?_
          refine V_istorew4 dX10_isShape_40 (by decide) rfl ?_
          refine V_iloadn1 dX10_isShape_42 ?_
          refine V_istorew5 dX10_isShape_43 (by decide) rfl ?_
          refine V_iconst (v := nI 0) dX10_isShape_45 (by decide) ?_
          refine V_istorew6 dX10_isShape_46 (by decide) rfl ?_
          refine V_iconst (v := nI 5) dX10_isShape_48 (by decide) ?_
          refine V_istorew7 dX10_isShape_49 (by decide) rfl ?_
          rw [e5]
          exact z
        · skip
          omega
  have loop1 : ∀ k c left x5 x6 x7, left = k → c + ndF (10 - c) left = ndF 10 D' → left < 10 ^ (10 - c) → c ≤ 10 → left < 2 ^ 31 → V Γ mX10_isShape d 124 124 h 5 [some (.ref 94), some (.int (nI D')), some (.ref arr), some (.int (nI c)), some (.int (nI left)), x5, x6, x7] [] Q := by
    intro k
    induction k using Nat.strongRecOn with
    | _ k ih =>
      intro c left x5 x6 x7 hk hc hl hc10 h31
      by_cases h0 : left = 0
      · have ec := nd_10 _ c left D' rfl hc hl hc10 h0
        rw [hm] at ec
        subst ec
        refine V_iloadw4 dX10_isShape_5 ?_
        first | refine U_if_le (tgt := 23) dX10_isShape_7 (by decide) (by with_reducible rfl) (by omega) (fun c7 => ?_) (fun c7 => ?_) | refine V_if_le (tgt := 23) dX10_isShape_7 (by decide) (fun c7 => ?_) (fun c7 => ?_)
        · skip
          exact from23 _ _ _ _
        · skip
          exact absurd h0 c7
      · have hc9 : c < 10 := by
          apply Classical.byContradiction
          intro z
          rw [show 10 - c = 0 by omega] at hl
          omega
        refine V_iloadw4 dX10_isShape_5 ?_
        first | refine U_if_le (tgt := 23) dX10_isShape_7 (by decide) (by with_reducible rfl) (by omega) (fun c7 => ?_) (fun c7 => ?_) | refine V_if_le (tgt := 23) dX10_isShape_7 (by decide) (fun c7 => ?_) (fun c7 => ?_)
        · skip
          exact absurd c7 h0
        · skip
          refine V_iinc3 dX10_isShape_10 (by first | exact ginc1 _ | rfl) (by decide) rfl ?_
          refine V_iloadw4 dX10_isShape_13 ?_
          refine V_bipush (v := nI 10) dX10_isShape_15 (by decide) ?_
          first | refine U_idiv dX10_isShape_17 (by with_reducible rfl) (by with_reducible rfl) (by omega) (by omega) (by omega) ?_ | refine V_idiv dX10_isShape_17 (by decide) ?_
          refine V_istorew4 dX10_isShape_18 (by decide) rfl ?_
          refine V_goto (tgt := 5) dX10_isShape_20 (by decide) ?_
          refine ih (left / 10) (by omega) (c + 1) (left / 10) x5 x6 x7 rfl ?_ ?_ (by omega) (by omega)
          · rw [← hc, show 10 - c = (10 - (c + 1)) + 1 by omega, ndF, if_neg h0]
            omega
          · rw [show 10 - c = (10 - (c + 1)) + 1 by omega, Nat.pow_succ] at hl
            omega
  refine V_iconst (v := nI 0) dX10_isShape_0 (by decide) ?_
  refine V_istoren3 dX10_isShape_1 (by decide) rfl ?_
  refine V_iloadn1 dX10_isShape_2 ?_
  refine V_istorew4 dX10_isShape_3 (by decide) rfl ?_
  exact loop1 _ 0 D' _ _ _ rfl (Nat.zero_add _) (by omega) (by omega) hD'
end C81
