/-! ===== the reference: ALL OF a thing ===== -/
def SeI (h : gH) (M : Nat → Bool) : Prop := ∀ k, k < 489 → ∀ b, b < 32 → bt (gI h 113 k) b = M (32 * k + b)
def FaM (h : gH) (Cs : List Nat) : Prop := SeI h (fun x => decide (x ∈ Cs)) ∧ gI h 94 34 = nI Cs.length ∧ ∀ j, j < Cs.length → gI h 114 j = nI (Cs.getD j 0)
def FaK (h : gH) (n : Nat) (w Cs : List Nat) : Prop := FaM h Cs ∧ Cs.Nodup ∧ ∀ c ∈ Cs, famB n w c = true
def FrCm (h h' : gH) : Prop := (∀ a, a ≠ 94 → a ≠ 113 → a ≠ 114 → gI h' a = gI h a) ∧ (∀ k, k ≠ 34 → gI h' 94 k = gI h 94 k) ∧ gL h' = gL h ∧ gR h' = gR h
theorem FrCm.rf {h : gH} : FrCm h h := ⟨fun _ _ _ _ => rfl, fun _ _ => rfl, rfl, rfl⟩
theorem FrCm.X {h h' : gH} (a : FrCm h h') : FrX h h' := ⟨fun q hq => a.1 q (by omega) (by omega) (by omega), fun k hk => a.2.1 k (by omega), fun q _ => by rw [a.2.2.1], a.2.2.2⟩
theorem FaK_cg {h h' : gH} {n : Nat} {w Cs : List Nat} (hJ : FaK h n w Cs) (e1 : gI h' 113 = gI h 113) (e2 : gI h' 94 34 = gI h 94 34) (e3 : gI h' 114 = gI h 114) : FaK h' n w Cs := by
  obtain ⟨⟨a, b, c⟩, r⟩ := hJ
  exact ⟨⟨fun k hk b hb => by rw [e1]; exact a k hk b hb, by rw [e2]; exact b, fun j hj => by rw [e3]; exact c j hj⟩, r⟩
theorem lt_code5 {n m c : Nat} (hn : n ≤ 5) (hm : m ≤ 6) (hc : c < n ^ m) : c < 15625 := by
  have h1 : n ^ m ≤ 5 ^ m := Nat.pow_le_pow_left hn m
  have h2 : 5 ^ m ≤ 5 ^ 6 := Nat.pow_le_pow_right (by decide) hm
  omega
theorem top_in {n : Nat} {M : List Nat → Prop} (hn5 : n ≤ 5) : ∀ (f : Nat) (u : List Nat), u.length ≤ 6 → LtW n u → M u → (∀ v, v.length = u.length → LtW n v → M v → ∀ i, 1 ≤ i → i < n → fhC v i ≠ 0 → M (raiseW v i)) → M (toTop n f u).2
  | 0, u, _, _, h, _ => h
  | f + 1, u, hl, hu, h, hc => by
    unfold toTop
    cases hr : rLF u 1 (n - 1) with
    | none => exact h
    | some u' =>
      obtain ⟨j, g1, g2, g3, g4, -⟩ := rLF_some u 1 (n - 1) u' hr
      subst g4
      have hlen := raiseW_len u j
      exact top_in hn5 f (raiseW u j) (by omega) (LtW_raise hu g1 (by omega)) (hc u rfl hu h j g1 (by omega) g3) (fun v hv => hc v (by omega))
theorem cF_big {n : Nat} {w : List Nat} (hn : n ≤ 5) (hm : w.length ≤ 6) : cF (famB n w) 15680 = cF (famB n w) 15648 := by
  have key : ∀ k, 15648 ≤ k → cF (famB n w) k = cF (famB n w) 15648 := by
    intro k
    induction k with
    | zero => intro h; omega
    | succ k ih =>
      intro h
      by_cases e : k + 1 = 15648
      · rw [e]
      · have hf : famB n w k = false := by
          apply Bool.eq_false_iff.mpr
          intro q
          have := lt_code5 hn hm (famB_lt q)
          omega
        show cF (famB n w) k + (if famB n w k = true then 1 else 0) = _
        rw [hf, ih (by omega), if_neg Bool.false_ne_true, Nat.add_zero]
  exact key 15680 (by omega)
section C70
variable {Γ : gM} {d : Nat} {h : gH} {Q : Option Value → gH → Prop} {S : GS}
set_option maxRecDepth 100000 in
set_option maxHeartbeats 4000000 in
theorem m_code {n : Nat} {w : List Nat} (hM : MLay h) (r0 : gI h 94 0 = nI n) (hW : WW h w) (hw : ∀ p, p < w.length → 1 ≤ w.getD p 0) (hQ : Q (some (.int (nI (cdF n w w.length)))) h) : V Γ mX10_code d 124 124 h 0 [some (.ref 94), none, none] [] Q := by
  obtain ⟨w0, w1, w6, w9⟩ := hW
  have loop : ∀ f k, k + f = w.length → V Γ mX10_code d 124 124 h 4 [some (.ref 94), some (.int (nI (cdF n w k))), some (.int (nI k))] [] Q := by
    intro f
    induction f with
    | zero =>
      intro k hk
      have e : k = w.length := by omega
      subst e
      refine V_iloadn2 dX10_code_4 ?_
      refine V_aloadn0 dX10_code_5 ?_
      refine V_getI dX10_code_6 fX10_111 (Or.inl rfl) (by first | assumption | rfl) (by first | decide | omega) (by first | assumption | exact ML_4 (by assumption) | exact ML_5 (by assumption) | exact ML_6 (by assumption) | exact ML_7 (by assumption) | exact ML_8 (by assumption) | exact ML_9 (by assumption) | exact ML_10 (by assumption) | exact ML_11 (by assumption) | exact ML_12 (by assumption) | exact ML_13 (by assumption) | exact ML_15 (by assumption) | exact ML_16 (by assumption) | exact ML_17 (by assumption) | exact ML_20 (by assumption) | exact ML_23 (by assumption) | exact ML_24 (by assumption) | exact ML_30 (by assumption) | exact ML_31 (by assumption) | exact ML_32 (by assumption) | exact ML_33 (by assumption) | exact ML_35 (by assumption) | exact ML_36 (by assumption) | exact ML_37 (by assumption) | exact ML_38 (by assumption) | exact ML_41 (by assumption) | exact ML_42 (by assumption) | exact ML_43 (by assumption) | exact ML_44 (by assumption) | exact ML_45 (by assumption) | rfl) ?_
      first | refine U_icmp_ge (tgt := 34) dX10_code_9 (by decide) (by with_reducible rfl) (by with_reducible rfl) (by omega) (by omega) (fun c9 => ?_) (fun c9 => ?_) | refine V_icmp_ge (tgt := 34) dX10_code_9 (by decide) (fun c9 => ?_) (fun c9 => ?_)
      · skip
        refine V_iloadn1 dX10_code_34 ?_
        refine V_iret dX10_code_35 rfl rfl ?_
        exact hQ
      · skip
        omega
    | succ f ih =>
      intro k hk
      have hw1 := hw k (by omega)
      have e : n * cdF n w k + w.getD k 0 - 1 = cdF n w (k + 1) := by rw [cdF, Nat.mul_comm]
      refine V_iloadn2 dX10_code_4 ?_
      refine V_aloadn0 dX10_code_5 ?_
      refine V_getI dX10_code_6 fX10_111 (Or.inl rfl) (by first | assumption | rfl) (by first | decide | omega) (by first | assumption | exact w1 _ (by omega) | exact ML_4 (by assumption) | exact ML_5 (by assumption) | exact ML_6 (by assumption) | exact ML_7 (by assumption) | exact ML_8 (by assumption) | exact ML_9 (by assumption) | exact ML_10 (by assumption) | exact ML_11 (by assumption) | exact ML_12 (by assumption) | exact ML_13 (by assumption) | exact ML_15 (by assumption) | exact ML_16 (by assumption) | exact ML_17 (by assumption) | exact ML_20 (by assumption) | exact ML_23 (by assumption) | exact ML_24 (by assumption) | exact ML_30 (by assumption) | exact ML_31 (by assumption) | exact ML_32 (by assumption) | exact ML_33 (by assumption) | exact ML_35 (by assumption) | exact ML_36 (by assumption) | exact ML_37 (by assumption) | exact ML_38 (by assumption) | exact ML_41 (by assumption) | exact ML_42 (by assumption) | exact ML_43 (by assumption) | exact ML_44 (by assumption) | exact ML_45 (by assumption) | rfl) ?_
      first | refine U_icmp_ge (tgt := 34) dX10_code_9 (by decide) (by with_reducible rfl) (by with_reducible rfl) (by omega) (by omega) (fun c9 => ?_) (fun c9 => ?_) | refine V_icmp_ge (tgt := 34) dX10_code_9 (by decide) (fun c9 => ?_) (fun c9 => ?_)
      · skip
        omega
      · skip
        refine V_aloadn0 dX10_code_12 ?_
        refine V_getI dX10_code_13 fX10_7 (Or.inl rfl) (by first | assumption | rfl) (by first | decide | omega) (by first | assumption | exact w1 _ (by omega) | exact ML_4 (by assumption) | exact ML_5 (by assumption) | exact ML_6 (by assumption) | exact ML_7 (by assumption) | exact ML_8 (by assumption) | exact ML_9 (by assumption) | exact ML_10 (by assumption) | exact ML_11 (by assumption) | exact ML_12 (by assumption) | exact ML_13 (by assumption) | exact ML_15 (by assumption) | exact ML_16 (by assumption) | exact ML_17 (by assumption) | exact ML_20 (by assumption) | exact ML_23 (by assumption) | exact ML_24 (by assumption) | exact ML_30 (by assumption) | exact ML_31 (by assumption) | exact ML_32 (by assumption) | exact ML_33 (by assumption) | exact ML_35 (by assumption) | exact ML_36 (by assumption) | exact ML_37 (by assumption) | exact ML_38 (by assumption) | exact ML_41 (by assumption) | exact ML_42 (by assumption) | exact ML_43 (by assumption) | exact ML_44 (by assumption) | exact ML_45 (by assumption) | rfl) ?_
        refine V_iloadn1 dX10_code_16 ?_
        first | refine U_imul dX10_code_17 (by with_reducible rfl) (by with_reducible rfl) ?_ | refine V_imul dX10_code_17 ?_
        refine V_aloadn0 dX10_code_18 ?_
        refine V_getR dX10_code_19 fX10_47 (by first | assumption | rfl) (by first | decide | omega) (by first | assumption | exact w1 _ (by omega) | exact ML_4 (by assumption) | exact ML_5 (by assumption) | exact ML_6 (by assumption) | exact ML_7 (by assumption) | exact ML_8 (by assumption) | exact ML_9 (by assumption) | exact ML_10 (by assumption) | exact ML_11 (by assumption) | exact ML_12 (by assumption) | exact ML_13 (by assumption) | exact ML_15 (by assumption) | exact ML_16 (by assumption) | exact ML_17 (by assumption) | exact ML_20 (by assumption) | exact ML_23 (by assumption) | exact ML_24 (by assumption) | exact ML_30 (by assumption) | exact ML_31 (by assumption) | exact ML_32 (by assumption) | exact ML_33 (by assumption) | exact ML_35 (by assumption) | exact ML_36 (by assumption) | exact ML_37 (by assumption) | exact ML_38 (by assumption) | exact ML_41 (by assumption) | exact ML_42 (by assumption) | exact ML_43 (by assumption) | exact ML_44 (by assumption) | exact ML_45 (by assumption) | rfl) ?_
        refine V_iloadn2 dX10_code_22 ?_
        refine U_iald dX10_code_23 (by with_reducible rfl) (by first | assumption | rfl) (by first | decide | omega) (by omega) (by first | assumption | exact w1 _ (by omega) | exact ML_4 (by assumption) | exact ML_5 (by assumption) | exact ML_6 (by assumption) | exact ML_7 (by assumption) | exact ML_8 (by assumption) | exact ML_9 (by assumption) | exact ML_10 (by assumption) | exact ML_11 (by assumption) | exact ML_12 (by assumption) | exact ML_13 (by assumption) | exact ML_15 (by assumption) | exact ML_16 (by assumption) | exact ML_17 (by assumption) | exact ML_20 (by assumption) | exact ML_23 (by assumption) | exact ML_24 (by assumption) | exact ML_30 (by assumption) | exact ML_31 (by assumption) | exact ML_32 (by assumption) | exact ML_33 (by assumption) | exact ML_35 (by assumption) | exact ML_36 (by assumption) | exact ML_37 (by assumption) | exact ML_38 (by assumption) | exact ML_41 (by assumption) | exact ML_42 (by assumption) | exact ML_43 (by assumption) | exact ML_44 (by assumption) | exact ML_45 (by assumption) | rfl) ?_
        first | refine U_iadd dX10_code_24 (by with_reducible rfl) (by with_reducible rfl) ?_ | refine V_iadd dX10_code_24 ?_
        refine V_iconst (v := nI 1) dX10_code_25 (by decide) ?_
        first | refine U_isub dX10_code_26 (by with_reducible rfl) (by with_reducible rfl) (by omega) ?_ | refine V_isub dX10_code_26 ?_
        refine V_istoren1 dX10_code_27 (by decide) rfl ?_
        refine V_iinc2 dX10_code_28 (by first | exact ginc1 _ | rfl) (by decide) rfl ?_
        refine V_goto (tgt := 4) dX10_code_31 (by decide) ?_
        rw [e]
        exact ih (k + 1) (by omega)
  refine V_iconst (v := nI 0) dX10_code_0 (by decide) ?_
  refine V_istoren1 dX10_code_1 (by decide) rfl ?_
  refine V_iconst (v := nI 0) dX10_code_2 (by decide) ?_
  refine V_istoren2 dX10_code_3 (by decide) rfl ?_
  exact loop _ 0 (Nat.zero_add _)
set_option maxRecDepth 100000 in
set_option maxHeartbeats 4000000 in
theorem m_decodes {n m c : Nat} (hc : c < 2 ^ 31) (hn : 2 ≤ n) (hn5 : n ≤ 5) (hm : m ≤ 6) (hM : MLay h) (i0 : gI h 94 0 = nI n) (i18 : gI h 94 18 = nI m) (hQ : ∀ h', WW h' (dcF n m c) → (∀ a, a ≠ 105 → gI h' a = gI h a) → gL h' = gL h → gR h' = gR h → Q none h') : V Γ mX10_decodes d 124 124 h 0 [some (.ref 94), some (.int (nI c)), none, none] [] Q := by
  have loop : ∀ q h1, q ≤ m → (∀ p, q ≤ p → p < m → gI h1 105 p = nI ((dcF n m c).getD p 0)) → (∀ a, a ≠ 105 → gI h1 a = gI h a) → gL h1 = gL h → gR h1 = gR h → V Γ mX10_decodes d 124 124 h1 9 [some (.ref 94), some (.int (nI c)), some (.int (nI (c / n ^ (m - q)))), some (.int (nI q - nI 1))] [] Q := by
    intro q
    induction q with
    | zero =>
      intro h1 hq hp e l r
      refine V_iloadn3 dX10_decodes_9 ?_
      refine V_if_lt (tgt := 40) dX10_decodes_10 (by decide) (fun c10 => ?_) (fun c10 => ?_)
      · skip
        refine V_ret dX10_decodes_40 rfl ?_
        refine hQ h1 ⟨?_, fun p hp2 => hp p (by omega) (by rw [dcF_len] at hp2; exact hp2), by rw [dcF_len]; omega, LtW9 (dcF_lt (by omega)) hn5⟩ e l r
        rw [dcF_len, e 94 (by omega)]; exact i18
      · skip
        exact absurd ((gdec_lt (by omega)).mpr rfl) c10
    | succ q ih =>
      intro h1 hq hp e l r
      have hM1 := MLay_eq hM r
      have a0 : gI h1 94 0 = nI n := by rw [e 94 (by omega)]; exact i0
      have hx : c / n ^ (m - (q + 1)) < 2 ^ 31 := Nat.lt_of_le_of_lt (Nat.div_le_self _ _) hc
      have hdg : c / n ^ (m - (q + 1)) % n + 1 = (dcF n m c).getD q 0 := by rw [dcF_get (by omega), show m - 1 - q = m - (q + 1) by omega, Nat.add_comm]
      have hnext : c / n ^ (m - (q + 1)) / n = c / n ^ (m - q) := by rw [Nat.div_div_eq_div_mul, ← Nat.pow_succ, show (m - (q + 1)).succ = m - q by omega]
      generalize hh2 : sI h1 105 q (nI ((dcF n m c).getD q 0)) = h2
      have e2 : ∀ a, a ≠ 105 → gI h2 a = gI h a := fun a ha => by rw [← hh2]; funext b; rw [gI_sI, if_neg (fun z => ha z.1)]; exact congrFun (e a ha) b
      have b0 : gI h2 94 0 = nI n := by rw [e2 94 (by omega)]; exact i0
      rw [gdecP]
      refine V_iloadn3 dX10_decodes_9 ?_
      refine V_if_lt (tgt := 40) dX10_decodes_10 (by decide) (fun c10 => ?_) (fun c10 => ?_)
      · skip
        exact absurd c10 (nI_pos (by omega))
      · skip
        refine V_aloadn0 dX10_decodes_13 ?_
        refine V_getR dX10_decodes_14 fX10_47 (by first | assumption | rfl) (by first | decide | omega) (by first | assumption | exact ML_4 (by assumption) | exact ML_5 (by assumption) | exact ML_6 (by assumption) | exact ML_7 (by assumption) | exact ML_8 (by assumption) | exact ML_9 (by assumption) | exact ML_10 (by assumption) | exact ML_11 (by assumption) | exact ML_12 (by assumption) | exact ML_13 (by assumption) | exact ML_15 (by assumption) | exact ML_16 (by assumption) | exact ML_17 (by assumption) | exact ML_20 (by assumption) | exact ML_23 (by assumption) | exact ML_24 (by assumption) | exact ML_30 (by assumption) | exact ML_31 (by assumption) | exact ML_32 (by assumption) | exact ML_33 (by assumption) | exact ML_35 (by assumption) | exact ML_36 (by assumption) | exact ML_37 (by assumption) | exact ML_38 (by assumption) | exact ML_41 (by assumption) | exact ML_42 (by assumption) | exact ML_43 (by assumption) | exact ML_44 (by assumption) | exact ML_45 (by assumption) | rfl) ?_
        refine V_iloadn3 dX10_decodes_17 ?_
        refine V_iloadn2 dX10_decodes_18 ?_
        refine V_aloadn0 dX10_decodes_19 ?_
        refine V_getI dX10_decodes_20 fX10_7 (Or.inl rfl) (by first | assumption | rfl) (by first | decide | omega) (by first | assumption | exact ML_4 (by assumption) | exact ML_5 (by assumption) | exact ML_6 (by assumption) | exact ML_7 (by assumption) | exact ML_8 (by assumption) | exact ML_9 (by assumption) | exact ML_10 (by assumption) | exact ML_11 (by assumption) | exact ML_12 (by assumption) | exact ML_13 (by assumption) | exact ML_15 (by assumption) | exact ML_16 (by assumption) | exact ML_17 (by assumption) | exact ML_20 (by assumption) | exact ML_23 (by assumption) | exact ML_24 (by assumption) | exact ML_30 (by assumption) | exact ML_31 (by assumption) | exact ML_32 (by assumption) | exact ML_33 (by assumption) | exact ML_35 (by assumption) | exact ML_36 (by assumption) | exact ML_37 (by assumption) | exact ML_38 (by assumption) | exact ML_41 (by assumption) | exact ML_42 (by assumption) | exact ML_43 (by assumption) | exact ML_44 (by assumption) | exact ML_45 (by assumption) | rfl) ?_
        first | refine U_irem dX10_decodes_23 (by with_reducible rfl) (by with_reducible rfl) (by omega) (by omega) (by omega) ?_ | refine V_irem dX10_decodes_23 (by decide) ?_
        refine V_iconst (v := nI 1) dX10_decodes_24 (by decide) ?_
        first | refine U_iadd dX10_decodes_25 (by with_reducible rfl) (by with_reducible rfl) ?_ | refine V_iadd dX10_decodes_25 ?_
        refine U_iast dX10_decodes_26 (by with_reducible rfl) (by first | assumption | rfl) (by first | decide | omega) (by omega) ?_
        rw [hdg, hh2]
        refine V_iloadn2 dX10_decodes_27 ?_
        refine V_aloadn0 dX10_decodes_28 ?_
        refine V_getI dX10_decodes_29 fX10_7 (Or.inl rfl) (by first | assumption | rfl) (by first | decide | omega) (by first | assumption | exact ML_4 (by assumption) | exact ML_5 (by assumption) | exact ML_6 (by assumption) | exact ML_7 (by assumption) | exact ML_8 (by assumption) | exact ML_9 (by assumption) | exact ML_10 (by assumption) | exact ML_11 (by assumption) | exact ML_12 (by assumption) | exact ML_13 (by assumption) | exact ML_15 (by assumption) | exact ML_16 (by assumption) | exact ML_17 (by assumption) | exact ML_20 (by assumption) | exact ML_23 (by assumption) | exact ML_24 (by assumption) | exact ML_30 (by assumption) | exact ML_31 (by assumption) | exact ML_32 (by assumption) | exact ML_33 (by assumption) | exact ML_35 (by assumption) | exact ML_36 (by assumption) | exact ML_37 (by assumption) | exact ML_38 (by assumption) | exact ML_41 (by assumption) | exact ML_42 (by assumption) | exact ML_43 (by assumption) | exact ML_44 (by assumption) | exact ML_45 (by assumption) | rfl) ?_
        first | refine U_idiv dX10_decodes_32 (by with_reducible rfl) (by with_reducible rfl) (by omega) (by omega) (by omega) ?_ | refine V_idiv dX10_decodes_32 (by decide) ?_
        refine V_istoren2 dX10_decodes_33 (by decide) rfl ?_
        refine V_iinc3 dX10_decodes_34 (by first | exact gdecS _ | rfl) (by decide) rfl ?_
        refine V_goto (tgt := 9) dX10_decodes_37 (by decide) ?_
        rw [hnext]
        refine ih h2 (by omega) (fun p a b => ?_) e2 (by rw [← hh2]; exact l) (by rw [← hh2]; exact r)
        rw [← hh2, gI_sI]
        by_cases hpq : p = q
        · rw [if_pos ⟨rfl, hpq⟩, hpq]
        · rw [if_neg (fun z => hpq z.2)]; exact hp p (by omega) b
  refine V_iloadn1 dX10_decodes_0 ?_
  refine V_istoren2 dX10_decodes_1 (by decide) rfl ?_
  refine V_aloadn0 dX10_decodes_2 ?_
  refine V_getI dX10_decodes_3 fX10_111 (Or.inl rfl) (by first | assumption | rfl) (by first | decide | omega) (by first | assumption | exact ML_4 (by assumption) | exact ML_5 (by assumption) | exact ML_6 (by assumption) | exact ML_7 (by assumption) | exact ML_8 (by assumption) | exact ML_9 (by assumption) | exact ML_10 (by assumption) | exact ML_11 (by assumption) | exact ML_12 (by assumption) | exact ML_13 (by assumption) | exact ML_15 (by assumption) | exact ML_16 (by assumption) | exact ML_17 (by assumption) | exact ML_20 (by assumption) | exact ML_23 (by assumption) | exact ML_24 (by assumption) | exact ML_30 (by assumption) | exact ML_31 (by assumption) | exact ML_32 (by assumption) | exact ML_33 (by assumption) | exact ML_35 (by assumption) | exact ML_36 (by assumption) | exact ML_37 (by assumption) | exact ML_38 (by assumption) | exact ML_41 (by assumption) | exact ML_42 (by assumption) | exact ML_43 (by assumption) | exact ML_44 (by assumption) | exact ML_45 (by assumption) | rfl) ?_
  refine V_iconst (v := nI 1) dX10_decodes_6 (by decide) ?_
  refine V_isub dX10_decodes_7 ?_
  refine V_istoren3 dX10_decodes_8 (by decide) rfl ?_
  have hs := loop m h (Nat.le_refl _) (fun p a b => absurd a (by omega)) (fun _ _ => rfl) rfl rfl
  rw [Nat.sub_self, Nat.pow_zero, Nat.div_one] at hs
  exact hs
set_option maxRecDepth 100000 in
set_option maxHeartbeats 4000000 in
theorem m_comesTo {n : Nat} {w u Cs : List Nat} (hd : 1 ≤ d) (hn : 2 ≤ n) (hn5 : n ≤ 5) (hw : w.length ≤ 6) (hM : MLay h) (r0 : gI h 94 0 = nI n) (hU : WW h u) (hul : u.length = w.length) (hu : LtW n u) (hcl : clW u = clW w) (hJ : FaK h n w Cs) (hQ : ∀ h' Cs', FaK h' n w Cs' → (∃ E, Cs' = Cs ++ E) → cdF n u w.length ∈ Cs' → FrCm h h' → Q none h') : V Γ mX10_comesTo d 124 124 h 0 [some (.ref 94), none] [] Q := by
  obtain ⟨⟨hS, hN, hC⟩, hnd, hf⟩ := id hJ
  have hlen : Cs.length ≤ 500 := fam_le hn hn5 hw hnd hf
  have hcf : famB n w (cdF n u w.length) = true := by rw [famB_cd (by omega) hu hul]; exact decide_eq_true hcl
  have hc5 := lt_code5 hn5 hw (famB_lt hcf)
  have hb := hS (cdF n u w.length / 32) (by omega) (cdF n u w.length % 32) (by omega)
  rw [show 32 * (cdF n u w.length / 32) + cdF n u w.length % 32 = cdF n u w.length by omega] at hb
  have hcode : cdF n u u.length = cdF n u w.length := by rw [hul]
  generalize hcc : cdF n u w.length = c at hcf hc5 hb hcode hQ
  have sb := sbit (gI h 113 (c / 32)) (b := c % 32) (by omega)
  have hb' : bt (gI h 113 (c / 32)) (c % 32) = decide (c ∈ Cs) := hb
  rw [hb'] at sb
  by_cases hin : c ∈ Cs
  · rw [decide_eq_true hin] at sb
    refine V_aloadn0 dX10_comesTo_0 ?_
    refine V_callV0 (μ' := mX10_code) dX10_comesTo_1 okX10_code lX10_227 rfl (by first | assumption | rfl) (by first | decide | omega) (Nat.le_of_ble_eq_true rfl) (Nat.le_of_ble_eq_true rfl) (by omega) ?_
    refine m_code hM r0 hU (fun p hp => (hu p hp).1) ?_
    rw [hcode]
    dsimp only [gPush]
    refine V_istoren1 dX10_comesTo_4 (by decide) rfl ?_
    refine V_aloadn0 dX10_comesTo_5 ?_
    refine V_getR dX10_comesTo_6 fX10_71 (by first | assumption | rfl) (by first | decide | omega) (by first | assumption | exact ML_4 (by assumption) | exact ML_5 (by assumption) | exact ML_6 (by assumption) | exact ML_7 (by assumption) | exact ML_8 (by assumption) | exact ML_9 (by assumption) | exact ML_10 (by assumption) | exact ML_11 (by assumption) | exact ML_12 (by assumption) | exact ML_13 (by assumption) | exact ML_15 (by assumption) | exact ML_16 (by assumption) | exact ML_17 (by assumption) | exact ML_20 (by assumption) | exact ML_23 (by assumption) | exact ML_24 (by assumption) | exact ML_30 (by assumption) | exact ML_31 (by assumption) | exact ML_32 (by assumption) | exact ML_33 (by assumption) | exact ML_35 (by assumption) | exact ML_36 (by assumption) | exact ML_37 (by assumption) | exact ML_38 (by assumption) | exact ML_41 (by assumption) | exact ML_42 (by assumption) | exact ML_43 (by assumption) | exact ML_44 (by assumption) | exact ML_45 (by assumption) | rfl) ?_
    refine V_iloadn1 dX10_comesTo_9 ?_
    refine V_bipush (v := nI 32) dX10_comesTo_10 (by decide) ?_
    first | refine U_idiv dX10_comesTo_12 (by with_reducible rfl) (by with_reducible rfl) (by omega) (by omega) (by omega) ?_ | refine V_idiv dX10_comesTo_12 (by decide) ?_
    refine U_iald dX10_comesTo_13 (by with_reducible rfl) (by first | assumption | rfl) (by first | decide | omega) (by omega) (by first | assumption | exact ML_4 (by assumption) | exact ML_5 (by assumption) | exact ML_6 (by assumption) | exact ML_7 (by assumption) | exact ML_8 (by assumption) | exact ML_9 (by assumption) | exact ML_10 (by assumption) | exact ML_11 (by assumption) | exact ML_12 (by assumption) | exact ML_13 (by assumption) | exact ML_15 (by assumption) | exact ML_16 (by assumption) | exact ML_17 (by assumption) | exact ML_20 (by assumption) | exact ML_23 (by assumption) | exact ML_24 (by assumption) | exact ML_30 (by assumption) | exact ML_31 (by assumption) | exact ML_32 (by assumption) | exact ML_33 (by assumption) | exact ML_35 (by assumption) | exact ML_36 (by assumption) | exact ML_37 (by assumption) | exact ML_38 (by assumption) | exact ML_41 (by assumption) | exact ML_42 (by assumption) | exact ML_43 (by assumption) | exact ML_44 (by assumption) | exact ML_45 (by assumption) | rfl) ?_
    refine V_iloadn1 dX10_comesTo_14 ?_
    refine V_bipush (v := nI 32) dX10_comesTo_15 (by decide) ?_
    first | refine U_irem dX10_comesTo_17 (by with_reducible rfl) (by with_reducible rfl) (by omega) (by omega) (by omega) ?_ | refine V_irem dX10_comesTo_17 (by decide) ?_
    refine V_ishr dX10_comesTo_18 ?_
    refine V_iconst (v := nI 1) dX10_comesTo_19 (by decide) ?_
    refine V_iand dX10_comesTo_20 ?_
    refine V_topI sb ?_
    first | refine U_ifB_ne (tgt := 62) dX10_comesTo_21 (by decide) (by with_reducible rfl) (fun c21 => ?_) (fun c21 => ?_) | refine U_if_ne (tgt := 62) dX10_comesTo_21 (by decide) (by with_reducible rfl) (by omega) (fun c21 => ?_) (fun c21 => ?_) | refine V_if_ne (tgt := 62) dX10_comesTo_21 (by decide) (fun c21 => ?_) (fun c21 => ?_)
    · skip
      refine V_ret dX10_comesTo_62 rfl ?_
      exact hQ h Cs hJ ⟨[], by simp⟩ hin FrCm.rf
    · skip
      cases c21
  · rw [decide_eq_false hin] at sb
    have h500 : Cs.length < 500 := by
      have h1 := fam_le (l := Cs ++ [c]) hn hn5 hw (by rw [List.nodup_append]; exact ⟨hnd, by simp, fun a ha b hb e => hin (by simp at hb; rw [← hb, ← e]; exact ha)⟩) (fun x hx => by
        rcases List.mem_append.mp hx with hx | hx
        · exact hf x hx
        · simp at hx; rw [hx]; exact hcf)
      rw [List.length_append] at h1
      simp at h1
      omega
    generalize hx0 : gI h 113 (c / 32) = x0 at sb
    generalize hh2 : sI h 113 (c / 32) (x0 ||| (nI 1 <<< (nI (c % 32) &&& 31))) = h2
    have hM2 : MLay h2 := by rw [← hh2]; exact MLay_eq hM rfl
    have f34 : gI h2 94 34 = nI Cs.length := by rw [← hh2, gI_sI, if_neg (by omega)]; exact hN
    have f34' : gI (sI h2 114 Cs.length (nI c)) 94 34 = nI Cs.length := by rw [gI_sI, if_neg (by omega)]; exact f34
    have fin : Q none (sI (sI h2 114 Cs.length (nI c)) 94 34 (nI (Cs.length + 1))) := by
      refine hQ _ (Cs ++ [c]) ⟨⟨fun k hk b hb2 => ?_, ?_, fun j hj => ?_⟩, ?_, ?_⟩ ⟨[c], rfl⟩ (by simp) ⟨fun a h1 h2' h3 => ?_, fun k hk => ?_, ?_, ?_⟩
      · rw [gI_sI, if_neg (by omega), gI_sI, if_neg (by omega), ← hh2, gI_sI]
        by_cases ek : k = c / 32
        · rw [if_pos ⟨rfl, ek⟩, b_or, b_shl _ (by omega) _ hb2, ← hx0, ← ek]
          have h0 := hS k hk b hb2
          rw [h0]
          by_cases eb : b = c % 32
          · have e1 : decide (c % 32 ≤ b) = true := decide_eq_true (by omega)
            have e2 : bt (nI 1) (b - c % 32) = true := by rw [show b - c % 32 = 0 by omega]; exact bt_1 0 (by decide)
            rw [e1, e2, Bool.and_self, Bool.or_true]
            symm
            apply decide_eq_true
            rw [show 32 * k + b = c by omega]
            simp
          · have e1 : (decide (c % 32 ≤ b) && bt (nI 1) (b - c % 32)) = false := by
              by_cases q : c % 32 ≤ b
              · rw [bt_1 _ (by omega), decide_eq_false (by omega : ¬ b - c % 32 = 0), Bool.and_false]
              · rw [decide_eq_false q, Bool.false_and]
            rw [e1, Bool.or_false]
            have ne : 32 * k + b ≠ c := by omega
            simp [ne]
        · rw [if_neg (fun z => ek z.2), hS k hk b hb2]
          have ne : 32 * k + b ≠ c := by omega
          simp [ne]
      · rw [gI_sI, if_pos ⟨rfl, rfl⟩, List.length_append]; rfl
      · rw [gI_sI, if_neg (by omega), gI_sI]
        rw [List.length_append] at hj
        by_cases ej : j = Cs.length
        · rw [if_pos ⟨rfl, ej⟩, ej, List.getD_eq_getElem?_getD]; simp
        · have hj2 : j < Cs.length := by simp at hj; omega
          rw [if_neg (fun q => ej q.2), ← hh2, gI_sI, if_neg (by omega), hC j hj2, List.getD_eq_getElem?_getD, List.getD_eq_getElem?_getD, List.getElem?_append_left hj2]
      · rw [List.nodup_append]
        exact ⟨hnd, by simp, fun a ha b hb e => hin (by simp at hb; rw [← hb, ← e]; exact ha)⟩
      · intro x hx
        rcases List.mem_append.mp hx with hx | hx
        · exact hf x hx
        · simp at hx; rw [hx]; exact hcf
      · funext b
        rw [gI_sI, if_neg (fun q => h1 q.1), gI_sI, if_neg (fun q => h3 q.1), ← hh2, gI_sI, if_neg (fun q => h2' q.1)]
      · rw [gI_sI, if_neg (fun q => hk q.2), gI_sI, if_neg (by omega), ← hh2, gI_sI, if_neg (by omega)]
      · rw [gL_sI, gL_sI, ← hh2, gL_sI]
      · rw [gR_sI, gR_sI, ← hh2, gR_sI]
    refine V_aloadn0 dX10_comesTo_0 ?_
    refine V_callV0 (μ' := mX10_code) dX10_comesTo_1 okX10_code lX10_227 rfl (by first | assumption | rfl) (by first | decide | omega) (Nat.le_of_ble_eq_true rfl) (Nat.le_of_ble_eq_true rfl) (by omega) ?_
    refine m_code hM r0 hU (fun p hp => (hu p hp).1) ?_
    rw [hcode]
    dsimp only [gPush]
    refine V_istoren1 dX10_comesTo_4 (by decide) rfl ?_
    refine V_aloadn0 dX10_comesTo_5 ?_
    refine V_getR dX10_comesTo_6 fX10_71 (by first | assumption | rfl) (by first | decide | omega) (by first | assumption | exact ML_4 (by assumption) | exact ML_5 (by assumption) | exact ML_6 (by assumption) | exact ML_7 (by assumption) | exact ML_8 (by assumption) | exact ML_9 (by assumption) | exact ML_10 (by assumption) | exact ML_11 (by assumption) | exact ML_12 (by assumption) | exact ML_13 (by assumption) | exact ML_15 (by assumption) | exact ML_16 (by assumption) | exact ML_17 (by assumption) | exact ML_20 (by assumption) | exact ML_23 (by assumption) | exact ML_24 (by assumption) | exact ML_30 (by assumption) | exact ML_31 (by assumption) | exact ML_32 (by assumption) | exact ML_33 (by assumption) | exact ML_35 (by assumption) | exact ML_36 (by assumption) | exact ML_37 (by assumption) | exact ML_38 (by assumption) | exact ML_41 (by assumption) | exact ML_42 (by assumption) | exact ML_43 (by assumption) | exact ML_44 (by assumption) | exact ML_45 (by assumption) | rfl) ?_
    refine V_iloadn1 dX10_comesTo_9 ?_
    refine V_bipush (v := nI 32) dX10_comesTo_10 (by decide) ?_
    first | refine U_idiv dX10_comesTo_12 (by with_reducible rfl) (by with_reducible rfl) (by omega) (by omega) (by omega) ?_ | refine V_idiv dX10_comesTo_12 (by decide) ?_
    refine U_iald dX10_comesTo_13 (by with_reducible rfl) (by first | assumption | rfl) (by first | decide | omega) (by omega) (by first | assumption | exact ML_4 (by assumption) | exact ML_5 (by assumption) | exact ML_6 (by assumption) | exact ML_7 (by assumption) | exact ML_8 (by assumption) | exact ML_9 (by assumption) | exact ML_10 (by assumption) | exact ML_11 (by assumption) | exact ML_12 (by assumption) | exact ML_13 (by assumption) | exact ML_15 (by assumption) | exact ML_16 (by assumption) | exact ML_17 (by assumption) | exact ML_20 (by assumption) | exact ML_23 (by assumption) | exact ML_24 (by assumption) | exact ML_30 (by assumption) | exact ML_31 (by assumption) | exact ML_32 (by assumption) | exact ML_33 (by assumption) | exact ML_35 (by assumption) | exact ML_36 (by assumption) | exact ML_37 (by assumption) | exact ML_38 (by assumption) | exact ML_41 (by assumption) | exact ML_42 (by assumption) | exact ML_43 (by assumption) | exact ML_44 (by assumption) | exact ML_45 (by assumption) | rfl) ?_
    refine V_iloadn1 dX10_comesTo_14 ?_
    refine V_bipush (v := nI 32) dX10_comesTo_15 (by decide) ?_
    first | refine U_irem dX10_comesTo_17 (by with_reducible rfl) (by with_reducible rfl) (by omega) (by omega) (by omega) ?_ | refine V_irem dX10_comesTo_17 (by decide) ?_
    refine V_ishr dX10_comesTo_18 ?_
    refine V_iconst (v := nI 1) dX10_comesTo_19 (by decide) ?_
    refine V_iand dX10_comesTo_20 ?_
    refine V_topI sb ?_
    first | refine U_ifB_ne (tgt := 62) dX10_comesTo_21 (by decide) (by with_reducible rfl) (fun c21 => ?_) (fun c21 => ?_) | refine U_if_ne (tgt := 62) dX10_comesTo_21 (by decide) (by with_reducible rfl) (by omega) (fun c21 => ?_) (fun c21 => ?_) | refine V_if_ne (tgt := 62) dX10_comesTo_21 (by decide) (fun c21 => ?_) (fun c21 => ?_)
    · skip
      cases c21
    · skip
      refine V_aloadn0 dX10_comesTo_24 ?_
      refine V_getR dX10_comesTo_25 fX10_71 (by first | assumption | rfl) (by first | decide | omega) (by first | assumption | exact ML_4 (by assumption) | exact ML_5 (by assumption) | exact ML_6 (by assumption) | exact ML_7 (by assumption) | exact ML_8 (by assumption) | exact ML_9 (by assumption) | exact ML_10 (by assumption) | exact ML_11 (by assumption) | exact ML_12 (by assumption) | exact ML_13 (by assumption) | exact ML_15 (by assumption) | exact ML_16 (by assumption) | exact ML_17 (by assumption) | exact ML_20 (by assumption) | exact ML_23 (by assumption) | exact ML_24 (by assumption) | exact ML_30 (by assumption) | exact ML_31 (by assumption) | exact ML_32 (by assumption) | exact ML_33 (by assumption) | exact ML_35 (by assumption) | exact ML_36 (by assumption) | exact ML_37 (by assumption) | exact ML_38 (by assumption) | exact ML_41 (by assumption) | exact ML_42 (by assumption) | exact ML_43 (by assumption) | exact ML_44 (by assumption) | exact ML_45 (by assumption) | rfl) ?_
      refine V_iloadn1 dX10_comesTo_28 ?_
      refine V_bipush (v := nI 32) dX10_comesTo_29 (by decide) ?_
      first | refine U_idiv dX10_comesTo_31 (by with_reducible rfl) (by with_reducible rfl) (by omega) (by omega) (by omega) ?_ | refine V_idiv dX10_comesTo_31 (by decide) ?_
      refine V_dup2 dX10_comesTo_32 ?_
      refine U_iald dX10_comesTo_33 (by with_reducible rfl) (by first | assumption | rfl) (by first | decide | omega) (by omega) (by first | assumption | exact ML_4 (by assumption) | exact ML_5 (by assumption) | exact ML_6 (by assumption) | exact ML_7 (by assumption) | exact ML_8 (by assumption) | exact ML_9 (by assumption) | exact ML_10 (by assumption) | exact ML_11 (by assumption) | exact ML_12 (by assumption) | exact ML_13 (by assumption) | exact ML_15 (by assumption) | exact ML_16 (by assumption) | exact ML_17 (by assumption) | exact ML_20 (by assumption) | exact ML_23 (by assumption) | exact ML_24 (by assumption) | exact ML_30 (by assumption) | exact ML_31 (by assumption) | exact ML_32 (by assumption) | exact ML_33 (by assumption) | exact ML_35 (by assumption) | exact ML_36 (by assumption) | exact ML_37 (by assumption) | exact ML_38 (by assumption) | exact ML_41 (by assumption) | exact ML_42 (by assumption) | exact ML_43 (by assumption) | exact ML_44 (by assumption) | exact ML_45 (by assumption) | rfl) ?_
      refine V_iconst (v := nI 1) dX10_comesTo_34 (by decide) ?_
      refine V_iloadn1 dX10_comesTo_35 ?_
      refine V_bipush (v := nI 32) dX10_comesTo_36 (by decide) ?_
      first | refine U_irem dX10_comesTo_38 (by with_reducible rfl) (by with_reducible rfl) (by omega) (by omega) (by omega) ?_ | refine V_irem dX10_comesTo_38 (by decide) ?_
      refine V_ishl dX10_comesTo_39 ?_
      refine V_ior dX10_comesTo_40 ?_
      refine U_iast dX10_comesTo_41 (by with_reducible rfl) (by first | assumption | rfl) (by first | decide | omega) (by omega) ?_
      rw [hh2]
      refine V_aloadn0 dX10_comesTo_42 ?_
      refine V_getR dX10_comesTo_43 fX10_74 (by first | assumption | rfl) (by first | decide | omega) (by first | assumption | exact ML_4 (by assumption) | exact ML_5 (by assumption) | exact ML_6 (by assumption) | exact ML_7 (by assumption) | exact ML_8 (by assumption) | exact ML_9 (by assumption) | exact ML_10 (by assumption) | exact ML_11 (by assumption) | exact ML_12 (by assumption) | exact ML_13 (by assumption) | exact ML_15 (by assumption) | exact ML_16 (by assumption) | exact ML_17 (by assumption) | exact ML_20 (by assumption) | exact ML_23 (by assumption) | exact ML_24 (by assumption) | exact ML_30 (by assumption) | exact ML_31 (by assumption) | exact ML_32 (by assumption) | exact ML_33 (by assumption) | exact ML_35 (by assumption) | exact ML_36 (by assumption) | exact ML_37 (by assumption) | exact ML_38 (by assumption) | exact ML_41 (by assumption) | exact ML_42 (by assumption) | exact ML_43 (by assumption) | exact ML_44 (by assumption) | exact ML_45 (by assumption) | rfl) ?_
      refine V_aloadn0 dX10_comesTo_46 ?_
      refine V_getI dX10_comesTo_47 fX10_230 (Or.inl rfl) (by first | assumption | rfl) (by first | decide | omega) (by first | assumption | exact ML_4 (by assumption) | exact ML_5 (by assumption) | exact ML_6 (by assumption) | exact ML_7 (by assumption) | exact ML_8 (by assumption) | exact ML_9 (by assumption) | exact ML_10 (by assumption) | exact ML_11 (by assumption) | exact ML_12 (by assumption) | exact ML_13 (by assumption) | exact ML_15 (by assumption) | exact ML_16 (by assumption) | exact ML_17 (by assumption) | exact ML_20 (by assumption) | exact ML_23 (by assumption) | exact ML_24 (by assumption) | exact ML_30 (by assumption) | exact ML_31 (by assumption) | exact ML_32 (by assumption) | exact ML_33 (by assumption) | exact ML_35 (by assumption) | exact ML_36 (by assumption) | exact ML_37 (by assumption) | exact ML_38 (by assumption) | exact ML_41 (by assumption) | exact ML_42 (by assumption) | exact ML_43 (by assumption) | exact ML_44 (by assumption) | exact ML_45 (by assumption) | rfl) ?_
      refine V_iloadn1 dX10_comesTo_50 ?_
      refine U_iast dX10_comesTo_51 (by with_reducible rfl) (by first | assumption | rfl) (by first | decide | omega) (by omega) ?_
      refine V_aloadn0 dX10_comesTo_52 ?_
      first | refine V_dupa dX10_comesTo_53 ?_ | refine V_dupi dX10_comesTo_53 ?_
      refine V_getI dX10_comesTo_54 fX10_230 (Or.inl rfl) (by first | assumption | rfl) (by first | decide | omega) (by first | assumption | exact ML_4 (by assumption) | exact ML_5 (by assumption) | exact ML_6 (by assumption) | exact ML_7 (by assumption) | exact ML_8 (by assumption) | exact ML_9 (by assumption) | exact ML_10 (by assumption) | exact ML_11 (by assumption) | exact ML_12 (by assumption) | exact ML_13 (by assumption) | exact ML_15 (by assumption) | exact ML_16 (by assumption) | exact ML_17 (by assumption) | exact ML_20 (by assumption) | exact ML_23 (by assumption) | exact ML_24 (by assumption) | exact ML_30 (by assumption) | exact ML_31 (by assumption) | exact ML_32 (by assumption) | exact ML_33 (by assumption) | exact ML_35 (by assumption) | exact ML_36 (by assumption) | exact ML_37 (by assumption) | exact ML_38 (by assumption) | exact ML_41 (by assumption) | exact ML_42 (by assumption) | exact ML_43 (by assumption) | exact ML_44 (by assumption) | exact ML_45 (by assumption) | rfl) ?_
      refine V_iconst (v := nI 1) dX10_comesTo_57 (by decide) ?_
      first | refine U_iadd dX10_comesTo_58 (by with_reducible rfl) (by with_reducible rfl) ?_ | refine V_iadd dX10_comesTo_58 ?_
      refine V_putI dX10_comesTo_59 fX10_230 (by first | assumption | rfl) (by first | decide | omega) ?_
      refine V_ret dX10_comesTo_62 rfl ?_
      exact fin

set_option maxRecDepth 100000 in
set_option maxHeartbeats 4000000 in
theorem m_findAll {n : Nat} {w : List Nat} (hd : 2 ≤ d) (hn : 2 ≤ n) (hn5 : n ≤ 5) (hM : MLay h) (r0 : gI h 94 0 = nI n) (hW : WW h w) (hlw : LtW n w) (hQ : ∀ h' Cs, FaK h' n w Cs → (∀ x, x ∈ Cs ↔ famB n w x = true) → gI h' 94 18 = nI w.length → FrX h h' → Q none h') : V Γ mX10_findAll d 124 124 h 0 [some (.ref 94), none, none] [] Q := by
  have w6 := hW.2.2.1
  have w18 := hW.1
  have kloop : ∀ m k h1 Cs x2, 501 - k = m → k ≤ Cs.length → FaK h1 n w Cs → cdF n w w.length ∈ Cs → (∀ j, j < k → ∀ i, 1 ≤ i → i < n → (fhC (dcF n w.length (Cs.getD j 0)) i ≠ 0 → cdF n (raiseW (dcF n w.length (Cs.getD j 0)) i) w.length ∈ Cs) ∧ (llC (dcF n w.length (Cs.getD j 0)) i ≠ 0 → cdF n (lowerW (dcF n w.length (Cs.getD j 0)) i) w.length ∈ Cs)) → gI h1 94 18 = nI w.length → FrX h h1 → V Γ mX10_findAll d 124 124 h1 33 [some (.ref 94), some (.int (nI k)), x2] [] Q := by
    intro m
    induction m using Nat.strongRecOn with
    | _ m ih =>
      intro k h1 Cs x2 hm hk hJ hin hS g18 hF
      obtain ⟨⟨hSe, hN, hC⟩, hnd, hf⟩ := id hJ
      have hlen : Cs.length ≤ 500 := fam_le hn hn5 w6 hnd hf
      have hM1 := MLay_eq hM hF.2.2.2
      by_cases hke : k = Cs.length
      · have hset : ∀ x, x ∈ Cs ↔ famB n w x = true := by
          intro x
          refine ⟨fun hx => hf x hx, fun hfx => ?_⟩
          have hlt := famB_lt hfx
          have hcx : clW (dcF n w.length x) = clW w := by
            unfold famB at hfx
            simp only [Bool.and_eq_true, decide_eq_true_eq] at hfx
            exact hfx.2
          have cl : ∀ u, u.length = w.length → LtW n u → cdF n u w.length ∈ Cs → ∀ i, 1 ≤ i → i < n → (fhC u i ≠ 0 → cdF n (raiseW u i) w.length ∈ Cs) ∧ (llC u i ≠ 0 → cdF n (lowerW u i) w.length ∈ Cs) := by
            intro u hul hu hMu i h1 h2
            obtain ⟨j, hj, ej⟩ := List.getElem_of_mem hMu
            have eg : Cs.getD j 0 = cdF n u w.length := by rw [List.getD_eq_getElem?_getD, List.getElem?_eq_getElem hj]; exact ej
            have ed : dcF n w.length (Cs.getD j 0) = u := by rw [eg, ← hul]; exact dcF_cdF (by omega) hu
            have := hS j (by omega) i h1 h2
            rw [ed] at this
            exact this
          have hsum : w.sum ≤ 30 := Nat.le_trans (sum_le w hlw) (by have := Nat.mul_le_mul hn5 w6; omega)
          obtain ⟨tl, tw, tc, th, -, -⟩ := top_ok hn hn5 30 w w6 hlw hsum
          have ht : cdF n (toTop n 30 w).2 w.length ∈ Cs := top_in (M := fun u => cdF n u w.length ∈ Cs) hn5 30 w w6 hlw hin (fun v hv hlv hMv i i1 i2 i3 => (cl v hv hlv hMv i i1 i2).1 i3)
          have key := fam_in (n := n) (m := w.length) (top := (toTop n 30 w).2) (M := fun u => cdF n u w.length ∈ Cs) hn5 w6 tl tw th ht (fun u hul hu hMu i i1 i2 i3 => (cl u hul hu hMu i i1 i2).2 i3) _ (dcF n w.length x) rfl (dcF_len _ _ _) (dcF_lt (by omega)) (by rw [hcx, tc])
          have key2 : cdF n (dcF n w.length x) w.length ∈ Cs := key
          rw [cdF_dcF (by omega) hlt] at key2
          exact key2
        have hQ9 := hQ h1 Cs hJ hset g18 hF
        refine V_iloadn1 dX10_findAll_33 ?_
        refine V_aloadn0 dX10_findAll_34 ?_
        refine V_getI dX10_findAll_35 fX10_230 (Or.inl rfl) (by first | assumption | rfl) (by first | decide | omega) (by first | assumption | exact ML_4 (by assumption) | exact ML_5 (by assumption) | exact ML_6 (by assumption) | exact ML_7 (by assumption) | exact ML_8 (by assumption) | exact ML_9 (by assumption) | exact ML_10 (by assumption) | exact ML_11 (by assumption) | exact ML_12 (by assumption) | exact ML_13 (by assumption) | exact ML_15 (by assumption) | exact ML_16 (by assumption) | exact ML_17 (by assumption) | exact ML_20 (by assumption) | exact ML_23 (by assumption) | exact ML_24 (by assumption) | exact ML_30 (by assumption) | exact ML_31 (by assumption) | exact ML_32 (by assumption) | exact ML_33 (by assumption) | exact ML_35 (by assumption) | exact ML_36 (by assumption) | exact ML_37 (by assumption) | exact ML_38 (by assumption) | exact ML_41 (by assumption) | exact ML_42 (by assumption) | exact ML_43 (by assumption) | exact ML_44 (by assumption) | exact ML_45 (by assumption) | rfl) ?_
        first | refine U_icmp_ge (tgt := 107) dX10_findAll_38 (by decide) (by with_reducible rfl) (by with_reducible rfl) (by omega) (by omega) (fun c38 => ?_) (fun c38 => ?_) | refine V_icmp_ge (tgt := 107) dX10_findAll_38 (by decide) (fun c38 => ?_) (fun c38 => ?_)
        · skip
          refine V_ret dX10_findAll_107 rfl ?_
          exact hQ9
        · skip
          omega
      · have hmem : Cs.getD k 0 ∈ Cs := by
          rw [List.getD_eq_getElem?_getD, List.getElem?_eq_getElem (by omega : k < Cs.length)]
          exact List.getElem_mem _
        have hfm := hf _ hmem
        have hlt := famB_lt hfm
        have hlt2 := lt_code5 hn5 w6 hlt
        have hclc : clW (dcF n w.length (Cs.getD k 0)) = clW w := by
          unfold famB at hfm
          simp only [Bool.and_eq_true, decide_eq_true_eq] at hfm
          exact hfm.2
        generalize hcc : Cs.getD k 0 = c at hmem hfm hlt hlt2 hclc
        have hdl := dcF_len n w.length c
        have hdt : LtW n (dcF n w.length c) := dcF_lt (by omega)
        have iloop : ∀ q i h2 Cs2, n - i = q → 1 ≤ i → i ≤ n → FaK h2 n w Cs2 → (∃ E, Cs2 = Cs ++ E) → (∀ j, 1 ≤ j → j < i → (fhC (dcF n w.length c) j ≠ 0 → cdF n (raiseW (dcF n w.length c) j) w.length ∈ Cs2) ∧ (llC (dcF n w.length c) j ≠ 0 → cdF n (lowerW (dcF n w.length c) j) w.length ∈ Cs2)) → gI h2 94 18 = nI w.length → FrX h h2 → V Γ mX10_findAll d 124 124 h2 43 [some (.ref 94), some (.int (nI k)), some (.int (nI i))] [] Q := by
          intro q
          induction q using Nat.strongRecOn with
          | _ q ihq =>
            intro i h2 Cs2 hq hi1 hin2 hJ2 hE2 hS2 g18' hF2
            have hM2 := MLay_eq hM hF2.2.2.2
            have n2 : gI h2 94 0 = nI n := by rw [hF2.2.1 0 (by omega)]; exact r0
            obtain ⟨E2, e2⟩ := hE2
            have hk2 : k < Cs2.length := by rw [e2, List.length_append]; omega
            have hlen2 : Cs2.length ≤ 500 := fam_le hn hn5 w6 hJ2.2.1 hJ2.2.2
            have gk : ∀ h' Cs', FaK h' n w Cs' → (∃ E, Cs' = Cs ++ E) → gI h' 114 k = nI c := fun h' Cs' hJ' hE' => by
              obtain ⟨E', e'⟩ := hE'
              rw [hJ'.1.2.2 k (by rw [e', List.length_append]; omega), ← hcc, e', List.getD_eq_getElem?_getD, List.getD_eq_getElem?_getD, List.getElem?_append_left (by omega)]
            have g114 := gk h2 Cs2 hJ2 ⟨E2, e2⟩
            by_cases hi : i < n
            · have low : ∀ h3 Cs3, FaK h3 n w Cs3 → (∃ E, Cs3 = Cs2 ++ E) → (fhC (dcF n w.length c) i ≠ 0 → cdF n (raiseW (dcF n w.length c) i) w.length ∈ Cs3) → gI h3 94 18 = nI w.length → FrX h h3 → V Γ mX10_findAll d 124 124 h3 73 [some (.ref 94), some (.int (nI k)), some (.int (nI i))] [] Q := by
                intro h3 Cs3 hJ3 hE3 hr3 g183 hF3
                have hM3 := MLay_eq hM hF3.2.2.2
                have n3 : gI h3 94 0 = nI n := by rw [hF3.2.1 0 (by omega)]; exact r0
                obtain ⟨E3, e3⟩ := hE3
                have hlen3 : Cs3.length ≤ 500 := fam_le hn hn5 w6 hJ3.2.1 hJ3.2.2
                have g114' := gk h3 Cs3 hJ3 ⟨E2 ++ E3, by rw [e3, e2, List.append_assoc]⟩
                have nxt : ∀ h4 Cs4, FaK h4 n w Cs4 → (∃ E, Cs4 = Cs3 ++ E) → (llC (dcF n w.length c) i ≠ 0 → cdF n (lowerW (dcF n w.length c) i) w.length ∈ Cs4) → gI h4 94 18 = nI w.length → FrX h h4 → V Γ mX10_findAll d 124 124 h4 95 [some (.ref 94), some (.int (nI k)), some (.int (nI i))] [] Q := by
                  intro h4 Cs4 hJ4 hE4 hl4 g184 hF4
                  obtain ⟨E4, e4⟩ := hE4
                  refine V_iinc2 dX10_findAll_95 (by first | exact ginc1 _ | rfl) (by decide) rfl ?_
                  refine V_goto (tgt := 43) dX10_findAll_98 (by decide) ?_
                  refine ihq (n - (i + 1)) (by omega) (i + 1) h4 Cs4 rfl (by omega) (by omega) hJ4 ⟨E2 ++ (E3 ++ E4), by rw [e4, e3, e2, List.append_assoc, List.append_assoc]⟩ (fun j j1 j2 => ?_) g184 hF4
                  by_cases ej : j = i
                  · rw [ej]; exact ⟨fun z => by rw [e4]; exact List.mem_append_left _ (hr3 z), hl4⟩
                  · obtain ⟨s1, s2⟩ := hS2 j j1 (by omega)
                    exact ⟨fun z => by rw [e4, e3]; exact List.mem_append_left _ (List.mem_append_left _ (s1 z)), fun z => by rw [e4, e3]; exact List.mem_append_left _ (List.mem_append_left _ (s2 z))⟩
                refine V_aloadn0 dX10_findAll_73 ?_
                refine V_aloadn0 dX10_findAll_74 ?_
                refine V_getR dX10_findAll_75 fX10_74 (by first | assumption | rfl) (by first | decide | omega) (by first | assumption | exact ML_4 (by assumption) | exact ML_5 (by assumption) | exact ML_6 (by assumption) | exact ML_7 (by assumption) | exact ML_8 (by assumption) | exact ML_9 (by assumption) | exact ML_10 (by assumption) | exact ML_11 (by assumption) | exact ML_12 (by assumption) | exact ML_13 (by assumption) | exact ML_15 (by assumption) | exact ML_16 (by assumption) | exact ML_17 (by assumption) | exact ML_20 (by assumption) | exact ML_23 (by assumption) | exact ML_24 (by assumption) | exact ML_30 (by assumption) | exact ML_31 (by assumption) | exact ML_32 (by assumption) | exact ML_33 (by assumption) | exact ML_35 (by assumption) | exact ML_36 (by assumption) | exact ML_37 (by assumption) | exact ML_38 (by assumption) | exact ML_41 (by assumption) | exact ML_42 (by assumption) | exact ML_43 (by assumption) | exact ML_44 (by assumption) | exact ML_45 (by assumption) | rfl) ?_
                refine V_iloadn1 dX10_findAll_78 ?_
                refine U_iald dX10_findAll_79 (by with_reducible rfl) (by first | assumption | rfl) (by first | decide | omega) (by omega) (by first | assumption | exact ML_4 (by assumption) | exact ML_5 (by assumption) | exact ML_6 (by assumption) | exact ML_7 (by assumption) | exact ML_8 (by assumption) | exact ML_9 (by assumption) | exact ML_10 (by assumption) | exact ML_11 (by assumption) | exact ML_12 (by assumption) | exact ML_13 (by assumption) | exact ML_15 (by assumption) | exact ML_16 (by assumption) | exact ML_17 (by assumption) | exact ML_20 (by assumption) | exact ML_23 (by assumption) | exact ML_24 (by assumption) | exact ML_30 (by assumption) | exact ML_31 (by assumption) | exact ML_32 (by assumption) | exact ML_33 (by assumption) | exact ML_35 (by assumption) | exact ML_36 (by assumption) | exact ML_37 (by assumption) | exact ML_38 (by assumption) | exact ML_41 (by assumption) | exact ML_42 (by assumption) | exact ML_43 (by assumption) | exact ML_44 (by assumption) | exact ML_45 (by assumption) | rfl) ?_
                refine V_callV1 (μ' := mX10_decodes) dX10_findAll_80 okX10_decodes lX10_236 rfl (by first | assumption | rfl) (by first | decide | omega) (Nat.le_of_ble_eq_true rfl) (Nat.le_of_ble_eq_true rfl) (by omega) ?_
                refine m_decodes (by omega) hn hn5 w6 hM3 n3 g183 (fun h4 hU4 e4 l4 r4 => ?_)
                have hM4 := MLay_eq hM3 r4
                have hF4 : FrX h h4 := hF3.tr ⟨fun a ha => e4 a (by omega), fun k hk => by rw [e4 94 (by omega)], fun a _ => by rw [l4], r4⟩
                have hJ4 := FaK_cg hJ3 (e4 113 (by omega)) (by rw [e4 94 (by omega)]) (e4 114 (by omega))
                dsimp only [gPush]
                refine V_aloadn0 dX10_findAll_83 ?_
                refine V_iloadn2 dX10_findAll_84 ?_
                refine V_callV1 (μ' := mX10_lowers) dX10_findAll_85 okX10_lowers lX10_182 rfl (by first | assumption | rfl) (by first | decide | omega) (Nat.le_of_ble_eq_true rfl) (Nat.le_of_ble_eq_true rfl) (by omega) ?_
                refine m_lowers (by omega) hM4 hU4 hi1 (by omega) (fun h5 hU5 hF5 => ?_)
                have hF5' := hF4.tr hF5.X
                have hM5 := MLay_eq hM4 hF5.2.2.2
                have hJ5 := FaK_cg hJ4 (hF5.1 113 (by omega) (by omega) (by omega)) (hF5.2.1 34 (by omega)) (hF5.1 114 (by omega) (by omega) (by omega))
                have g185 : gI h5 94 18 = nI w.length := by rw [hF5.2.1 18 (by omega), e4 94 (by omega)]; exact g183
                dsimp only [gPush]
                first | refine U_ifB_eq (tgt := 95) dX10_findAll_88 (by decide) (by with_reducible rfl) (fun c88 => ?_) (fun c88 => ?_) | refine U_if_eq (tgt := 95) dX10_findAll_88 (by decide) (by with_reducible rfl) (by omega) (fun c88 => ?_) (fun c88 => ?_) | refine V_if_eq (tgt := 95) dX10_findAll_88 (by decide) (fun c88 => ?_) (fun c88 => ?_)
                · skip
                  exact nxt h5 Cs3 hJ5 ⟨[], by simp⟩ (fun z => absurd c88 (by rw [decide_eq_true z]; exact Bool.noConfusion)) g185 hF5'
                · skip
                  refine V_aloadn0 dX10_findAll_91 ?_
                  refine V_callV0 (μ' := mX10_comesTo) dX10_findAll_92 okX10_comesTo lX10_233 rfl (by first | assumption | rfl) (by first | decide | omega) (Nat.le_of_ble_eq_true rfl) (Nat.le_of_ble_eq_true rfl) (by omega) ?_
                  refine m_comesTo (by omega) hn hn5 w6 hM5 (by rw [hF5'.2.1 0 (by omega)]; exact r0) hU5 (by rw [lowerW_len]; exact hdl) (LtW_lower hdt hi) (by rw [cl_lower (by omega) (hdt.mono hn5) hi1 (by omega)]; exact hclc) hJ5 (fun h6 Cs6 hJ6 hE6 hin6 hF6 => ?_)
                  dsimp only [gPush]
                  exact nxt h6 Cs6 hJ6 hE6 (fun _ => hin6) (by rw [hF6.2.1 18 (by omega)]; exact g185) (hF5'.tr hF6.X)
              refine V_iloadn2 dX10_findAll_43 ?_
              refine V_aloadn0 dX10_findAll_44 ?_
              refine V_getI dX10_findAll_45 fX10_7 (Or.inl rfl) (by first | assumption | rfl) (by first | decide | omega) (by first | assumption | exact ML_4 (by assumption) | exact ML_5 (by assumption) | exact ML_6 (by assumption) | exact ML_7 (by assumption) | exact ML_8 (by assumption) | exact ML_9 (by assumption) | exact ML_10 (by assumption) | exact ML_11 (by assumption) | exact ML_12 (by assumption) | exact ML_13 (by assumption) | exact ML_15 (by assumption) | exact ML_16 (by assumption) | exact ML_17 (by assumption) | exact ML_20 (by assumption) | exact ML_23 (by assumption) | exact ML_24 (by assumption) | exact ML_30 (by assumption) | exact ML_31 (by assumption) | exact ML_32 (by assumption) | exact ML_33 (by assumption) | exact ML_35 (by assumption) | exact ML_36 (by assumption) | exact ML_37 (by assumption) | exact ML_38 (by assumption) | exact ML_41 (by assumption) | exact ML_42 (by assumption) | exact ML_43 (by assumption) | exact ML_44 (by assumption) | exact ML_45 (by assumption) | rfl) ?_
              first | refine U_icmp_ge (tgt := 101) dX10_findAll_48 (by decide) (by with_reducible rfl) (by with_reducible rfl) (by omega) (by omega) (fun c48 => ?_) (fun c48 => ?_) | refine V_icmp_ge (tgt := 101) dX10_findAll_48 (by decide) (fun c48 => ?_) (fun c48 => ?_)
              · skip
                omega
              · skip
                refine V_aloadn0 dX10_findAll_51 ?_
                refine V_aloadn0 dX10_findAll_52 ?_
                refine V_getR dX10_findAll_53 fX10_74 (by first | assumption | rfl) (by first | decide | omega) (by first | assumption | exact ML_4 (by assumption) | exact ML_5 (by assumption) | exact ML_6 (by assumption) | exact ML_7 (by assumption) | exact ML_8 (by assumption) | exact ML_9 (by assumption) | exact ML_10 (by assumption) | exact ML_11 (by assumption) | exact ML_12 (by assumption) | exact ML_13 (by assumption) | exact ML_15 (by assumption) | exact ML_16 (by assumption) | exact ML_17 (by assumption) | exact ML_20 (by assumption) | exact ML_23 (by assumption) | exact ML_24 (by assumption) | exact ML_30 (by assumption) | exact ML_31 (by assumption) | exact ML_32 (by assumption) | exact ML_33 (by assumption) | exact ML_35 (by assumption) | exact ML_36 (by assumption) | exact ML_37 (by assumption) | exact ML_38 (by assumption) | exact ML_41 (by assumption) | exact ML_42 (by assumption) | exact ML_43 (by assumption) | exact ML_44 (by assumption) | exact ML_45 (by assumption) | rfl) ?_
                refine V_iloadn1 dX10_findAll_56 ?_
                refine U_iald dX10_findAll_57 (by with_reducible rfl) (by first | assumption | rfl) (by first | decide | omega) (by omega) (by first | assumption | exact ML_4 (by assumption) | exact ML_5 (by assumption) | exact ML_6 (by assumption) | exact ML_7 (by assumption) | exact ML_8 (by assumption) | exact ML_9 (by assumption) | exact ML_10 (by assumption) | exact ML_11 (by assumption) | exact ML_12 (by assumption) | exact ML_13 (by assumption) | exact ML_15 (by assumption) | exact ML_16 (by assumption) | exact ML_17 (by assumption) | exact ML_20 (by assumption) | exact ML_23 (by assumption) | exact ML_24 (by assumption) | exact ML_30 (by assumption) | exact ML_31 (by assumption) | exact ML_32 (by assumption) | exact ML_33 (by assumption) | exact ML_35 (by assumption) | exact ML_36 (by assumption) | exact ML_37 (by assumption) | exact ML_38 (by assumption) | exact ML_41 (by assumption) | exact ML_42 (by assumption) | exact ML_43 (by assumption) | exact ML_44 (by assumption) | exact ML_45 (by assumption) | rfl) ?_
                refine V_callV1 (μ' := mX10_decodes) dX10_findAll_58 okX10_decodes lX10_236 rfl (by first | assumption | rfl) (by first | decide | omega) (Nat.le_of_ble_eq_true rfl) (Nat.le_of_ble_eq_true rfl) (by omega) ?_
                refine m_decodes (by omega) hn hn5 w6 hM2 n2 g18' (fun h4 hU4 e4 l4 r4 => ?_)
                have hM4 := MLay_eq hM2 r4
                have hF4 : FrX h h4 := hF2.tr ⟨fun a ha => e4 a (by omega), fun k hk => by rw [e4 94 (by omega)], fun a _ => by rw [l4], r4⟩
                have hJ4 := FaK_cg hJ2 (e4 113 (by omega)) (by rw [e4 94 (by omega)]) (e4 114 (by omega))
                dsimp only [gPush]
                refine V_aloadn0 dX10_findAll_61 ?_
                refine V_iloadn2 dX10_findAll_62 ?_
                refine V_callV1 (μ' := mX10_raises) dX10_findAll_63 okX10_raises lX10_179 rfl (by first | assumption | rfl) (by first | decide | omega) (Nat.le_of_ble_eq_true rfl) (Nat.le_of_ble_eq_true rfl) (by omega) ?_
                refine m_raises (by omega) hM4 hU4 hi1 (by omega) (fun h5 hU5 hF5 => ?_)
                have hF5' := hF4.tr hF5.X
                have hM5 := MLay_eq hM4 hF5.2.2.2
                have hJ5 := FaK_cg hJ4 (hF5.1 113 (by omega) (by omega) (by omega)) (hF5.2.1 34 (by omega)) (hF5.1 114 (by omega) (by omega) (by omega))
                have g185 : gI h5 94 18 = nI w.length := by rw [hF5.2.1 18 (by omega), e4 94 (by omega)]; exact g18'
                dsimp only [gPush]
                first | refine U_ifB_eq (tgt := 73) dX10_findAll_66 (by decide) (by with_reducible rfl) (fun c66 => ?_) (fun c66 => ?_) | refine U_if_eq (tgt := 73) dX10_findAll_66 (by decide) (by with_reducible rfl) (by omega) (fun c66 => ?_) (fun c66 => ?_) | refine V_if_eq (tgt := 73) dX10_findAll_66 (by decide) (fun c66 => ?_) (fun c66 => ?_)
                · skip
                  exact low h5 Cs2 hJ5 ⟨[], by simp⟩ (fun z => absurd c66 (by rw [decide_eq_true z]; exact Bool.noConfusion)) g185 hF5'
                · skip
                  refine V_aloadn0 dX10_findAll_69 ?_
                  refine V_callV0 (μ' := mX10_comesTo) dX10_findAll_70 okX10_comesTo lX10_233 rfl (by first | assumption | rfl) (by first | decide | omega) (Nat.le_of_ble_eq_true rfl) (Nat.le_of_ble_eq_true rfl) (by omega) ?_
                  refine m_comesTo (by omega) hn hn5 w6 hM5 (by rw [hF5'.2.1 0 (by omega)]; exact r0) hU5 (by rw [raiseW_len]; exact hdl) (LtW_raise hdt hi1 (by omega)) (by rw [cl_raise (by omega) (hdt.mono hn5) hi1 (by omega)]; exact hclc) hJ5 (fun h6 Cs6 hJ6 hE6 hin6 hF6 => ?_)
                  dsimp only [gPush]
                  exact low h6 Cs6 hJ6 hE6 (fun _ => hin6) (by rw [hF6.2.1 18 (by omega)]; exact g185) (hF5'.tr hF6.X)
            · skip
              refine V_iloadn2 dX10_findAll_43 ?_
              refine V_aloadn0 dX10_findAll_44 ?_
              refine V_getI dX10_findAll_45 fX10_7 (Or.inl rfl) (by first | assumption | rfl) (by first | decide | omega) (by first | assumption | exact ML_4 (by assumption) | exact ML_5 (by assumption) | exact ML_6 (by assumption) | exact ML_7 (by assumption) | exact ML_8 (by assumption) | exact ML_9 (by assumption) | exact ML_10 (by assumption) | exact ML_11 (by assumption) | exact ML_12 (by assumption) | exact ML_13 (by assumption) | exact ML_15 (by assumption) | exact ML_16 (by assumption) | exact ML_17 (by assumption) | exact ML_20 (by assumption) | exact ML_23 (by assumption) | exact ML_24 (by assumption) | exact ML_30 (by assumption) | exact ML_31 (by assumption) | exact ML_32 (by assumption) | exact ML_33 (by assumption) | exact ML_35 (by assumption) | exact ML_36 (by assumption) | exact ML_37 (by assumption) | exact ML_38 (by assumption) | exact ML_41 (by assumption) | exact ML_42 (by assumption) | exact ML_43 (by assumption) | exact ML_44 (by assumption) | exact ML_45 (by assumption) | rfl) ?_
              first | refine U_icmp_ge (tgt := 101) dX10_findAll_48 (by decide) (by with_reducible rfl) (by with_reducible rfl) (by omega) (by omega) (fun c48 => ?_) (fun c48 => ?_) | refine V_icmp_ge (tgt := 101) dX10_findAll_48 (by decide) (fun c48 => ?_) (fun c48 => ?_)
              · skip
                refine V_iinc1 dX10_findAll_101 (by first | exact ginc1 _ | rfl) (by decide) rfl ?_
                refine V_goto (tgt := 33) dX10_findAll_104 (by decide) ?_
                refine ih (501 - (k + 1)) (by omega) (k + 1) h2 Cs2 _ rfl (by omega) hJ2 (by rw [e2]; exact List.mem_append_left _ hin) (fun j hj i' i1' i2' => ?_) g18' hF2
                have gd : Cs2.getD j 0 = Cs.getD j 0 := by rw [e2, List.getD_eq_getElem?_getD, List.getD_eq_getElem?_getD, List.getElem?_append_left (by omega)]
                rw [gd]
                by_cases ej : j = k
                · rw [ej, hcc]; exact hS2 i' i1' (by omega)
                · obtain ⟨s1, s2⟩ := hS j (by omega) i' i1' i2'
                  exact ⟨fun z => by rw [e2]; exact List.mem_append_left _ (s1 z), fun z => by rw [e2]; exact List.mem_append_left _ (s2 z)⟩
              · skip
                omega
        refine V_iloadn1 dX10_findAll_33 ?_
        refine V_aloadn0 dX10_findAll_34 ?_
        refine V_getI dX10_findAll_35 fX10_230 (Or.inl rfl) (by first | assumption | rfl) (by first | decide | omega) (by first | assumption | exact ML_4 (by assumption) | exact ML_5 (by assumption) | exact ML_6 (by assumption) | exact ML_7 (by assumption) | exact ML_8 (by assumption) | exact ML_9 (by assumption) | exact ML_10 (by assumption) | exact ML_11 (by assumption) | exact ML_12 (by assumption) | exact ML_13 (by assumption) | exact ML_15 (by assumption) | exact ML_16 (by assumption) | exact ML_17 (by assumption) | exact ML_20 (by assumption) | exact ML_23 (by assumption) | exact ML_24 (by assumption) | exact ML_30 (by assumption) | exact ML_31 (by assumption) | exact ML_32 (by assumption) | exact ML_33 (by assumption) | exact ML_35 (by assumption) | exact ML_36 (by assumption) | exact ML_37 (by assumption) | exact ML_38 (by assumption) | exact ML_41 (by assumption) | exact ML_42 (by assumption) | exact ML_43 (by assumption) | exact ML_44 (by assumption) | exact ML_45 (by assumption) | rfl) ?_
        first | refine U_icmp_ge (tgt := 107) dX10_findAll_38 (by decide) (by with_reducible rfl) (by with_reducible rfl) (by omega) (by omega) (fun c38 => ?_) (fun c38 => ?_) | refine V_icmp_ge (tgt := 107) dX10_findAll_38 (by decide) (fun c38 => ?_) (fun c38 => ?_)
        · skip
          omega
        · skip
          refine V_iconst (v := nI 1) dX10_findAll_41 (by decide) ?_
          refine V_istoren2 dX10_findAll_42 (by decide) rfl ?_
          exact iloop _ 1 h1 Cs rfl (by omega) (by omega) hJ ⟨[], by simp⟩ (fun j j1 j2 => by omega) g18 hF
  have zloop : ∀ f q h1, q + f = 489 → (∀ j, j < q → gI h1 113 j = nI 0) → gI h1 105 = gI h 105 → gI h1 94 18 = gI h 94 18 → FrX h h1 → V Γ mX10_findAll d 124 124 h1 2 [some (.ref 94), some (.int (nI q)), none] [] Q := by
    intro f
    induction f with
    | zero =>
      intro q h1 hq hz e105 e18 hF
      have hM1 := MLay_eq hM hF.2.2.2
      generalize hh2 : sI h1 94 34 (nI 0) = h2
      have hF2 : FrX h h2 := by rw [← hh2]; exact frx_sI hF (by omega)
      have hM2 : MLay h2 := MLay_eq hM hF2.2.2.2
      have hJ2 : FaK h2 n w [] := by
        refine ⟨⟨fun k hk b hb => ?_, by rw [← hh2, gI_sI, if_pos ⟨rfl, rfl⟩]; rfl, fun j hj => absurd hj (Nat.not_lt_zero _)⟩, List.nodup_nil, fun c hc => absurd hc (by simp)⟩
        rw [← hh2, gI_sI, if_neg (by omega), hz k (by omega), bt_0]
        simp
      have hW2 : WW h2 w := WW_cg hW (by rw [← hh2, gI_sI, if_neg (by omega)]; exact e18) (by rw [← hh2]; funext b; rw [gI_sI, if_neg (by omega)]; exact congrFun e105 b)
      refine V_iloadn1 dX10_findAll_2 ?_
      refine V_sipush (v := nI 489) dX10_findAll_3 (by decide) ?_
      first | refine U_icmp_ge (tgt := 22) dX10_findAll_6 (by decide) (by with_reducible rfl) (by with_reducible rfl) (by omega) (by omega) (fun c6 => ?_) (fun c6 => ?_) | refine V_icmp_ge (tgt := 22) dX10_findAll_6 (by decide) (fun c6 => ?_) (fun c6 => ?_)
      · skip
        refine V_aloadn0 dX10_findAll_22 ?_
        refine V_iconst (v := nI 0) dX10_findAll_23 (by decide) ?_
        refine V_putI dX10_findAll_24 fX10_230 (by first | assumption | rfl) (by first | decide | omega) ?_
        rw [hh2]
        refine V_aloadn0 dX10_findAll_27 ?_
        refine V_callV0 (μ' := mX10_comesTo) dX10_findAll_28 okX10_comesTo lX10_233 rfl (by first | assumption | rfl) (by first | decide | omega) (Nat.le_of_ble_eq_true rfl) (Nat.le_of_ble_eq_true rfl) (by omega) ?_
        refine m_comesTo (w := w) (by omega) hn hn5 w6 hM2 (by rw [hF2.2.1 0 (by omega)]; exact r0) hW2 rfl hlw rfl hJ2 (fun h3 Cs3 hJ3 hE3 hin3 hF3 => ?_)
        dsimp only [gPush]
        refine V_iconst (v := nI 0) dX10_findAll_31 (by decide) ?_
        refine V_istoren1 dX10_findAll_32 (by decide) rfl ?_
        exact kloop _ 0 h3 Cs3 _ rfl (Nat.zero_le _) hJ3 hin3 (fun j hj => absurd hj (Nat.not_lt_zero _)) (by rw [hF3.2.1 18 (by omega)]; exact hW2.1) (hF2.tr hF3.X)
      · skip
        omega
    | succ f ih =>
      intro q h1 hq hz e105 e18 hF
      have hM1 := MLay_eq hM hF.2.2.2
      refine V_iloadn1 dX10_findAll_2 ?_
      refine V_sipush (v := nI 489) dX10_findAll_3 (by decide) ?_
      first | refine U_icmp_ge (tgt := 22) dX10_findAll_6 (by decide) (by with_reducible rfl) (by with_reducible rfl) (by omega) (by omega) (fun c6 => ?_) (fun c6 => ?_) | refine V_icmp_ge (tgt := 22) dX10_findAll_6 (by decide) (fun c6 => ?_) (fun c6 => ?_)
      · skip
        omega
      · skip
        refine V_aloadn0 dX10_findAll_9 ?_
        refine V_getR dX10_findAll_10 fX10_71 (by first | assumption | rfl) (by first | decide | omega) (by first | assumption | exact ML_4 (by assumption) | exact ML_5 (by assumption) | exact ML_6 (by assumption) | exact ML_7 (by assumption) | exact ML_8 (by assumption) | exact ML_9 (by assumption) | exact ML_10 (by assumption) | exact ML_11 (by assumption) | exact ML_12 (by assumption) | exact ML_13 (by assumption) | exact ML_15 (by assumption) | exact ML_16 (by assumption) | exact ML_17 (by assumption) | exact ML_20 (by assumption) | exact ML_23 (by assumption) | exact ML_24 (by assumption) | exact ML_30 (by assumption) | exact ML_31 (by assumption) | exact ML_32 (by assumption) | exact ML_33 (by assumption) | exact ML_35 (by assumption) | exact ML_36 (by assumption) | exact ML_37 (by assumption) | exact ML_38 (by assumption) | exact ML_41 (by assumption) | exact ML_42 (by assumption) | exact ML_43 (by assumption) | exact ML_44 (by assumption) | exact ML_45 (by assumption) | rfl) ?_
        refine V_iloadn1 dX10_findAll_13 ?_
        refine V_iconst (v := nI 0) dX10_findAll_14 (by decide) ?_
        refine U_iast dX10_findAll_15 (by with_reducible rfl) (by first | assumption | rfl) (by first | decide | omega) (by omega) ?_
        refine V_iinc1 dX10_findAll_16 (by first | exact ginc1 _ | rfl) (by decide) rfl ?_
        refine V_goto (tgt := 2) dX10_findAll_19 (by decide) ?_
        refine ih (q + 1) _ (by omega) (fun j hj => ?_) (by funext b; rw [gI_sI, if_neg (by omega)]; exact congrFun e105 b) (by rw [gI_sI, if_neg (by omega)]; exact e18) (frx_sI hF (by omega))
        rw [gI_sI]
        by_cases e : j = q
        · rw [if_pos ⟨rfl, e⟩]
        · rw [if_neg (fun z => e z.2)]; exact hz j (by omega)
  refine V_iconst (v := nI 0) dX10_findAll_0 (by decide) ?_
  refine V_istoren1 dX10_findAll_1 (by decide) rfl ?_
  exact zloop 489 0 h rfl (fun j hj => absurd hj (Nat.not_lt_zero _)) rfl rfl FrX.rf

set_option maxRecDepth 100000 in
set_option maxHeartbeats 4000000 in
theorem m_all {x i : Int32} (hd : 3 ≤ d) (hR : RM h S) (hWG : WG S) (hQ : ∀ h', RM h' S → FrD h h' → Q (some (.int (g_all S x i))) h') : V Γ mX10_all d 124 124 h 0 [some (.ref 94), some (.int x), some (.int i), none, none] [] Q := by
  obtain ⟨hM, ⟨r0, r1, rT, rW⟩, rK, rK2, rB, rS⟩ := id hR
  obtain ⟨hWS, hWK, hWB, hWX⟩ := id hWG
  have hn2 := hWS.1
  have hn5 := hWS.2.1
  by_cases hg : (inB x 6 && decide (-1 ≤ i)) = true
  · have hg2 := hg
    rw [Bool.and_eq_true] at hg2
    obtain ⟨s, hs, rfl⟩ := inB_t (by decide) hg2.1
    have hi : -1 ≤ i := of_decide_eq_true hg2.2
    have hWT := hWS.2.2.1 s hs
    obtain ⟨t0, tz⟩ := rT s hs
    have kd2 := hWT.1
    have hwl := hWT.2.1
    have hlt := hWT.2.2.1
    have eS : tS S (nI s) = S.1.2.2.1 s := by unfold tS; rw [cN_nI (by omega)]
    have eq0 : g_all S (nI s) i = _ := if_t hg
    rw [eq0, eS] at hQ
    have hcb := cF_le (famB S.1.1 (S.1.2.2.1 s).2.1) 15680
    have hbig := cF_big (n := S.1.1) (w := (S.1.2.2.1 s).2.1) hn5 hwl
    have cnt : ∀ Cs : List Nat, Cs.Nodup → (∀ x, x ∈ Cs ↔ famB S.1.1 (S.1.2.2.1 s).2.1 x = true) → Cs.length = cF (famB S.1.1 (S.1.2.2.1 s).2.1) 15680 := fun Cs hnd hset => by
      rw [cF_len]
      apply Nat.le_antisymm
      · exact List.Nodup.length_le_of_subset hnd (fun x hx => List.mem_filter.mpr ⟨List.mem_range.mpr (lt_pow_code hn5 hwl (famB_lt ((hset x).mp hx))), (hset x).mp hx⟩)
      · exact List.Nodup.length_le_of_subset (List.Pairwise.filter _ List.nodup_range) (fun x hx => (hset x).mpr (List.mem_filter.mp hx).2)
    by_cases hz : (S.1.2.2.1 s).1 = 0
    · rw [if_pos hz] at hQ
      refine V_iloadn1 dX10_all_0 ?_
      refine V_callS1 (μ' := mX10_isSlot) dX10_all_1 okX10_isSlot lX10_114 (Nat.le_of_ble_eq_true rfl) (Nat.le_of_ble_eq_true rfl) (by omega) ?_
      refine m_isSlot (by omega) ?_
      rw [hg2.1]
      dsimp only [gPush]
      first | refine U_ifB_eq (tgt := 12) dX10_all_4 (by decide) (by with_reducible rfl) (fun c4 => ?_) (fun c4 => ?_) | refine U_if_eq (tgt := 12) dX10_all_4 (by decide) (by with_reducible rfl) (by omega) (fun c4 => ?_) (fun c4 => ?_) | refine V_if_eq (tgt := 12) dX10_all_4 (by decide) (fun c4 => ?_) (fun c4 => ?_)
      · skip
        cases c4
      · skip
        refine V_iloadn2 dX10_all_7 ?_
        refine V_iconst (v := -1) dX10_all_8 (by decide) ?_
        first | refine U_icmp_ge (tgt := 14) dX10_all_9 (by decide) (by with_reducible rfl) (by with_reducible rfl) (by omega) (by omega) (fun c9 => ?_) (fun c9 => ?_) | refine V_icmp_ge (tgt := 14) dX10_all_9 (by decide) (fun c9 => ?_) (fun c9 => ?_)
        · skip
          refine V_aloadn0 dX10_all_14 ?_
          refine V_getR dX10_all_15 fX10_16 (by first | assumption | rfl) (by first | decide | omega) (by first | assumption | exact ML_4 (by assumption) | exact ML_5 (by assumption) | exact ML_6 (by assumption) | exact ML_7 (by assumption) | exact ML_8 (by assumption) | exact ML_9 (by assumption) | exact ML_10 (by assumption) | exact ML_11 (by assumption) | exact ML_12 (by assumption) | exact ML_13 (by assumption) | exact ML_15 (by assumption) | exact ML_16 (by assumption) | exact ML_17 (by assumption) | exact ML_20 (by assumption) | exact ML_23 (by assumption) | exact ML_24 (by assumption) | exact ML_30 (by assumption) | exact ML_31 (by assumption) | exact ML_32 (by assumption) | exact ML_33 (by assumption) | exact ML_35 (by assumption) | exact ML_36 (by assumption) | exact ML_37 (by assumption) | exact ML_38 (by assumption) | exact ML_41 (by assumption) | exact ML_42 (by assumption) | exact ML_43 (by assumption) | exact ML_44 (by assumption) | exact ML_45 (by assumption) | rfl) ?_
          refine V_iloadn1 dX10_all_18 ?_
          refine U_iald dX10_all_19 (by with_reducible rfl) (by first | assumption | rfl) (by first | decide | omega) (by omega) (by first | assumption | exact ML_4 (by assumption) | exact ML_5 (by assumption) | exact ML_6 (by assumption) | exact ML_7 (by assumption) | exact ML_8 (by assumption) | exact ML_9 (by assumption) | exact ML_10 (by assumption) | exact ML_11 (by assumption) | exact ML_12 (by assumption) | exact ML_13 (by assumption) | exact ML_15 (by assumption) | exact ML_16 (by assumption) | exact ML_17 (by assumption) | exact ML_20 (by assumption) | exact ML_23 (by assumption) | exact ML_24 (by assumption) | exact ML_30 (by assumption) | exact ML_31 (by assumption) | exact ML_32 (by assumption) | exact ML_33 (by assumption) | exact ML_35 (by assumption) | exact ML_36 (by assumption) | exact ML_37 (by assumption) | exact ML_38 (by assumption) | exact ML_41 (by assumption) | exact ML_42 (by assumption) | exact ML_43 (by assumption) | exact ML_44 (by assumption) | exact ML_45 (by assumption) | rfl) ?_
          first | refine U_ifB_ne (tgt := 26) dX10_all_20 (by decide) (by with_reducible rfl) (fun c20 => ?_) (fun c20 => ?_) | refine U_if_ne (tgt := 26) dX10_all_20 (by decide) (by with_reducible rfl) (by omega) (fun c20 => ?_) (fun c20 => ?_) | refine V_if_ne (tgt := 26) dX10_all_20 (by decide) (fun c20 => ?_) (fun c20 => ?_)
          · skip
            omega
          · skip
            refine V_bipush (v := -11) dX10_all_23 (by decide) ?_
            refine V_iret dX10_all_25 rfl rfl ?_
            exact hQ h hR FrD.rf
        · skip
          exact absurd hi c9
    rw [if_neg hz] at hQ
    by_cases hm : i = -1
    · subst hm
      rw [if_pos rfl] at hQ
      refine V_iloadn1 dX10_all_0 ?_
      refine V_callS1 (μ' := mX10_isSlot) dX10_all_1 okX10_isSlot lX10_114 (Nat.le_of_ble_eq_true rfl) (Nat.le_of_ble_eq_true rfl) (by omega) ?_
      refine m_isSlot (by omega) ?_
      rw [hg2.1]
      dsimp only [gPush]
      first | refine U_ifB_eq (tgt := 12) dX10_all_4 (by decide) (by with_reducible rfl) (fun c4 => ?_) (fun c4 => ?_) | refine U_if_eq (tgt := 12) dX10_all_4 (by decide) (by with_reducible rfl) (by omega) (fun c4 => ?_) (fun c4 => ?_) | refine V_if_eq (tgt := 12) dX10_all_4 (by decide) (fun c4 => ?_) (fun c4 => ?_)
      · skip
        cases c4
      · skip
        refine V_iloadn2 dX10_all_7 ?_
        refine V_iconst (v := -1) dX10_all_8 (by decide) ?_
        first | refine U_icmp_ge (tgt := 14) dX10_all_9 (by decide) (by with_reducible rfl) (by with_reducible rfl) (by omega) (by omega) (fun c9 => ?_) (fun c9 => ?_) | refine V_icmp_ge (tgt := 14) dX10_all_9 (by decide) (fun c9 => ?_) (fun c9 => ?_)
        · skip
          refine V_aloadn0 dX10_all_14 ?_
          refine V_getR dX10_all_15 fX10_16 (by first | assumption | rfl) (by first | decide | omega) (by first | assumption | exact ML_4 (by assumption) | exact ML_5 (by assumption) | exact ML_6 (by assumption) | exact ML_7 (by assumption) | exact ML_8 (by assumption) | exact ML_9 (by assumption) | exact ML_10 (by assumption) | exact ML_11 (by assumption) | exact ML_12 (by assumption) | exact ML_13 (by assumption) | exact ML_15 (by assumption) | exact ML_16 (by assumption) | exact ML_17 (by assumption) | exact ML_20 (by assumption) | exact ML_23 (by assumption) | exact ML_24 (by assumption) | exact ML_30 (by assumption) | exact ML_31 (by assumption) | exact ML_32 (by assumption) | exact ML_33 (by assumption) | exact ML_35 (by assumption) | exact ML_36 (by assumption) | exact ML_37 (by assumption) | exact ML_38 (by assumption) | exact ML_41 (by assumption) | exact ML_42 (by assumption) | exact ML_43 (by assumption) | exact ML_44 (by assumption) | exact ML_45 (by assumption) | rfl) ?_
          refine V_iloadn1 dX10_all_18 ?_
          refine U_iald dX10_all_19 (by with_reducible rfl) (by first | assumption | rfl) (by first | decide | omega) (by omega) (by first | assumption | exact ML_4 (by assumption) | exact ML_5 (by assumption) | exact ML_6 (by assumption) | exact ML_7 (by assumption) | exact ML_8 (by assumption) | exact ML_9 (by assumption) | exact ML_10 (by assumption) | exact ML_11 (by assumption) | exact ML_12 (by assumption) | exact ML_13 (by assumption) | exact ML_15 (by assumption) | exact ML_16 (by assumption) | exact ML_17 (by assumption) | exact ML_20 (by assumption) | exact ML_23 (by assumption) | exact ML_24 (by assumption) | exact ML_30 (by assumption) | exact ML_31 (by assumption) | exact ML_32 (by assumption) | exact ML_33 (by assumption) | exact ML_35 (by assumption) | exact ML_36 (by assumption) | exact ML_37 (by assumption) | exact ML_38 (by assumption) | exact ML_41 (by assumption) | exact ML_42 (by assumption) | exact ML_43 (by assumption) | exact ML_44 (by assumption) | exact ML_45 (by assumption) | rfl) ?_
          first | refine U_ifB_ne (tgt := 26) dX10_all_20 (by decide) (by with_reducible rfl) (fun c20 => ?_) (fun c20 => ?_) | refine U_if_ne (tgt := 26) dX10_all_20 (by decide) (by with_reducible rfl) (by omega) (fun c20 => ?_) (fun c20 => ?_) | refine V_if_ne (tgt := 26) dX10_all_20 (by decide) (fun c20 => ?_) (fun c20 => ?_)
          · skip
            refine V_aloadn0 dX10_all_26 ?_
            refine V_iloadn1 dX10_all_27 ?_
            refine V_callV1 (μ' := mX10_takes) dX10_all_28 okX10_takes lX10_146 rfl (by first | assumption | rfl) (by first | decide | omega) (Nat.le_of_ble_eq_true rfl) (Nat.le_of_ble_eq_true rfl) (by omega) ?_
            refine m_takes hs hR hWT hn5 hz (fun h1 hk1 hW1 hL1 hR1 hF1 => ?_)
            have hM1 := hR1.1
            dsimp only [gPush]
            refine V_aloadn0 dX10_all_31 ?_
            refine V_callV0 (μ' := mX10_findAll) dX10_all_32 okX10_findAll lX10_239 rfl (by first | assumption | rfl) (by first | decide | omega) (Nat.le_of_ble_eq_true rfl) (Nat.le_of_ble_eq_true rfl) (by omega) ?_
            refine m_findAll (by omega) hn2 hn5 hM1 hR1.2.1.1 hW1 hlt (fun h2 Cs hJ2 hset g18 hF2 => ?_)
            have hR2 := RM_X hR1 hF2
            have f34 : gI h2 94 34 = nI (cF (famB S.1.1 (S.1.2.2.1 s).2.1) 15680) := by rw [hJ2.1.2.1, cnt Cs hJ2.2.1 hset]
            dsimp only [gPush]
            refine V_iloadn2 dX10_all_35 ?_
            refine V_if_ge (tgt := 44) dX10_all_36 (by decide) (fun c36 => ?_) (fun c36 => ?_)
            · skip
              exact absurd c36 (by decide)
            · skip
              refine V_aloadn0 dX10_all_39 ?_
              refine V_getI dX10_all_40 fX10_230 (Or.inl rfl) (by first | assumption | rfl) (by first | decide | omega) (by first | assumption | exact ML_4 (by assumption) | exact ML_5 (by assumption) | exact ML_6 (by assumption) | exact ML_7 (by assumption) | exact ML_8 (by assumption) | exact ML_9 (by assumption) | exact ML_10 (by assumption) | exact ML_11 (by assumption) | exact ML_12 (by assumption) | exact ML_13 (by assumption) | exact ML_15 (by assumption) | exact ML_16 (by assumption) | exact ML_17 (by assumption) | exact ML_20 (by assumption) | exact ML_23 (by assumption) | exact ML_24 (by assumption) | exact ML_30 (by assumption) | exact ML_31 (by assumption) | exact ML_32 (by assumption) | exact ML_33 (by assumption) | exact ML_35 (by assumption) | exact ML_36 (by assumption) | exact ML_37 (by assumption) | exact ML_38 (by assumption) | exact ML_41 (by assumption) | exact ML_42 (by assumption) | exact ML_43 (by assumption) | exact ML_44 (by assumption) | exact ML_45 (by assumption) | rfl) ?_
              refine V_iret dX10_all_43 rfl rfl ?_
              exact hQ h2 hR2 (hF1.tr hF2).D
          · skip
            omega
        · skip
          exact absurd hi c9
    rw [if_neg hm] at hQ
    have hi0 : ¬ i < 0 := fun q => hm (int_m1 hi q)
    obtain ⟨p, hp, rfl⟩ := nI_of hi0
    rw [cN_nI hp] at hQ
    have none : ∀ h1 x3 x4, cF (famB S.1.1 (S.1.2.2.1 s).2.1) 15680 ≤ p → RM h1 S → FrX h h1 → V Γ mX10_all d 124 124 h1 111 [some (.ref 94), some (.int (nI s)), some (.int (nI p)), x3, x4] [] Q := by
      intro h1 x3 x4 hle hR1 hF1
      rw [if_neg (fun q => by have := (nI_ltI hp (by omega)).mp q; omega)] at hQ
      refine V_bipush (v := -3) dX10_all_111 (by decide) ?_
      refine V_iret dX10_all_113 rfl rfl ?_
      exact hQ h1 hR1 hF1.D
    have loop : ∀ f c left h1, c + f = 15648 → left + cF (famB S.1.1 (S.1.2.2.1 s).2.1) c = p → p < cF (famB S.1.1 (S.1.2.2.1 s).2.1) 15680 → SeI h1 (famB S.1.1 (S.1.2.2.1 s).2.1) → gI h1 94 34 = nI (cF (famB S.1.1 (S.1.2.2.1 s).2.1) 15680) → gI h1 94 18 = nI (S.1.2.2.1 s).2.1.length → RM h1 S → FrX h h1 → V Γ mX10_all d 124 124 h1 49 [some (.ref 94), some (.int (nI s)), some (.int (nI p)), some (.int (nI left)), some (.int (nI c))] [] Q := by
      intro f
      induction f with
      | zero =>
        intro c left h1 hc hl hp2 hSe f34 g18 hR1 hF1
        have e : c = 15648 := by omega
        rw [e, ← hbig] at hl
        omega
      | succ f ih =>
        intro c left h1 hc hl hp2 hSe f34 g18 hR1 hF1
        have hM1 := hR1.1
        have hcl := cF_le (famB S.1.1 (S.1.2.2.1 s).2.1) c
        have hb := hSe (c / 32) (by omega) (c % 32) (by omega)
        rw [show 32 * (c / 32) + c % 32 = c by omega] at hb
        have sb := sbit (gI h1 113 (c / 32)) (b := c % 32) (by omega)
        rw [hb] at sb
        generalize hx0 : gI h1 113 (c / 32) = x0 at sb
        have hsucc : cF (famB S.1.1 (S.1.2.2.1 s).2.1) (c + 1) = cF (famB S.1.1 (S.1.2.2.1 s).2.1) c + (if famB S.1.1 (S.1.2.2.1 s).2.1 c = true then 1 else 0) := rfl
        cases hfc : famB S.1.1 (S.1.2.2.1 s).2.1 c with
        | false =>
          rw [hfc] at sb hsucc
          rw [if_neg Bool.false_ne_true, Nat.add_zero] at hsucc
          rw [gBo_f] at sb
          refine V_iloadw4 dX10_all_49 ?_
          refine V_sipush (v := nI 15648) dX10_all_51 (by decide) ?_
          first | refine U_icmp_ge (tgt := 111) dX10_all_54 (by decide) (by with_reducible rfl) (by with_reducible rfl) (by omega) (by omega) (fun c54 => ?_) (fun c54 => ?_) | refine V_icmp_ge (tgt := 111) dX10_all_54 (by decide) (fun c54 => ?_) (fun c54 => ?_)
          · skip
            omega
          · skip
            refine V_iloadn2 dX10_all_57 ?_
            refine V_aloadn0 dX10_all_58 ?_
            refine V_getI dX10_all_59 fX10_230 (Or.inl rfl) (by first | assumption | rfl) (by first | decide | omega) (by first | assumption | exact ML_4 (by assumption) | exact ML_5 (by assumption) | exact ML_6 (by assumption) | exact ML_7 (by assumption) | exact ML_8 (by assumption) | exact ML_9 (by assumption) | exact ML_10 (by assumption) | exact ML_11 (by assumption) | exact ML_12 (by assumption) | exact ML_13 (by assumption) | exact ML_15 (by assumption) | exact ML_16 (by assumption) | exact ML_17 (by assumption) | exact ML_20 (by assumption) | exact ML_23 (by assumption) | exact ML_24 (by assumption) | exact ML_30 (by assumption) | exact ML_31 (by assumption) | exact ML_32 (by assumption) | exact ML_33 (by assumption) | exact ML_35 (by assumption) | exact ML_36 (by assumption) | exact ML_37 (by assumption) | exact ML_38 (by assumption) | exact ML_41 (by assumption) | exact ML_42 (by assumption) | exact ML_43 (by assumption) | exact ML_44 (by assumption) | exact ML_45 (by assumption) | rfl) ?_
            first | refine U_icmp_ge (tgt := 111) dX10_all_62 (by decide) (by with_reducible rfl) (by with_reducible rfl) (by omega) (by omega) (fun c62 => ?_) (fun c62 => ?_) | refine V_icmp_ge (tgt := 111) dX10_all_62 (by decide) (fun c62 => ?_) (fun c62 => ?_)
            · skip
              omega
            · skip
              refine V_aloadn0 dX10_all_65 ?_
              refine V_getR dX10_all_66 fX10_71 (by first | assumption | rfl) (by first | decide | omega) (by first | assumption | exact ML_4 (by assumption) | exact ML_5 (by assumption) | exact ML_6 (by assumption) | exact ML_7 (by assumption) | exact ML_8 (by assumption) | exact ML_9 (by assumption) | exact ML_10 (by assumption) | exact ML_11 (by assumption) | exact ML_12 (by assumption) | exact ML_13 (by assumption) | exact ML_15 (by assumption) | exact ML_16 (by assumption) | exact ML_17 (by assumption) | exact ML_20 (by assumption) | exact ML_23 (by assumption) | exact ML_24 (by assumption) | exact ML_30 (by assumption) | exact ML_31 (by assumption) | exact ML_32 (by assumption) | exact ML_33 (by assumption) | exact ML_35 (by assumption) | exact ML_36 (by assumption) | exact ML_37 (by assumption) | exact ML_38 (by assumption) | exact ML_41 (by assumption) | exact ML_42 (by assumption) | exact ML_43 (by assumption) | exact ML_44 (by assumption) | exact ML_45 (by assumption) | rfl) ?_
              refine V_iloadw4 dX10_all_69 ?_
              refine V_bipush (v := nI 32) dX10_all_71 (by decide) ?_
              first | refine U_idiv dX10_all_73 (by with_reducible rfl) (by with_reducible rfl) (by omega) (by omega) (by omega) ?_ | refine V_idiv dX10_all_73 (by decide) ?_
              refine U_iald dX10_all_74 (by with_reducible rfl) (by first | assumption | rfl) (by first | decide | omega) (by omega) (by first | assumption | exact ML_4 (by assumption) | exact ML_5 (by assumption) | exact ML_6 (by assumption) | exact ML_7 (by assumption) | exact ML_8 (by assumption) | exact ML_9 (by assumption) | exact ML_10 (by assumption) | exact ML_11 (by assumption) | exact ML_12 (by assumption) | exact ML_13 (by assumption) | exact ML_15 (by assumption) | exact ML_16 (by assumption) | exact ML_17 (by assumption) | exact ML_20 (by assumption) | exact ML_23 (by assumption) | exact ML_24 (by assumption) | exact ML_30 (by assumption) | exact ML_31 (by assumption) | exact ML_32 (by assumption) | exact ML_33 (by assumption) | exact ML_35 (by assumption) | exact ML_36 (by assumption) | exact ML_37 (by assumption) | exact ML_38 (by assumption) | exact ML_41 (by assumption) | exact ML_42 (by assumption) | exact ML_43 (by assumption) | exact ML_44 (by assumption) | exact ML_45 (by assumption) | rfl) ?_
              refine V_iloadw4 dX10_all_75 ?_
              refine V_bipush (v := nI 32) dX10_all_77 (by decide) ?_
              first | refine U_irem dX10_all_79 (by with_reducible rfl) (by with_reducible rfl) (by omega) (by omega) (by omega) ?_ | refine V_irem dX10_all_79 (by decide) ?_
              refine V_ishr dX10_all_80 ?_
              refine V_iconst (v := nI 1) dX10_all_81 (by decide) ?_
              refine V_iand dX10_all_82 ?_
              refine V_topI sb ?_
              refine V_iconst (v := nI 1) dX10_all_83 (by decide) ?_
              first | refine U_icmp_ne (tgt := 105) dX10_all_84 (by decide) (by with_reducible rfl) (by with_reducible rfl) (by omega) (by omega) (fun c84 => ?_) (fun c84 => ?_) | refine V_icmp_ne (tgt := 105) dX10_all_84 (by decide) (fun c84 => ?_) (fun c84 => ?_)
              · skip
                refine V_iinc4 dX10_all_105 (by first | exact ginc1 _ | rfl) (by decide) rfl ?_
                refine V_goto (tgt := 49) dX10_all_108 (by decide) ?_
                exact ih (c + 1) left h1 (by omega) (by rw [hsucc]; exact hl) hp2 hSe f34 g18 hR1 hF1
              · skip
                omega
        | true =>
          rw [hfc] at sb hsucc
          rw [if_pos rfl] at hsucc
          rw [gBo_t] at sb
          by_cases hl0 : left = 0
          · subst hl0
            have hpc : cF (famB S.1.1 (S.1.2.2.1 s).2.1) c = p := by omega
            rw [if_pos ((nI_ltI hp (by omega)).mpr hp2), nth_ok (by omega) hfc hpc] at hQ
            refine V_iloadw4 dX10_all_49 ?_
            refine V_sipush (v := nI 15648) dX10_all_51 (by decide) ?_
            first | refine U_icmp_ge (tgt := 111) dX10_all_54 (by decide) (by with_reducible rfl) (by with_reducible rfl) (by omega) (by omega) (fun c54 => ?_) (fun c54 => ?_) | refine V_icmp_ge (tgt := 111) dX10_all_54 (by decide) (fun c54 => ?_) (fun c54 => ?_)
            · skip
              omega
            · skip
              refine V_iloadn2 dX10_all_57 ?_
              refine V_aloadn0 dX10_all_58 ?_
              refine V_getI dX10_all_59 fX10_230 (Or.inl rfl) (by first | assumption | rfl) (by first | decide | omega) (by first | assumption | exact ML_4 (by assumption) | exact ML_5 (by assumption) | exact ML_6 (by assumption) | exact ML_7 (by assumption) | exact ML_8 (by assumption) | exact ML_9 (by assumption) | exact ML_10 (by assumption) | exact ML_11 (by assumption) | exact ML_12 (by assumption) | exact ML_13 (by assumption) | exact ML_15 (by assumption) | exact ML_16 (by assumption) | exact ML_17 (by assumption) | exact ML_20 (by assumption) | exact ML_23 (by assumption) | exact ML_24 (by assumption) | exact ML_30 (by assumption) | exact ML_31 (by assumption) | exact ML_32 (by assumption) | exact ML_33 (by assumption) | exact ML_35 (by assumption) | exact ML_36 (by assumption) | exact ML_37 (by assumption) | exact ML_38 (by assumption) | exact ML_41 (by assumption) | exact ML_42 (by assumption) | exact ML_43 (by assumption) | exact ML_44 (by assumption) | exact ML_45 (by assumption) | rfl) ?_
              first | refine U_icmp_ge (tgt := 111) dX10_all_62 (by decide) (by with_reducible rfl) (by with_reducible rfl) (by omega) (by omega) (fun c62 => ?_) (fun c62 => ?_) | refine V_icmp_ge (tgt := 111) dX10_all_62 (by decide) (fun c62 => ?_) (fun c62 => ?_)
              · skip
                omega
              · skip
                refine V_aloadn0 dX10_all_65 ?_
                refine V_getR dX10_all_66 fX10_71 (by first | assumption | rfl) (by first | decide | omega) (by first | assumption | exact ML_4 (by assumption) | exact ML_5 (by assumption) | exact ML_6 (by assumption) | exact ML_7 (by assumption) | exact ML_8 (by assumption) | exact ML_9 (by assumption) | exact ML_10 (by assumption) | exact ML_11 (by assumption) | exact ML_12 (by assumption) | exact ML_13 (by assumption) | exact ML_15 (by assumption) | exact ML_16 (by assumption) | exact ML_17 (by assumption) | exact ML_20 (by assumption) | exact ML_23 (by assumption) | exact ML_24 (by assumption) | exact ML_30 (by assumption) | exact ML_31 (by assumption) | exact ML_32 (by assumption) | exact ML_33 (by assumption) | exact ML_35 (by assumption) | exact ML_36 (by assumption) | exact ML_37 (by assumption) | exact ML_38 (by assumption) | exact ML_41 (by assumption) | exact ML_42 (by assumption) | exact ML_43 (by assumption) | exact ML_44 (by assumption) | exact ML_45 (by assumption) | rfl) ?_
                refine V_iloadw4 dX10_all_69 ?_
                refine V_bipush (v := nI 32) dX10_all_71 (by decide) ?_
                first | refine U_idiv dX10_all_73 (by with_reducible rfl) (by with_reducible rfl) (by omega) (by omega) (by omega) ?_ | refine V_idiv dX10_all_73 (by decide) ?_
                refine U_iald dX10_all_74 (by with_reducible rfl) (by first | assumption | rfl) (by first | decide | omega) (by omega) (by first | assumption | exact ML_4 (by assumption) | exact ML_5 (by assumption) | exact ML_6 (by assumption) | exact ML_7 (by assumption) | exact ML_8 (by assumption) | exact ML_9 (by assumption) | exact ML_10 (by assumption) | exact ML_11 (by assumption) | exact ML_12 (by assumption) | exact ML_13 (by assumption) | exact ML_15 (by assumption) | exact ML_16 (by assumption) | exact ML_17 (by assumption) | exact ML_20 (by assumption) | exact ML_23 (by assumption) | exact ML_24 (by assumption) | exact ML_30 (by assumption) | exact ML_31 (by assumption) | exact ML_32 (by assumption) | exact ML_33 (by assumption) | exact ML_35 (by assumption) | exact ML_36 (by assumption) | exact ML_37 (by assumption) | exact ML_38 (by assumption) | exact ML_41 (by assumption) | exact ML_42 (by assumption) | exact ML_43 (by assumption) | exact ML_44 (by assumption) | exact ML_45 (by assumption) | rfl) ?_
                refine V_iloadw4 dX10_all_75 ?_
                refine V_bipush (v := nI 32) dX10_all_77 (by decide) ?_
                first | refine U_irem dX10_all_79 (by with_reducible rfl) (by with_reducible rfl) (by omega) (by omega) (by omega) ?_ | refine V_irem dX10_all_79 (by decide) ?_
                refine V_ishr dX10_all_80 ?_
                refine V_iconst (v := nI 1) dX10_all_81 (by decide) ?_
                refine V_iand dX10_all_82 ?_
                refine V_topI sb ?_
                refine V_iconst (v := nI 1) dX10_all_83 (by decide) ?_
                first | refine U_icmp_ne (tgt := 105) dX10_all_84 (by decide) (by with_reducible rfl) (by with_reducible rfl) (by omega) (by omega) (fun c84 => ?_) (fun c84 => ?_) | refine V_icmp_ne (tgt := 105) dX10_all_84 (by decide) (fun c84 => ?_) (fun c84 => ?_)
                · skip
                  omega
                · skip
                  refine V_iloadn3 dX10_all_87 ?_
                  first | refine U_ifB_ne (tgt := 102) dX10_all_88 (by decide) (by with_reducible rfl) (fun c88 => ?_) (fun c88 => ?_) | refine U_if_ne (tgt := 102) dX10_all_88 (by decide) (by with_reducible rfl) (by omega) (fun c88 => ?_) (fun c88 => ?_) | refine V_if_ne (tgt := 102) dX10_all_88 (by decide) (fun c88 => ?_) (fun c88 => ?_)
                  · skip
                    omega
                  · skip
                    refine V_aloadn0 dX10_all_91 ?_
                    refine V_iloadw4 dX10_all_92 ?_
                    refine V_callV1 (μ' := mX10_decodes) dX10_all_94 okX10_decodes lX10_236 rfl (by first | assumption | rfl) (by first | decide | omega) (Nat.le_of_ble_eq_true rfl) (Nat.le_of_ble_eq_true rfl) (by omega) ?_
                    refine m_decodes (by omega) hn2 hn5 hwl hM1 hR1.2.1.1 g18 (fun h2 hU2 e2 l2 r2 => ?_)
                    have hF2 : FrX h1 h2 := ⟨fun a ha => e2 a (by omega), fun k hk => by rw [e2 94 (by omega)], fun a _ => by rw [l2], r2⟩
                    have hR2 := RM_X hR1 hF2
                    have hM2 := hR2.1
                    have hQ9 := hQ h2 hR2 (hF1.tr hF2).D
                    dsimp only [gPush]
                    refine V_aloadn0 dX10_all_97 ?_
                    refine V_callV0 (μ' := mX10_read) dX10_all_98 okX10_read lX10_149 rfl (by first | assumption | rfl) (by first | decide | omega) (Nat.le_of_ble_eq_true rfl) (Nat.le_of_ble_eq_true rfl) (by omega) ?_
                    refine m_read hM2 hU2 ?_
                    rw [dcF_len]
                    dsimp only [gPush]
                    refine V_iret dX10_all_101 rfl rfl ?_
                    exact hQ9
          · skip
            refine V_iloadw4 dX10_all_49 ?_
            refine V_sipush (v := nI 15648) dX10_all_51 (by decide) ?_
            first | refine U_icmp_ge (tgt := 111) dX10_all_54 (by decide) (by with_reducible rfl) (by with_reducible rfl) (by omega) (by omega) (fun c54 => ?_) (fun c54 => ?_) | refine V_icmp_ge (tgt := 111) dX10_all_54 (by decide) (fun c54 => ?_) (fun c54 => ?_)
            · skip
              omega
            · skip
              refine V_iloadn2 dX10_all_57 ?_
              refine V_aloadn0 dX10_all_58 ?_
              refine V_getI dX10_all_59 fX10_230 (Or.inl rfl) (by first | assumption | rfl) (by first | decide | omega) (by first | assumption | exact ML_4 (by assumption) | exact ML_5 (by assumption) | exact ML_6 (by assumption) | exact ML_7 (by assumption) | exact ML_8 (by assumption) | exact ML_9 (by assumption) | exact ML_10 (by assumption) | exact ML_11 (by assumption) | exact ML_12 (by assumption) | exact ML_13 (by assumption) | exact ML_15 (by assumption) | exact ML_16 (by assumption) | exact ML_17 (by assumption) | exact ML_20 (by assumption) | exact ML_23 (by assumption) | exact ML_24 (by assumption) | exact ML_30 (by assumption) | exact ML_31 (by assumption) | exact ML_32 (by assumption) | exact ML_33 (by assumption) | exact ML_35 (by assumption) | exact ML_36 (by assumption) | exact ML_37 (by assumption) | exact ML_38 (by assumption) | exact ML_41 (by assumption) | exact ML_42 (by assumption) | exact ML_43 (by assumption) | exact ML_44 (by assumption) | exact ML_45 (by assumption) | rfl) ?_
              first | refine U_icmp_ge (tgt := 111) dX10_all_62 (by decide) (by with_reducible rfl) (by with_reducible rfl) (by omega) (by omega) (fun c62 => ?_) (fun c62 => ?_) | refine V_icmp_ge (tgt := 111) dX10_all_62 (by decide) (fun c62 => ?_) (fun c62 => ?_)
              · skip
                omega
              · skip
                refine V_aloadn0 dX10_all_65 ?_
                refine V_getR dX10_all_66 fX10_71 (by first | assumption | rfl) (by first | decide | omega) (by first | assumption | exact ML_4 (by assumption) | exact ML_5 (by assumption) | exact ML_6 (by assumption) | exact ML_7 (by assumption) | exact ML_8 (by assumption) | exact ML_9 (by assumption) | exact ML_10 (by assumption) | exact ML_11 (by assumption) | exact ML_12 (by assumption) | exact ML_13 (by assumption) | exact ML_15 (by assumption) | exact ML_16 (by assumption) | exact ML_17 (by assumption) | exact ML_20 (by assumption) | exact ML_23 (by assumption) | exact ML_24 (by assumption) | exact ML_30 (by assumption) | exact ML_31 (by assumption) | exact ML_32 (by assumption) | exact ML_33 (by assumption) | exact ML_35 (by assumption) | exact ML_36 (by assumption) | exact ML_37 (by assumption) | exact ML_38 (by assumption) | exact ML_41 (by assumption) | exact ML_42 (by assumption) | exact ML_43 (by assumption) | exact ML_44 (by assumption) | exact ML_45 (by assumption) | rfl) ?_
                refine V_iloadw4 dX10_all_69 ?_
                refine V_bipush (v := nI 32) dX10_all_71 (by decide) ?_
                first | refine U_idiv dX10_all_73 (by with_reducible rfl) (by with_reducible rfl) (by omega) (by omega) (by omega) ?_ | refine V_idiv dX10_all_73 (by decide) ?_
                refine U_iald dX10_all_74 (by with_reducible rfl) (by first | assumption | rfl) (by first | decide | omega) (by omega) (by first | assumption | exact ML_4 (by assumption) | exact ML_5 (by assumption) | exact ML_6 (by assumption) | exact ML_7 (by assumption) | exact ML_8 (by assumption) | exact ML_9 (by assumption) | exact ML_10 (by assumption) | exact ML_11 (by assumption) | exact ML_12 (by assumption) | exact ML_13 (by assumption) | exact ML_15 (by assumption) | exact ML_16 (by assumption) | exact ML_17 (by assumption) | exact ML_20 (by assumption) | exact ML_23 (by assumption) | exact ML_24 (by assumption) | exact ML_30 (by assumption) | exact ML_31 (by assumption) | exact ML_32 (by assumption) | exact ML_33 (by assumption) | exact ML_35 (by assumption) | exact ML_36 (by assumption) | exact ML_37 (by assumption) | exact ML_38 (by assumption) | exact ML_41 (by assumption) | exact ML_42 (by assumption) | exact ML_43 (by assumption) | exact ML_44 (by assumption) | exact ML_45 (by assumption) | rfl) ?_
                refine V_iloadw4 dX10_all_75 ?_
                refine V_bipush (v := nI 32) dX10_all_77 (by decide) ?_
                first | refine U_irem dX10_all_79 (by with_reducible rfl) (by with_reducible rfl) (by omega) (by omega) (by omega) ?_ | refine V_irem dX10_all_79 (by decide) ?_
                refine V_ishr dX10_all_80 ?_
                refine V_iconst (v := nI 1) dX10_all_81 (by decide) ?_
                refine V_iand dX10_all_82 ?_
                refine V_topI sb ?_
                refine V_iconst (v := nI 1) dX10_all_83 (by decide) ?_
                first | refine U_icmp_ne (tgt := 105) dX10_all_84 (by decide) (by with_reducible rfl) (by with_reducible rfl) (by omega) (by omega) (fun c84 => ?_) (fun c84 => ?_) | refine V_icmp_ne (tgt := 105) dX10_all_84 (by decide) (fun c84 => ?_) (fun c84 => ?_)
                · skip
                  omega
                · skip
                  refine V_iloadn3 dX10_all_87 ?_
                  first | refine U_ifB_ne (tgt := 102) dX10_all_88 (by decide) (by with_reducible rfl) (fun c88 => ?_) (fun c88 => ?_) | refine U_if_ne (tgt := 102) dX10_all_88 (by decide) (by with_reducible rfl) (by omega) (fun c88 => ?_) (fun c88 => ?_) | refine V_if_ne (tgt := 102) dX10_all_88 (by decide) (fun c88 => ?_) (fun c88 => ?_)
                  · skip
                    refine V_iinc3 dX10_all_102 (v := nI (left - 1)) (by rw [gdecS]; exact pk_sub (by omega)) (by decide) rfl ?_
                    refine V_iinc4 dX10_all_105 (by first | exact ginc1 _ | rfl) (by decide) rfl ?_
                    refine V_goto (tgt := 49) dX10_all_108 (by decide) ?_
                    exact ih (c + 1) (left - 1) h1 (by omega) (by rw [hsucc]; omega) hp2 hSe f34 g18 hR1 hF1
                  · skip
                    omega
    refine V_iloadn1 dX10_all_0 ?_
    refine V_callS1 (μ' := mX10_isSlot) dX10_all_1 okX10_isSlot lX10_114 (Nat.le_of_ble_eq_true rfl) (Nat.le_of_ble_eq_true rfl) (by omega) ?_
    refine m_isSlot (by omega) ?_
    rw [hg2.1]
    dsimp only [gPush]
    first | refine U_ifB_eq (tgt := 12) dX10_all_4 (by decide) (by with_reducible rfl) (fun c4 => ?_) (fun c4 => ?_) | refine U_if_eq (tgt := 12) dX10_all_4 (by decide) (by with_reducible rfl) (by omega) (fun c4 => ?_) (fun c4 => ?_) | refine V_if_eq (tgt := 12) dX10_all_4 (by decide) (fun c4 => ?_) (fun c4 => ?_)
    · skip
      cases c4
    · skip
      refine V_iloadn2 dX10_all_7 ?_
      refine V_iconst (v := -1) dX10_all_8 (by decide) ?_
      first | refine U_icmp_ge (tgt := 14) dX10_all_9 (by decide) (by with_reducible rfl) (by with_reducible rfl) (by omega) (by omega) (fun c9 => ?_) (fun c9 => ?_) | refine V_icmp_ge (tgt := 14) dX10_all_9 (by decide) (fun c9 => ?_) (fun c9 => ?_)
      · skip
        refine V_aloadn0 dX10_all_14 ?_
        refine V_getR dX10_all_15 fX10_16 (by first | assumption | rfl) (by first | decide | omega) (by first | assumption | exact ML_4 (by assumption) | exact ML_5 (by assumption) | exact ML_6 (by assumption) | exact ML_7 (by assumption) | exact ML_8 (by assumption) | exact ML_9 (by assumption) | exact ML_10 (by assumption) | exact ML_11 (by assumption) | exact ML_12 (by assumption) | exact ML_13 (by assumption) | exact ML_15 (by assumption) | exact ML_16 (by assumption) | exact ML_17 (by assumption) | exact ML_20 (by assumption) | exact ML_23 (by assumption) | exact ML_24 (by assumption) | exact ML_30 (by assumption) | exact ML_31 (by assumption) | exact ML_32 (by assumption) | exact ML_33 (by assumption) | exact ML_35 (by assumption) | exact ML_36 (by assumption) | exact ML_37 (by assumption) | exact ML_38 (by assumption) | exact ML_41 (by assumption) | exact ML_42 (by assumption) | exact ML_43 (by assumption) | exact ML_44 (by assumption) | exact ML_45 (by assumption) | rfl) ?_
        refine V_iloadn1 dX10_all_18 ?_
        refine U_iald dX10_all_19 (by with_reducible rfl) (by first | assumption | rfl) (by first | decide | omega) (by omega) (by first | assumption | exact ML_4 (by assumption) | exact ML_5 (by assumption) | exact ML_6 (by assumption) | exact ML_7 (by assumption) | exact ML_8 (by assumption) | exact ML_9 (by assumption) | exact ML_10 (by assumption) | exact ML_11 (by assumption) | exact ML_12 (by assumption) | exact ML_13 (by assumption) | exact ML_15 (by assumption) | exact ML_16 (by assumption) | exact ML_17 (by assumption) | exact ML_20 (by assumption) | exact ML_23 (by assumption) | exact ML_24 (by assumption) | exact ML_30 (by assumption) | exact ML_31 (by assumption) | exact ML_32 (by assumption) | exact ML_33 (by assumption) | exact ML_35 (by assumption) | exact ML_36 (by assumption) | exact ML_37 (by assumption) | exact ML_38 (by assumption) | exact ML_41 (by assumption) | exact ML_42 (by assumption) | exact ML_43 (by assumption) | exact ML_44 (by assumption) | exact ML_45 (by assumption) | rfl) ?_
        first | refine U_ifB_ne (tgt := 26) dX10_all_20 (by decide) (by with_reducible rfl) (fun c20 => ?_) (fun c20 => ?_) | refine U_if_ne (tgt := 26) dX10_all_20 (by decide) (by with_reducible rfl) (by omega) (fun c20 => ?_) (fun c20 => ?_) | refine V_if_ne (tgt := 26) dX10_all_20 (by decide) (fun c20 => ?_) (fun c20 => ?_)
        · skip
          refine V_aloadn0 dX10_all_26 ?_
          refine V_iloadn1 dX10_all_27 ?_
          refine V_callV1 (μ' := mX10_takes) dX10_all_28 okX10_takes lX10_146 rfl (by first | assumption | rfl) (by first | decide | omega) (Nat.le_of_ble_eq_true rfl) (Nat.le_of_ble_eq_true rfl) (by omega) ?_
          refine m_takes hs hR hWT hn5 hz (fun h1 hk1 hW1 hL1 hR1 hF1 => ?_)
          have hM1 := hR1.1
          dsimp only [gPush]
          refine V_aloadn0 dX10_all_31 ?_
          refine V_callV0 (μ' := mX10_findAll) dX10_all_32 okX10_findAll lX10_239 rfl (by first | assumption | rfl) (by first | decide | omega) (Nat.le_of_ble_eq_true rfl) (Nat.le_of_ble_eq_true rfl) (by omega) ?_
          refine m_findAll (by omega) hn2 hn5 hM1 hR1.2.1.1 hW1 hlt (fun h2 Cs hJ2 hset g18 hF2 => ?_)
          have hR2 := RM_X hR1 hF2
          have f34 : gI h2 94 34 = nI (cF (famB S.1.1 (S.1.2.2.1 s).2.1) 15680) := by rw [hJ2.1.2.1, cnt Cs hJ2.2.1 hset]
          have hSe : SeI h2 (famB S.1.1 (S.1.2.2.1 s).2.1) := fun k hk b hb => by
            rw [hJ2.1.1 k hk b hb]
            cases hq : famB S.1.1 (S.1.2.2.1 s).2.1 (32 * k + b) with
            | true => exact decide_eq_true ((hset _).mpr hq)
            | false => exact decide_eq_false (fun z => by rw [(hset _).mp z] at hq; cases hq)
          dsimp only [gPush]
          refine V_iloadn2 dX10_all_35 ?_
          refine V_if_ge (tgt := 44) dX10_all_36 (by decide) (fun c36 => ?_) (fun c36 => ?_)
          · skip
            refine V_iloadn2 dX10_all_44 ?_
            refine V_istoren3 dX10_all_45 (by decide) rfl ?_
            refine V_iconst (v := nI 0) dX10_all_46 (by decide) ?_
            refine V_istorew4 dX10_all_47 (by decide) rfl ?_
            by_cases hpl : p < cF (famB S.1.1 (S.1.2.2.1 s).2.1) 15680
            · exact loop 15648 0 p h2 rfl rfl hpl hSe f34 g18 hR2 (hF1.tr hF2)
            · refine V_iloadw4 dX10_all_49 ?_
              refine V_sipush (v := nI 15648) dX10_all_51 (by decide) ?_
              refine U_icmp_ge (tgt := 111) dX10_all_54 (by decide) (by with_reducible rfl) (by with_reducible rfl) (by omega) (by omega) (fun c54 => by omega) (fun c54 => ?_)
              refine V_iloadn2 dX10_all_57 ?_
              refine V_aloadn0 dX10_all_58 ?_
              refine V_getI dX10_all_59 fX10_230 (Or.inl rfl) rfl (by decide) f34 ?_
              refine U_icmp_ge (tgt := 111) dX10_all_62 (by decide) (by with_reducible rfl) (by with_reducible rfl) (by omega) (by omega) (fun c62 => ?_) (fun c62 => by omega)
              exact none h2 _ _ (by omega) hR2 (hF1.tr hF2)
          · skip
            exact absurd (nI_pos' hp) c36
        · skip
          omega
      · skip
        exact absurd hi c9
  · have hQ9 := hQ h hR FrD.rf
    have eq0 : g_all S x i = -1 := if_neg hg
    rw [eq0] at hQ9
    refine V_iloadn1 dX10_all_0 ?_
    refine V_callS1 (μ' := mX10_isSlot) dX10_all_1 okX10_isSlot lX10_114 (Nat.le_of_ble_eq_true rfl) (Nat.le_of_ble_eq_true rfl) (by omega) ?_
    refine m_isSlot (by omega) ?_
    dsimp only [gPush]
    first | refine U_ifB_eq (tgt := 12) dX10_all_4 (by decide) (by with_reducible rfl) (fun c4 => ?_) (fun c4 => ?_) | refine U_if_eq (tgt := 12) dX10_all_4 (by decide) (by with_reducible rfl) (by omega) (fun c4 => ?_) (fun c4 => ?_) | refine V_if_eq (tgt := 12) dX10_all_4 (by decide) (fun c4 => ?_) (fun c4 => ?_)
    · skip
      refine V_iconst (v := -1) dX10_all_12 (by decide) ?_
      refine V_iret dX10_all_13 rfl rfl ?_
      exact hQ9
    · skip
      refine V_iloadn2 dX10_all_7 ?_
      refine V_iconst (v := -1) dX10_all_8 (by decide) ?_
      first | refine U_icmp_ge (tgt := 14) dX10_all_9 (by decide) (by with_reducible rfl) (by with_reducible rfl) (by omega) (by omega) (fun c9 => ?_) (fun c9 => ?_) | refine V_icmp_ge (tgt := 14) dX10_all_9 (by decide) (fun c9 => ?_) (fun c9 => ?_)
      · skip
        exact absurd (by rw [c4, decide_eq_true c9]; rfl) hg
      · skip
        refine V_iconst (v := -1) dX10_all_12 (by decide) ?_
        refine V_iret dX10_all_13 rfl rfl ?_
        exact hQ9

set_option maxRecDepth 100000 in
set_option maxHeartbeats 4000000 in
theorem m_stands {x : Int32} (hd : 3 ≤ d) (hR : RM h S) (hWG : WG S) (hQ : ∀ h', RM h' S → FrD h h' → Q (some (.int (g_stands S x))) h') : V Γ mX10_stands d 124 124 h 0 [some (.ref 94), some (.int x), none, none, none] [] Q := by
  obtain ⟨hM, ⟨r0, r1, rT, rW⟩, rK, rK2, rB, rS⟩ := id hR
  obtain ⟨hWS, hWK, hWB, hWX⟩ := id hWG
  have hn2 := hWS.1
  have hn5 := hWS.2.1
  cases hg : inB x 6 with
  | false =>
    have hQ9 := hQ h hR FrD.rf
    have eq0 : g_stands S x = -1 := if_f hg
    rw [eq0] at hQ9
    refine V_iloadn1 dX10_stands_0 ?_
    refine V_callS1 (μ' := mX10_isSlot) dX10_stands_1 okX10_isSlot lX10_114 (Nat.le_of_ble_eq_true rfl) (Nat.le_of_ble_eq_true rfl) (by omega) ?_
    refine m_isSlot (by omega) ?_
    rw [hg]
    dsimp only [gPush]
    first | refine U_ifB_ne (tgt := 9) dX10_stands_4 (by decide) (by with_reducible rfl) (fun c4 => ?_) (fun c4 => ?_) | refine U_if_ne (tgt := 9) dX10_stands_4 (by decide) (by with_reducible rfl) (by omega) (fun c4 => ?_) (fun c4 => ?_) | refine V_if_ne (tgt := 9) dX10_stands_4 (by decide) (fun c4 => ?_) (fun c4 => ?_)
    · skip
      cases c4
    · skip
      refine V_iconst (v := -1) dX10_stands_7 (by decide) ?_
      refine V_iret dX10_stands_8 rfl rfl ?_
      exact hQ9
  | true =>
    obtain ⟨s, hs, rfl⟩ := inB_t (by decide) hg
    have hWT := hWS.2.2.1 s hs
    obtain ⟨t0, tz⟩ := rT s hs
    have kd2 := hWT.1
    have hwl := hWT.2.1
    have hlt := hWT.2.2.1
    have eS : tS S (nI s) = S.1.2.2.1 s := by unfold tS; rw [cN_nI (by omega)]
    have eq0 : g_stands S (nI s) = _ := if_t hg
    rw [eq0, eS] at hQ
    have hc5 := lt_code5 hn5 hwl (cdF_lt (by omega) hlt _ (Nat.le_refl _))
    generalize hcc : cdF S.1.1 (S.1.2.2.1 s).2.1 (S.1.2.2.1 s).2.1.length = c at hc5 hQ
    have loop : ∀ f k h1 Cs, k + f = Cs.length → (S.1.2.2.1 s).1 ≠ 0 → FaK h1 S.1.1 (S.1.2.2.1 s).2.1 Cs → (∀ x, x ∈ Cs ↔ famB S.1.1 (S.1.2.2.1 s).2.1 x = true) → RM h1 S → FrX h h1 → V Γ mX10_stands d 124 124 h1 40 [some (.ref 94), some (.int (nI s)), some (.int (nI c)), some (.int (nI ((Cs.take k).filter (fun x => decide (x < c))).length)), some (.int (nI k))] [] Q := by
      intro f
      induction f with
      | zero =>
        intro k h1 Cs hk hz hJ hset hR1 hF1
        have f34 := hJ.1.2.1
        have hlen : Cs.length ≤ 500 := fam_le hn2 hn5 hwl hJ.2.1 hJ.2.2
        have ek : k = Cs.length := by omega
        have e : ((Cs.take k).filter (fun x => decide (x < c))).length = cF (famB S.1.1 (S.1.2.2.1 s).2.1) c := by
          rw [ek, List.take_length, cF_len]
          apply Nat.le_antisymm
          · refine List.Nodup.length_le_of_subset (List.Pairwise.filter _ hJ.2.1) (fun x hx => ?_)
            obtain ⟨a, b⟩ := List.mem_filter.mp hx
            exact List.mem_filter.mpr ⟨List.mem_range.mpr (of_decide_eq_true b), (hset x).mp a⟩
          · refine List.Nodup.length_le_of_subset (List.Pairwise.filter _ List.nodup_range) (fun x hx => ?_)
            obtain ⟨a, b⟩ := List.mem_filter.mp hx
            exact List.mem_filter.mpr ⟨(hset x).mpr b, decide_eq_true (List.mem_range.mp a)⟩
        rw [if_neg hz] at hQ
        have hQ9 := hQ h1 hR1 hF1.D
        rw [e]
        refine V_iloadw4 dX10_stands_40 ?_
        refine V_aloadn0 dX10_stands_42 ?_
        refine V_getI dX10_stands_43 fX10_230 (Or.inl rfl) (by first | assumption | rfl) (by first | decide | omega) (by first | assumption | exact ML_4 (by assumption) | exact ML_5 (by assumption) | exact ML_6 (by assumption) | exact ML_7 (by assumption) | exact ML_8 (by assumption) | exact ML_9 (by assumption) | exact ML_10 (by assumption) | exact ML_11 (by assumption) | exact ML_12 (by assumption) | exact ML_13 (by assumption) | exact ML_15 (by assumption) | exact ML_16 (by assumption) | exact ML_17 (by assumption) | exact ML_20 (by assumption) | exact ML_23 (by assumption) | exact ML_24 (by assumption) | exact ML_30 (by assumption) | exact ML_31 (by assumption) | exact ML_32 (by assumption) | exact ML_33 (by assumption) | exact ML_35 (by assumption) | exact ML_36 (by assumption) | exact ML_37 (by assumption) | exact ML_38 (by assumption) | exact ML_41 (by assumption) | exact ML_42 (by assumption) | exact ML_43 (by assumption) | exact ML_44 (by assumption) | exact ML_45 (by assumption) | rfl) ?_
        first | refine U_icmp_ge (tgt := 74) dX10_stands_46 (by decide) (by with_reducible rfl) (by with_reducible rfl) (by omega) (by omega) (fun c46 => ?_) (fun c46 => ?_) | refine V_icmp_ge (tgt := 74) dX10_stands_46 (by decide) (fun c46 => ?_) (fun c46 => ?_)
        · skip
          refine V_iloadn3 dX10_stands_74 ?_
          refine V_iret dX10_stands_75 rfl rfl ?_
          exact hQ9
        · skip
          omega
      | succ f ih =>
        intro k h1 Cs hk hz hJ hset hR1 hF1
        have hM1 := hR1.1
        have f34 := hJ.1.2.1
        have hlen : Cs.length ≤ 500 := fam_le hn2 hn5 hwl hJ.2.1 hJ.2.2
        have gk := hJ.1.2.2 k (by omega)
        have hmem : Cs.getD k 0 ∈ Cs := by
          rw [List.getD_eq_getElem?_getD, List.getElem?_eq_getElem (by omega : k < Cs.length)]
          exact List.getElem_mem _
        have hlt2 := lt_code5 hn5 hwl (famB_lt (hJ.2.2 _ hmem))
        have et : Cs.take (k + 1) = Cs.take k ++ [Cs.getD k 0] := by
          rw [List.take_succ, List.getD_eq_getElem?_getD, List.getElem?_eq_getElem (by omega : k < Cs.length)]
          rfl
        have e1 : Cs.getD k 0 < c → ((Cs.take k).filter (fun x => decide (x < c))).length + 1 = ((Cs.take (k + 1)).filter (fun x => decide (x < c))).length := fun q => by rw [et, List.filter_append, List.length_append]; simp only [List.filter_cons, decide_eq_true q]; rfl
        have e2 : ¬ Cs.getD k 0 < c → ((Cs.take k).filter (fun x => decide (x < c))).length + 0 = ((Cs.take (k + 1)).filter (fun x => decide (x < c))).length := fun q => by rw [et, List.filter_append, List.length_append]; simp only [List.filter_cons, decide_eq_false q]; rfl
        refine V_iloadw4 dX10_stands_40 ?_
        refine V_aloadn0 dX10_stands_42 ?_
        refine V_getI dX10_stands_43 fX10_230 (Or.inl rfl) (by first | assumption | rfl) (by first | decide | omega) (by first | assumption | exact ML_4 (by assumption) | exact ML_5 (by assumption) | exact ML_6 (by assumption) | exact ML_7 (by assumption) | exact ML_8 (by assumption) | exact ML_9 (by assumption) | exact ML_10 (by assumption) | exact ML_11 (by assumption) | exact ML_12 (by assumption) | exact ML_13 (by assumption) | exact ML_15 (by assumption) | exact ML_16 (by assumption) | exact ML_17 (by assumption) | exact ML_20 (by assumption) | exact ML_23 (by assumption) | exact ML_24 (by assumption) | exact ML_30 (by assumption) | exact ML_31 (by assumption) | exact ML_32 (by assumption) | exact ML_33 (by assumption) | exact ML_35 (by assumption) | exact ML_36 (by assumption) | exact ML_37 (by assumption) | exact ML_38 (by assumption) | exact ML_41 (by assumption) | exact ML_42 (by assumption) | exact ML_43 (by assumption) | exact ML_44 (by assumption) | exact ML_45 (by assumption) | rfl) ?_
        first | refine U_icmp_ge (tgt := 74) dX10_stands_46 (by decide) (by with_reducible rfl) (by with_reducible rfl) (by omega) (by omega) (fun c46 => ?_) (fun c46 => ?_) | refine V_icmp_ge (tgt := 74) dX10_stands_46 (by decide) (fun c46 => ?_) (fun c46 => ?_)
        · skip
          omega
        · skip
          refine V_iloadn3 dX10_stands_49 ?_
          refine V_aloadn0 dX10_stands_50 ?_
          refine V_getR dX10_stands_51 fX10_74 (by first | assumption | rfl) (by first | decide | omega) (by first | assumption | exact ML_4 (by assumption) | exact ML_5 (by assumption) | exact ML_6 (by assumption) | exact ML_7 (by assumption) | exact ML_8 (by assumption) | exact ML_9 (by assumption) | exact ML_10 (by assumption) | exact ML_11 (by assumption) | exact ML_12 (by assumption) | exact ML_13 (by assumption) | exact ML_15 (by assumption) | exact ML_16 (by assumption) | exact ML_17 (by assumption) | exact ML_20 (by assumption) | exact ML_23 (by assumption) | exact ML_24 (by assumption) | exact ML_30 (by assumption) | exact ML_31 (by assumption) | exact ML_32 (by assumption) | exact ML_33 (by assumption) | exact ML_35 (by assumption) | exact ML_36 (by assumption) | exact ML_37 (by assumption) | exact ML_38 (by assumption) | exact ML_41 (by assumption) | exact ML_42 (by assumption) | exact ML_43 (by assumption) | exact ML_44 (by assumption) | exact ML_45 (by assumption) | rfl) ?_
          refine V_iloadw4 dX10_stands_54 ?_
          refine U_iald dX10_stands_56 (by with_reducible rfl) (by first | assumption | rfl) (by first | decide | omega) (by omega) (by first | assumption | exact ML_4 (by assumption) | exact ML_5 (by assumption) | exact ML_6 (by assumption) | exact ML_7 (by assumption) | exact ML_8 (by assumption) | exact ML_9 (by assumption) | exact ML_10 (by assumption) | exact ML_11 (by assumption) | exact ML_12 (by assumption) | exact ML_13 (by assumption) | exact ML_15 (by assumption) | exact ML_16 (by assumption) | exact ML_17 (by assumption) | exact ML_20 (by assumption) | exact ML_23 (by assumption) | exact ML_24 (by assumption) | exact ML_30 (by assumption) | exact ML_31 (by assumption) | exact ML_32 (by assumption) | exact ML_33 (by assumption) | exact ML_35 (by assumption) | exact ML_36 (by assumption) | exact ML_37 (by assumption) | exact ML_38 (by assumption) | exact ML_41 (by assumption) | exact ML_42 (by assumption) | exact ML_43 (by assumption) | exact ML_44 (by assumption) | exact ML_45 (by assumption) | rfl) ?_
          refine V_iloadn2 dX10_stands_57 ?_
          first | refine U_icmp_ge (tgt := 65) dX10_stands_58 (by decide) (by with_reducible rfl) (by with_reducible rfl) (by omega) (by omega) (fun c58 => ?_) (fun c58 => ?_) | refine V_icmp_ge (tgt := 65) dX10_stands_58 (by decide) (fun c58 => ?_) (fun c58 => ?_)
          · skip
            refine V_iconst (v := nI 0) dX10_stands_65 (by decide) ?_
            first | refine U_iadd dX10_stands_66 (by with_reducible rfl) (by with_reducible rfl) ?_ | refine V_iadd dX10_stands_66 ?_
            refine V_istoren3 dX10_stands_67 (by decide) rfl ?_
            refine V_iinc4 dX10_stands_68 (by first | exact ginc1 _ | rfl) (by decide) rfl ?_
            refine V_goto (tgt := 40) dX10_stands_71 (by decide) ?_
            first | rw [e2 (by omega)] | rw [e1 (by omega)]
            exact ih (k + 1) h1 Cs (by omega) hz hJ hset hR1 hF1
          · skip
            refine V_iconst (v := nI 1) dX10_stands_61 (by decide) ?_
            refine V_goto (tgt := 66) dX10_stands_62 (by decide) ?_
            first | refine U_iadd dX10_stands_66 (by with_reducible rfl) (by with_reducible rfl) ?_ | refine V_iadd dX10_stands_66 ?_
            refine V_istoren3 dX10_stands_67 (by decide) rfl ?_
            refine V_iinc4 dX10_stands_68 (by first | exact ginc1 _ | rfl) (by decide) rfl ?_
            refine V_goto (tgt := 40) dX10_stands_71 (by decide) ?_
            first | rw [e2 (by omega)] | rw [e1 (by omega)]
            exact ih (k + 1) h1 Cs (by omega) hz hJ hset hR1 hF1
    refine V_iloadn1 dX10_stands_0 ?_
    refine V_callS1 (μ' := mX10_isSlot) dX10_stands_1 okX10_isSlot lX10_114 (Nat.le_of_ble_eq_true rfl) (Nat.le_of_ble_eq_true rfl) (by omega) ?_
    refine m_isSlot (by omega) ?_
    rw [hg]
    dsimp only [gPush]
    first | refine U_ifB_ne (tgt := 9) dX10_stands_4 (by decide) (by with_reducible rfl) (fun c4 => ?_) (fun c4 => ?_) | refine U_if_ne (tgt := 9) dX10_stands_4 (by decide) (by with_reducible rfl) (by omega) (fun c4 => ?_) (fun c4 => ?_) | refine V_if_ne (tgt := 9) dX10_stands_4 (by decide) (fun c4 => ?_) (fun c4 => ?_)
    · skip
      refine V_aloadn0 dX10_stands_9 ?_
      refine V_getR dX10_stands_10 fX10_16 (by first | assumption | rfl) (by first | decide | omega) (by first | assumption | exact ML_4 (by assumption) | exact ML_5 (by assumption) | exact ML_6 (by assumption) | exact ML_7 (by assumption) | exact ML_8 (by assumption) | exact ML_9 (by assumption) | exact ML_10 (by assumption) | exact ML_11 (by assumption) | exact ML_12 (by assumption) | exact ML_13 (by assumption) | exact ML_15 (by assumption) | exact ML_16 (by assumption) | exact ML_17 (by assumption) | exact ML_20 (by assumption) | exact ML_23 (by assumption) | exact ML_24 (by assumption) | exact ML_30 (by assumption) | exact ML_31 (by assumption) | exact ML_32 (by assumption) | exact ML_33 (by assumption) | exact ML_35 (by assumption) | exact ML_36 (by assumption) | exact ML_37 (by assumption) | exact ML_38 (by assumption) | exact ML_41 (by assumption) | exact ML_42 (by assumption) | exact ML_43 (by assumption) | exact ML_44 (by assumption) | exact ML_45 (by assumption) | rfl) ?_
      refine V_iloadn1 dX10_stands_13 ?_
      refine U_iald dX10_stands_14 (by with_reducible rfl) (by first | assumption | rfl) (by first | decide | omega) (by omega) (by first | assumption | exact ML_4 (by assumption) | exact ML_5 (by assumption) | exact ML_6 (by assumption) | exact ML_7 (by assumption) | exact ML_8 (by assumption) | exact ML_9 (by assumption) | exact ML_10 (by assumption) | exact ML_11 (by assumption) | exact ML_12 (by assumption) | exact ML_13 (by assumption) | exact ML_15 (by assumption) | exact ML_16 (by assumption) | exact ML_17 (by assumption) | exact ML_20 (by assumption) | exact ML_23 (by assumption) | exact ML_24 (by assumption) | exact ML_30 (by assumption) | exact ML_31 (by assumption) | exact ML_32 (by assumption) | exact ML_33 (by assumption) | exact ML_35 (by assumption) | exact ML_36 (by assumption) | exact ML_37 (by assumption) | exact ML_38 (by assumption) | exact ML_41 (by assumption) | exact ML_42 (by assumption) | exact ML_43 (by assumption) | exact ML_44 (by assumption) | exact ML_45 (by assumption) | rfl) ?_
      first | refine U_ifB_ne (tgt := 21) dX10_stands_15 (by decide) (by with_reducible rfl) (fun c15 => ?_) (fun c15 => ?_) | refine U_if_ne (tgt := 21) dX10_stands_15 (by decide) (by with_reducible rfl) (by omega) (fun c15 => ?_) (fun c15 => ?_) | refine V_if_ne (tgt := 21) dX10_stands_15 (by decide) (fun c15 => ?_) (fun c15 => ?_)
      · skip
        refine V_aloadn0 dX10_stands_21 ?_
        refine V_iloadn1 dX10_stands_22 ?_
        refine V_callV1 (μ' := mX10_takes) dX10_stands_23 okX10_takes lX10_146 rfl (by first | assumption | rfl) (by first | decide | omega) (Nat.le_of_ble_eq_true rfl) (Nat.le_of_ble_eq_true rfl) (by omega) ?_
        refine m_takes hs hR hWT hn5 c15 (fun h1 hk1 hW1 hL1 hR1 hF1 => ?_)
        have hM1 := hR1.1
        dsimp only [gPush]
        refine V_aloadn0 dX10_stands_26 ?_
        refine V_callV0 (μ' := mX10_code) dX10_stands_27 okX10_code lX10_227 rfl (by first | assumption | rfl) (by first | decide | omega) (Nat.le_of_ble_eq_true rfl) (Nat.le_of_ble_eq_true rfl) (by omega) ?_
        refine m_code hM1 hR1.2.1.1 hW1 (fun p hp => (hlt p hp).1) ?_
        rw [hcc]
        dsimp only [gPush]
        refine V_istoren2 dX10_stands_30 (by decide) rfl ?_
        refine V_aloadn0 dX10_stands_31 ?_
        refine V_callV0 (μ' := mX10_findAll) dX10_stands_32 okX10_findAll lX10_239 rfl (by first | assumption | rfl) (by first | decide | omega) (Nat.le_of_ble_eq_true rfl) (Nat.le_of_ble_eq_true rfl) (by omega) ?_
        refine m_findAll (by omega) hn2 hn5 hM1 hR1.2.1.1 hW1 hlt (fun h2 Cs hJ2 hset g18 hF2 => ?_)
        have hR2 := RM_X hR1 hF2
        dsimp only [gPush]
        refine V_iconst (v := nI 0) dX10_stands_35 (by decide) ?_
        refine V_istoren3 dX10_stands_36 (by decide) rfl ?_
        refine V_iconst (v := nI 0) dX10_stands_37 (by decide) ?_
        refine V_istorew4 dX10_stands_38 (by decide) rfl ?_
        exact loop _ 0 h2 Cs (Nat.zero_add _) c15 hJ2 hset hR2 (hF1.tr hF2)
      · skip
        rw [if_pos c15] at hQ
        have hQ9 := hQ h hR FrD.rf
        refine V_bipush (v := -11) dX10_stands_18 (by decide) ?_
        refine V_iret dX10_stands_20 rfl rfl ?_
        exact hQ9
    · skip
      cases c4

end C70
