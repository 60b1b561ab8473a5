/-! ===== the reference: acts ===== -/
theorem numF_lt {w : List Nat} (h : ∀ p, w.getD p 0 ≤ 9) : ∀ k, numF w 0 k < 10 ^ k
  | 0 => by simp [numF]
  | k + 1 => by
    have ih := numF_lt h k
    have := h (0 + k)
    rw [numF, Nat.pow_succ]
    omega
theorem numF_b {w : List Nat} (h : ∀ p, w.getD p 0 ≤ 9) (hl : w.length ≤ 6) : numF w 0 w.length < 1000000 := by
  have h1 := numF_lt h w.length
  have h2 : 10 ^ w.length ≤ 10 ^ 6 := Nat.pow_le_pow_right (by decide) hl
  omega
theorem numF_inj {w w' : List Nat} (h : ∀ p, w.getD p 0 ≤ 9) (h' : ∀ p, w'.getD p 0 ≤ 9) : ∀ k, numF w 0 k = numF w' 0 k → ∀ p, p < k → w.getD p 0 = w'.getD p 0
  | 0, _, p, hp => absurd hp (Nat.not_lt_zero _)
  | k + 1, e, p, hp => by
    rw [numF, numF, Nat.zero_add] at e
    have h1 := h k
    have h2 := h' k
    by_cases ep : p = k
    · subst ep; omega
    · exact numF_inj h h' k (by omega) p (by omega)
theorem num_inj {w w' : List Nat} (hl : w.length = w'.length) (h : ∀ p, w.getD p 0 ≤ 9) (h' : ∀ p, w'.getD p 0 ≤ 9) : numF w 0 w.length = numF w' 0 w'.length ↔ w = w' := by
  constructor
  · intro e
    rw [← hl] at e
    exact list_ext0 hl (numF_inj h h' w.length e)
  · intro e; rw [e]
theorem rIt_high {w : List Nat} {i : Nat} (hl : w.length ≤ 6) (hi : 1 ≤ i) : ∀ k, k ≤ highC w i → highC (rIt w i k) i = highC w i - k ∧ (rIt w i k).length = w.length
  | 0, _ => ⟨rfl, rfl⟩
  | k + 1, hk => by
    obtain ⟨h1, h2⟩ := rIt_high hl hi k (by omega)
    have hf : fhC (rIt w i k) i ≠ 0 := fun q => by have := (fhC_z (rIt w i k) i).mpr q; omega
    have h3 := (fh_facts (w := rIt w i k) (by omega) hi hf).2.2.1
    refine ⟨?_, by rw [rIt, raiseW_len, h2]⟩
    rw [rIt]
    omega
theorem lIt_low {w : List Nat} {i : Nat} (hl : w.length ≤ 6) (hi : 1 ≤ i) : ∀ k, k ≤ lowC w i → lowC (lIt w i k) i = lowC w i - k ∧ (lIt w i k).length = w.length
  | 0, _ => ⟨rfl, rfl⟩
  | k + 1, hk => by
    obtain ⟨h1, h2⟩ := lIt_low hl hi k (by omega)
    have hf : llC (lIt w i k) i ≠ 0 := fun q => by have := (llC_z (lIt w i k) i).mpr q; omega
    have h3 := (ll_facts (w := lIt w i k) (by omega) hi hf).2.2.2.1
    refine ⟨?_, by rw [lIt, lowerW_len, h2]⟩
    rw [lIt]
    omega
theorem neg_le {m k : Nat} (hm : m < 2 ^ 31) (hk : k < 2 ^ 31) : -(nI m) ≤ nI k := by
  rw [Int32.le_iff_toInt_le, nI_toInt hk]
  have h1 : (nI m).toInt = (m : Int) := nI_toInt hm
  have h2 : (-(nI m)).toInt = -(m : Int) := by
    rw [Int32.toInt_neg, h1]
    apply Int.bmod_eq_of_le <;> omega
  rw [h2]
  omega
theorem sub_neg' {a b : Nat} (h : a ≤ b) : nI a - nI b = -(nI (b - a)) := by
  rw [← pk_sub h, Int32.neg_sub]
/-- whether the reference says that an act could be done -/
def acB (act : Nat) (w : List Nat) (i : Nat) : Bool := if act = 0 then decide (fhC w i ≠ 0) else if act = 1 then decide (llC w i ≠ 0) else true
theorem SH_map {h : gH} {P : List (List Nat)} (hC : CG h P) : SH h (P.map List.length) := ⟨fun k hk => by rw [getD_maplen]; exact hC.1 k hk, fun k => by rw [getD_maplen]; exact CG_row6 hC k⟩
section C66
variable {Γ : gM} {d : Nat} {h : gH} {Q : Option Value → gH → Prop} {S : GS}
set_option maxRecDepth 100000 in
set_option maxHeartbeats 4000000 in
theorem m_turns {n kd : Nat} {w L : List Nat} (hd : 2 ≤ d) (hn5 : n ≤ 5) (hM : MLay h) (r0 : gI h 94 0 = nI n) (hkd : gI h 94 19 = nI kd) (hk2 : kd ≤ 2) (hW : WW h w) (hw : LtW n w) (hL : kd ≠ 2 → SH h L) (hQ : ∀ h', gI h' 94 19 = nI kd → WW h' (turnW kd w L n).1 → SH h' (turnW kd w L n).2 → FrX h h' → Q none h') : V Γ mX10_turns d 124 124 h 0 [some (.ref 94), none] [] Q := by
  obtain ⟨w0, w1, w6, w9⟩ := id hW
  have tl := twF_len w n
  have t9 : ∀ p, (twF w n).getD p 0 ≤ 9 := fun p => by
    by_cases c : p < w.length
    · rw [twF_get c]; omega
    · rw [getD_out (by omega)]; decide
  have fin : ∀ h1 x1, WW h1 (twF w n) → gI h1 94 19 = nI kd → (kd ≠ 2 → SH h1 L) → FrX h h1 → V Γ mX10_turns d 124 124 h1 70 [some (.ref 94), x1] [] Q := by
    intro h1 x1 hW1 hk1 hL1 hF
    have hM1 := MLay_eq hM hF.2.2.2
    refine V_aloadn0 dX10_turns_70 ?_
    refine V_getI dX10_turns_71 fX10_108 (Or.inl rfl) (by first | assumption | rfl) (by first | decide | omega) (by first | assumption | exact ML_4 (by assumption) | exact ML_5 (by assumption) | exact ML_6 (by assumption) | exact ML_7 (by assumption) | exact ML_8 (by assumption) | exact ML_9 (by assumption) | exact ML_10 (by assumption) | exact ML_11 (by assumption) | exact ML_12 (by assumption) | exact ML_13 (by assumption) | exact ML_15 (by assumption) | exact ML_16 (by assumption) | exact ML_17 (by assumption) | exact ML_20 (by assumption) | exact ML_23 (by assumption) | exact ML_24 (by assumption) | exact ML_30 (by assumption) | exact ML_31 (by assumption) | exact ML_32 (by assumption) | exact ML_33 (by assumption) | exact ML_35 (by assumption) | exact ML_36 (by assumption) | exact ML_37 (by assumption) | exact ML_38 (by assumption) | exact ML_41 (by assumption) | exact ML_42 (by assumption) | exact ML_43 (by assumption) | exact ML_44 (by assumption) | exact ML_45 (by assumption) | rfl) ?_
    refine V_iconst (v := nI 2) dX10_turns_74 (by decide) ?_
    first | refine U_icmp_ne (tgt := 82) dX10_turns_75 (by decide) (by with_reducible rfl) (by with_reducible rfl) (by omega) (by omega) (fun c75 => ?_) (fun c75 => ?_) | refine V_icmp_ne (tgt := 82) dX10_turns_75 (by decide) (fun c75 => ?_) (fun c75 => ?_)
    · skip
      have e : turnW kd w L n = (twF w n, L) := by unfold turnW; rw [if_neg c75]
      rw [e] at hQ
      have hQ9 := hQ h1 hk1 hW1 (hL1 c75) hF
      refine V_ret dX10_turns_82 rfl ?_
      exact hQ9
    · skip
      have e : turnW kd w L n = (rdL (insW (twF w n) w.length), (insW (twF w n) w.length).map List.length) := by unfold turnW; rw [if_pos c75]
      rw [e] at hQ
      refine V_aloadn0 dX10_turns_78 ?_
      refine V_callV0 (μ' := mX10_inserts) dX10_turns_79 okX10_inserts lX10_176 rfl (by first | assumption | rfl) (by first | decide | omega) (Nat.le_of_ble_eq_true rfl) (Nat.le_of_ble_eq_true rfl) (by omega) ?_
      refine m_inserts (by omega) hM1 hW1 (fun h2 hW2 hk2' hC2 hT2 hF2 => ?_)
      rw [tl] at hW2 hC2
      have hQ9 := hQ h2 (by rw [hk2', c75]) hW2 (SH_map hC2) (hF.tr hF2)
      dsimp only [gPush]
      refine V_ret dX10_turns_82 rfl ?_
      exact hQ9
  have loop2 : ∀ f k h1, k + f = w.length → gI h1 94 18 = nI w.length → (∀ j, j < w.length → gI h1 107 j = nI ((twF w n).getD j 0)) → (∀ j, j < k → gI h1 105 j = nI ((twF w n).getD j 0)) → gI h1 94 19 = nI kd → (kd ≠ 2 → SH h1 L) → FrX h h1 → V Γ mX10_turns d 124 124 h1 44 [some (.ref 94), some (.int (nI k))] [] Q := by
    intro f
    induction f with
    | zero =>
      intro k h1 hk g18 g107 g105 g19 hL1 hF
      have hM1 := MLay_eq hM hF.2.2.2
      refine V_iloadn1 dX10_turns_44 ?_
      refine V_aloadn0 dX10_turns_45 ?_
      refine V_getI dX10_turns_46 fX10_111 (Or.inl rfl) (by first | assumption | rfl) (by first | decide | omega) (by first | assumption | exact ML_4 (by assumption) | exact ML_5 (by assumption) | exact ML_6 (by assumption) | exact ML_7 (by assumption) | exact ML_8 (by assumption) | exact ML_9 (by assumption) | exact ML_10 (by assumption) | exact ML_11 (by assumption) | exact ML_12 (by assumption) | exact ML_13 (by assumption) | exact ML_15 (by assumption) | exact ML_16 (by assumption) | exact ML_17 (by assumption) | exact ML_20 (by assumption) | exact ML_23 (by assumption) | exact ML_24 (by assumption) | exact ML_30 (by assumption) | exact ML_31 (by assumption) | exact ML_32 (by assumption) | exact ML_33 (by assumption) | exact ML_35 (by assumption) | exact ML_36 (by assumption) | exact ML_37 (by assumption) | exact ML_38 (by assumption) | exact ML_41 (by assumption) | exact ML_42 (by assumption) | exact ML_43 (by assumption) | exact ML_44 (by assumption) | exact ML_45 (by assumption) | rfl) ?_
      first | refine U_icmp_ge (tgt := 70) dX10_turns_49 (by decide) (by with_reducible rfl) (by with_reducible rfl) (by omega) (by omega) (fun c49 => ?_) (fun c49 => ?_) | refine V_icmp_ge (tgt := 70) dX10_turns_49 (by decide) (fun c49 => ?_) (fun c49 => ?_)
      · skip
        exact fin h1 _ ⟨by rw [tl]; exact g18, fun j hj => g105 j (by omega), by omega, t9⟩ g19 hL1 hF
      · skip
        omega
    | succ f ih =>
      intro k h1 hk g18 g107 g105 g19 hL1 hF
      have hM1 := MLay_eq hM hF.2.2.2
      refine V_iloadn1 dX10_turns_44 ?_
      refine V_aloadn0 dX10_turns_45 ?_
      refine V_getI dX10_turns_46 fX10_111 (Or.inl rfl) (by first | assumption | rfl) (by first | decide | omega) (by first | assumption | exact g107 _ (by omega) | exact ML_4 (by assumption) | exact ML_5 (by assumption) | exact ML_6 (by assumption) | exact ML_7 (by assumption) | exact ML_8 (by assumption) | exact ML_9 (by assumption) | exact ML_10 (by assumption) | exact ML_11 (by assumption) | exact ML_12 (by assumption) | exact ML_13 (by assumption) | exact ML_15 (by assumption) | exact ML_16 (by assumption) | exact ML_17 (by assumption) | exact ML_20 (by assumption) | exact ML_23 (by assumption) | exact ML_24 (by assumption) | exact ML_30 (by assumption) | exact ML_31 (by assumption) | exact ML_32 (by assumption) | exact ML_33 (by assumption) | exact ML_35 (by assumption) | exact ML_36 (by assumption) | exact ML_37 (by assumption) | exact ML_38 (by assumption) | exact ML_41 (by assumption) | exact ML_42 (by assumption) | exact ML_43 (by assumption) | exact ML_44 (by assumption) | exact ML_45 (by assumption) | rfl) ?_
      first | refine U_icmp_ge (tgt := 70) dX10_turns_49 (by decide) (by with_reducible rfl) (by with_reducible rfl) (by omega) (by omega) (fun c49 => ?_) (fun c49 => ?_) | refine V_icmp_ge (tgt := 70) dX10_turns_49 (by decide) (fun c49 => ?_) (fun c49 => ?_)
      · skip
        omega
      · skip
        refine V_aloadn0 dX10_turns_52 ?_
        refine V_getR dX10_turns_53 fX10_47 (by first | assumption | rfl) (by first | decide | omega) (by first | assumption | exact g107 _ (by omega) | exact ML_4 (by assumption) | exact ML_5 (by assumption) | exact ML_6 (by assumption) | exact ML_7 (by assumption) | exact ML_8 (by assumption) | exact ML_9 (by assumption) | exact ML_10 (by assumption) | exact ML_11 (by assumption) | exact ML_12 (by assumption) | exact ML_13 (by assumption) | exact ML_15 (by assumption) | exact ML_16 (by assumption) | exact ML_17 (by assumption) | exact ML_20 (by assumption) | exact ML_23 (by assumption) | exact ML_24 (by assumption) | exact ML_30 (by assumption) | exact ML_31 (by assumption) | exact ML_32 (by assumption) | exact ML_33 (by assumption) | exact ML_35 (by assumption) | exact ML_36 (by assumption) | exact ML_37 (by assumption) | exact ML_38 (by assumption) | exact ML_41 (by assumption) | exact ML_42 (by assumption) | exact ML_43 (by assumption) | exact ML_44 (by assumption) | exact ML_45 (by assumption) | rfl) ?_
        refine V_iloadn1 dX10_turns_56 ?_
        refine V_aloadn0 dX10_turns_57 ?_
        refine V_getR dX10_turns_58 fX10_53 (by first | assumption | rfl) (by first | decide | omega) (by first | assumption | exact g107 _ (by omega) | exact ML_4 (by assumption) | exact ML_5 (by assumption) | exact ML_6 (by assumption) | exact ML_7 (by assumption) | exact ML_8 (by assumption) | exact ML_9 (by assumption) | exact ML_10 (by assumption) | exact ML_11 (by assumption) | exact ML_12 (by assumption) | exact ML_13 (by assumption) | exact ML_15 (by assumption) | exact ML_16 (by assumption) | exact ML_17 (by assumption) | exact ML_20 (by assumption) | exact ML_23 (by assumption) | exact ML_24 (by assumption) | exact ML_30 (by assumption) | exact ML_31 (by assumption) | exact ML_32 (by assumption) | exact ML_33 (by assumption) | exact ML_35 (by assumption) | exact ML_36 (by assumption) | exact ML_37 (by assumption) | exact ML_38 (by assumption) | exact ML_41 (by assumption) | exact ML_42 (by assumption) | exact ML_43 (by assumption) | exact ML_44 (by assumption) | exact ML_45 (by assumption) | rfl) ?_
        refine V_iloadn1 dX10_turns_61 ?_
        refine U_iald dX10_turns_62 (by with_reducible rfl) (by first | assumption | rfl) (by first | decide | omega) (by omega) (by first | assumption | exact g107 _ (by omega) | exact ML_4 (by assumption) | exact ML_5 (by assumption) | exact ML_6 (by assumption) | exact ML_7 (by assumption) | exact ML_8 (by assumption) | exact ML_9 (by assumption) | exact ML_10 (by assumption) | exact ML_11 (by assumption) | exact ML_12 (by assumption) | exact ML_13 (by assumption) | exact ML_15 (by assumption) | exact ML_16 (by assumption) | exact ML_17 (by assumption) | exact ML_20 (by assumption) | exact ML_23 (by assumption) | exact ML_24 (by assumption) | exact ML_30 (by assumption) | exact ML_31 (by assumption) | exact ML_32 (by assumption) | exact ML_33 (by assumption) | exact ML_35 (by assumption) | exact ML_36 (by assumption) | exact ML_37 (by assumption) | exact ML_38 (by assumption) | exact ML_41 (by assumption) | exact ML_42 (by assumption) | exact ML_43 (by assumption) | exact ML_44 (by assumption) | exact ML_45 (by assumption) | rfl) ?_
        refine U_iast dX10_turns_63 (by with_reducible rfl) (by first | assumption | rfl) (by first | decide | omega) (by omega) ?_
        refine V_iinc1 dX10_turns_64 (by first | exact ginc1 _ | rfl) (by decide) rfl ?_
        refine V_goto (tgt := 44) dX10_turns_67 (by decide) ?_
        refine ih (k + 1) _ (by omega) (by rw [gI_sI, if_neg (by omega)]; exact g18) (fun j hj => by rw [gI_sI, if_neg (by omega)]; exact g107 j hj) (fun j hj => ?_) (by rw [gI_sI, if_neg (by omega)]; exact g19) (fun q => ⟨fun j hj => by rw [gI_sI, if_neg (by omega)]; exact (hL1 q).1 j hj, (hL1 q).2⟩) (frx_sI hF (by omega))
        rw [gI_sI]
        by_cases e : j = k
        · rw [if_pos ⟨rfl, e⟩, e]
        · rw [if_neg (fun z => e z.2)]; exact g105 j (by omega)
  have loop1 : ∀ f k h1, k + f = w.length → gI h1 94 18 = nI w.length → (∀ j, j < k → gI h1 107 j = nI ((twF w n).getD j 0)) → gI h1 105 = gI h 105 → gI h1 94 19 = nI kd → (kd ≠ 2 → SH h1 L) → FrX h h1 → V Γ mX10_turns d 124 124 h1 2 [some (.ref 94), some (.int (nI k))] [] Q := by
    intro f
    induction f with
    | zero =>
      intro k h1 hk g18 g107 g105 g19 hL1 hF
      have hM1 := MLay_eq hM hF.2.2.2
      refine V_iloadn1 dX10_turns_2 ?_
      refine V_aloadn0 dX10_turns_3 ?_
      refine V_getI dX10_turns_4 fX10_111 (Or.inl rfl) (by first | assumption | rfl) (by first | decide | omega) (by first | assumption | exact ML_4 (by assumption) | exact ML_5 (by assumption) | exact ML_6 (by assumption) | exact ML_7 (by assumption) | exact ML_8 (by assumption) | exact ML_9 (by assumption) | exact ML_10 (by assumption) | exact ML_11 (by assumption) | exact ML_12 (by assumption) | exact ML_13 (by assumption) | exact ML_15 (by assumption) | exact ML_16 (by assumption) | exact ML_17 (by assumption) | exact ML_20 (by assumption) | exact ML_23 (by assumption) | exact ML_24 (by assumption) | exact ML_30 (by assumption) | exact ML_31 (by assumption) | exact ML_32 (by assumption) | exact ML_33 (by assumption) | exact ML_35 (by assumption) | exact ML_36 (by assumption) | exact ML_37 (by assumption) | exact ML_38 (by assumption) | exact ML_41 (by assumption) | exact ML_42 (by assumption) | exact ML_43 (by assumption) | exact ML_44 (by assumption) | exact ML_45 (by assumption) | rfl) ?_
      first | refine U_icmp_ge (tgt := 42) dX10_turns_7 (by decide) (by with_reducible rfl) (by with_reducible rfl) (by omega) (by omega) (fun c7 => ?_) (fun c7 => ?_) | refine V_icmp_ge (tgt := 42) dX10_turns_7 (by decide) (fun c7 => ?_) (fun c7 => ?_)
      · skip
        refine V_iconst (v := nI 0) dX10_turns_42 (by decide) ?_
        refine V_istoren1 dX10_turns_43 (by decide) rfl ?_
        exact loop2 _ 0 h1 (Nat.zero_add _) g18 (fun j hj => g107 j (by omega)) (fun j hj => absurd hj (Nat.not_lt_zero _)) g19 hL1 hF
      · skip
        omega
    | succ f ih =>
      intro k h1 hk g18 g107 g105 g19 hL1 hF
      have hM1 := MLay_eq hM hF.2.2.2
      have n1 : gI h1 94 0 = nI n := by rw [hF.2.1 0 (by omega)]; exact r0
      have gw : gI h1 105 (w.length - 1 - k) = nI (w.getD (w.length - 1 - k) 0) := by rw [g105]; exact w1 _ (by omega)
      have hwk := hw (w.length - 1 - k) (by omega)
      refine V_iloadn1 dX10_turns_2 ?_
      refine V_aloadn0 dX10_turns_3 ?_
      refine V_getI dX10_turns_4 fX10_111 (Or.inl rfl) (by first | assumption | rfl) (by first | decide | omega) (by first | assumption | exact ML_4 (by assumption) | exact ML_5 (by assumption) | exact ML_6 (by assumption) | exact ML_7 (by assumption) | exact ML_8 (by assumption) | exact ML_9 (by assumption) | exact ML_10 (by assumption) | exact ML_11 (by assumption) | exact ML_12 (by assumption) | exact ML_13 (by assumption) | exact ML_15 (by assumption) | exact ML_16 (by assumption) | exact ML_17 (by assumption) | exact ML_20 (by assumption) | exact ML_23 (by assumption) | exact ML_24 (by assumption) | exact ML_30 (by assumption) | exact ML_31 (by assumption) | exact ML_32 (by assumption) | exact ML_33 (by assumption) | exact ML_35 (by assumption) | exact ML_36 (by assumption) | exact ML_37 (by assumption) | exact ML_38 (by assumption) | exact ML_41 (by assumption) | exact ML_42 (by assumption) | exact ML_43 (by assumption) | exact ML_44 (by assumption) | exact ML_45 (by assumption) | rfl) ?_
      first | refine U_icmp_ge (tgt := 42) dX10_turns_7 (by decide) (by with_reducible rfl) (by with_reducible rfl) (by omega) (by omega) (fun c7 => ?_) (fun c7 => ?_) | refine V_icmp_ge (tgt := 42) dX10_turns_7 (by decide) (fun c7 => ?_) (fun c7 => ?_)
      · skip
        omega
      · skip
        refine V_aloadn0 dX10_turns_10 ?_
        refine V_getR dX10_turns_11 fX10_53 (by first | assumption | rfl) (by first | decide | omega) (by first | assumption | exact ML_4 (by assumption) | exact ML_5 (by assumption) | exact ML_6 (by assumption) | exact ML_7 (by assumption) | exact ML_8 (by assumption) | exact ML_9 (by assumption) | exact ML_10 (by assumption) | exact ML_11 (by assumption) | exact ML_12 (by assumption) | exact ML_13 (by assumption) | exact ML_15 (by assumption) | exact ML_16 (by assumption) | exact ML_17 (by assumption) | exact ML_20 (by assumption) | exact ML_23 (by assumption) | exact ML_24 (by assumption) | exact ML_30 (by assumption) | exact ML_31 (by assumption) | exact ML_32 (by assumption) | exact ML_33 (by assumption) | exact ML_35 (by assumption) | exact ML_36 (by assumption) | exact ML_37 (by assumption) | exact ML_38 (by assumption) | exact ML_41 (by assumption) | exact ML_42 (by assumption) | exact ML_43 (by assumption) | exact ML_44 (by assumption) | exact ML_45 (by assumption) | rfl) ?_
        refine V_iloadn1 dX10_turns_14 ?_
        refine V_aloadn0 dX10_turns_15 ?_
        refine V_getI dX10_turns_16 fX10_7 (Or.inl rfl) (by first | assumption | rfl) (by first | decide | omega) (by first | assumption | exact ML_4 (by assumption) | exact ML_5 (by assumption) | exact ML_6 (by assumption) | exact ML_7 (by assumption) | exact ML_8 (by assumption) | exact ML_9 (by assumption) | exact ML_10 (by assumption) | exact ML_11 (by assumption) | exact ML_12 (by assumption) | exact ML_13 (by assumption) | exact ML_15 (by assumption) | exact ML_16 (by assumption) | exact ML_17 (by assumption) | exact ML_20 (by assumption) | exact ML_23 (by assumption) | exact ML_24 (by assumption) | exact ML_30 (by assumption) | exact ML_31 (by assumption) | exact ML_32 (by assumption) | exact ML_33 (by assumption) | exact ML_35 (by assumption) | exact ML_36 (by assumption) | exact ML_37 (by assumption) | exact ML_38 (by assumption) | exact ML_41 (by assumption) | exact ML_42 (by assumption) | exact ML_43 (by assumption) | exact ML_44 (by assumption) | exact ML_45 (by assumption) | rfl) ?_
        refine V_iconst (v := nI 1) dX10_turns_19 (by decide) ?_
        first | refine U_iadd dX10_turns_20 (by with_reducible rfl) (by with_reducible rfl) ?_ | refine V_iadd dX10_turns_20 ?_
        refine V_aloadn0 dX10_turns_21 ?_
        refine V_getR dX10_turns_22 fX10_47 (by first | assumption | rfl) (by first | decide | omega) (by first | assumption | exact ML_4 (by assumption) | exact ML_5 (by assumption) | exact ML_6 (by assumption) | exact ML_7 (by assumption) | exact ML_8 (by assumption) | exact ML_9 (by assumption) | exact ML_10 (by assumption) | exact ML_11 (by assumption) | exact ML_12 (by assumption) | exact ML_13 (by assumption) | exact ML_15 (by assumption) | exact ML_16 (by assumption) | exact ML_17 (by assumption) | exact ML_20 (by assumption) | exact ML_23 (by assumption) | exact ML_24 (by assumption) | exact ML_30 (by assumption) | exact ML_31 (by assumption) | exact ML_32 (by assumption) | exact ML_33 (by assumption) | exact ML_35 (by assumption) | exact ML_36 (by assumption) | exact ML_37 (by assumption) | exact ML_38 (by assumption) | exact ML_41 (by assumption) | exact ML_42 (by assumption) | exact ML_43 (by assumption) | exact ML_44 (by assumption) | exact ML_45 (by assumption) | rfl) ?_
        refine V_aloadn0 dX10_turns_25 ?_
        refine V_getI dX10_turns_26 fX10_111 (Or.inl rfl) (by first | assumption | rfl) (by first | decide | omega) (by first | assumption | exact ML_4 (by assumption) | exact ML_5 (by assumption) | exact ML_6 (by assumption) | exact ML_7 (by assumption) | exact ML_8 (by assumption) | exact ML_9 (by assumption) | exact ML_10 (by assumption) | exact ML_11 (by assumption) | exact ML_12 (by assumption) | exact ML_13 (by assumption) | exact ML_15 (by assumption) | exact ML_16 (by assumption) | exact ML_17 (by assumption) | exact ML_20 (by assumption) | exact ML_23 (by assumption) | exact ML_24 (by assumption) | exact ML_30 (by assumption) | exact ML_31 (by assumption) | exact ML_32 (by assumption) | exact ML_33 (by assumption) | exact ML_35 (by assumption) | exact ML_36 (by assumption) | exact ML_37 (by assumption) | exact ML_38 (by assumption) | exact ML_41 (by assumption) | exact ML_42 (by assumption) | exact ML_43 (by assumption) | exact ML_44 (by assumption) | exact ML_45 (by assumption) | rfl) ?_
        refine V_iconst (v := nI 1) dX10_turns_29 (by decide) ?_
        first | refine U_isub dX10_turns_30 (by with_reducible rfl) (by with_reducible rfl) (by omega) ?_ | refine V_isub dX10_turns_30 ?_
        refine V_iloadn1 dX10_turns_31 ?_
        first | refine U_isub dX10_turns_32 (by with_reducible rfl) (by with_reducible rfl) (by omega) ?_ | refine V_isub dX10_turns_32 ?_
        refine U_iald dX10_turns_33 (by with_reducible rfl) (by first | assumption | rfl) (by first | decide | omega) (by omega) (by first | assumption | exact ML_4 (by assumption) | exact ML_5 (by assumption) | exact ML_6 (by assumption) | exact ML_7 (by assumption) | exact ML_8 (by assumption) | exact ML_9 (by assumption) | exact ML_10 (by assumption) | exact ML_11 (by assumption) | exact ML_12 (by assumption) | exact ML_13 (by assumption) | exact ML_15 (by assumption) | exact ML_16 (by assumption) | exact ML_17 (by assumption) | exact ML_20 (by assumption) | exact ML_23 (by assumption) | exact ML_24 (by assumption) | exact ML_30 (by assumption) | exact ML_31 (by assumption) | exact ML_32 (by assumption) | exact ML_33 (by assumption) | exact ML_35 (by assumption) | exact ML_36 (by assumption) | exact ML_37 (by assumption) | exact ML_38 (by assumption) | exact ML_41 (by assumption) | exact ML_42 (by assumption) | exact ML_43 (by assumption) | exact ML_44 (by assumption) | exact ML_45 (by assumption) | rfl) ?_
        first | refine U_isub dX10_turns_34 (by with_reducible rfl) (by with_reducible rfl) (by omega) ?_ | refine V_isub dX10_turns_34 ?_
        refine U_iast dX10_turns_35 (by with_reducible rfl) (by first | assumption | rfl) (by first | decide | omega) (by omega) ?_
        refine V_iinc1 dX10_turns_36 (by first | exact ginc1 _ | rfl) (by decide) rfl ?_
        refine V_goto (tgt := 2) dX10_turns_39 (by decide) ?_
        refine ih (k + 1) _ (by omega) (by rw [gI_sI, if_neg (by omega)]; exact g18) (fun j hj => ?_) (by funext b; rw [gI_sI, if_neg (by omega)]; exact congrFun g105 b) (by rw [gI_sI, if_neg (by omega)]; exact g19) (fun q => ⟨fun j hj => by rw [gI_sI, if_neg (by omega)]; exact (hL1 q).1 j hj, (hL1 q).2⟩) (frx_sI hF (by omega))
        rw [gI_sI]
        by_cases e : j = k
        · rw [if_pos ⟨rfl, e⟩, e, twF_get (by omega)]
        · rw [if_neg (fun z => e z.2)]; exact g107 j (by omega)
  refine V_iconst (v := nI 0) dX10_turns_0 (by decide) ?_
  refine V_istoren1 dX10_turns_1 (by decide) rfl ?_
  exact loop1 _ 0 h (Nat.zero_add _) w0 (fun j hj => absurd hj (Nat.not_lt_zero _)) rfl hkd hL FrX.rf
set_option maxRecDepth 100000 in
set_option maxHeartbeats 4000000 in
theorem m_doAct {n kd act i : Nat} {x : Int32} {w L : List Nat} (hd : 3 ≤ d) (hn5 : n ≤ 5) (hM : MLay h) (r0 : gI h 94 0 = nI n) (hkd : gI h 94 19 = nI kd) (hk2 : kd ≤ 2) (hW : WW h w) (hw : LtW n w) (hL : SH h L) (ha : act ≤ 5) (hx : act ≠ 5 → x = nI i ∧ 1 ≤ i ∧ i < n) (hQ : ∀ h', gI h' 94 19 = nI kd → WW h' (pfW act kd w L i n).1 → SH h' (pfW act kd w L i n).2 → FrX h h' → Q (some (.int (gBo (acB act w i)))) h') : V Γ mX10_acts d 124 124 h 0 [some (.ref 94), some (.int (nI act)), some (.int x), none, none, none] [] Q := by
  have w6 := hW.2.2.1
  by_cases a5 : act = 5
  · subst a5
    have e : pfW 5 kd w L i n = turnW kd w L n := rfl
    have e2 : acB 5 w i = true := rfl
    rw [e, e2] at hQ
    refine V_iloadn1 dX10_acts_0 ?_
    first | refine U_ifB_eq (tgt := 9) dX10_acts_1 (by decide) (by with_reducible rfl) (fun c1 => ?_) (fun c1 => ?_) | refine U_if_eq (tgt := 9) dX10_acts_1 (by decide) (by with_reducible rfl) (by omega) (fun c1 => ?_) (fun c1 => ?_) | refine V_if_eq (tgt := 9) dX10_acts_1 (by decide) (fun c1 => ?_) (fun c1 => ?_)
    · skip
      omega
    · skip
      refine V_iloadn1 dX10_acts_4 ?_
      refine V_iconst (v := nI 1) dX10_acts_5 (by decide) ?_
      first | refine U_icmp_ne (tgt := 27) dX10_acts_6 (by decide) (by with_reducible rfl) (by with_reducible rfl) (by omega) (by omega) (fun c6 => ?_) (fun c6 => ?_) | refine V_icmp_ne (tgt := 27) dX10_acts_6 (by decide) (fun c6 => ?_) (fun c6 => ?_)
      · skip
        refine V_iloadn1 dX10_acts_27 ?_
        refine V_iconst (v := nI 5) dX10_acts_28 (by decide) ?_
        first | refine U_icmp_ne (tgt := 38) dX10_acts_29 (by decide) (by with_reducible rfl) (by with_reducible rfl) (by omega) (by omega) (fun c29 => ?_) (fun c29 => ?_) | refine V_icmp_ne (tgt := 38) dX10_acts_29 (by decide) (fun c29 => ?_) (fun c29 => ?_)
        · skip
          omega
        · skip
          refine V_aloadn0 dX10_acts_32 ?_
          refine V_callV0 (μ' := mX10_turns) dX10_acts_33 okX10_turns lX10_185 rfl (by first | assumption | rfl) (by first | decide | omega) (Nat.le_of_ble_eq_true rfl) (Nat.le_of_ble_eq_true rfl) (by omega) ?_
          refine m_turns (by omega) hn5 hM r0 hkd hk2 hW hw (fun _ => hL) (fun h1 hk1 hW1 hL1 hF1 => ?_)
          dsimp only [gPush]
          refine V_iconst (v := nI 1) dX10_acts_36 (by decide) ?_
          refine V_iret dX10_acts_37 rfl (by first | exact gBo_nar _ | rfl | decide) ?_
          exact hQ h1 hk1 hW1 hL1 hF1
      · skip
        omega
  obtain ⟨rfl, i1, i2⟩ := hx a5
  by_cases a0 : act = 0
  · subst a0
    have e : pfW 0 kd w L i n = (raiseW w i, L) := rfl
    have e2 : acB 0 w i = decide (fhC w i ≠ 0) := rfl
    rw [e, e2] at hQ
    refine V_iloadn1 dX10_acts_0 ?_
    first | refine U_ifB_eq (tgt := 9) dX10_acts_1 (by decide) (by with_reducible rfl) (fun c1 => ?_) (fun c1 => ?_) | refine U_if_eq (tgt := 9) dX10_acts_1 (by decide) (by with_reducible rfl) (by omega) (fun c1 => ?_) (fun c1 => ?_) | refine V_if_eq (tgt := 9) dX10_acts_1 (by decide) (fun c1 => ?_) (fun c1 => ?_)
    · skip
      refine V_iloadn1 dX10_acts_9 ?_
      first | refine U_ifB_ne (tgt := 21) dX10_acts_10 (by decide) (by with_reducible rfl) (fun c10 => ?_) (fun c10 => ?_) | refine U_if_ne (tgt := 21) dX10_acts_10 (by decide) (by with_reducible rfl) (by omega) (fun c10 => ?_) (fun c10 => ?_) | refine V_if_ne (tgt := 21) dX10_acts_10 (by decide) (fun c10 => ?_) (fun c10 => ?_)
      · skip
        omega
      · skip
        refine V_aloadn0 dX10_acts_13 ?_
        refine V_iloadn2 dX10_acts_14 ?_
        refine V_callV1 (μ' := mX10_raises) dX10_acts_15 okX10_raises lX10_179 rfl (by first | assumption | rfl) (by first | decide | omega) (Nat.le_of_ble_eq_true rfl) (Nat.le_of_ble_eq_true rfl) (by omega) ?_
        refine m_raises (by omega) hM hW i1 (by omega) (fun h1 hW1 hF1 => ?_)
        dsimp only [gPush]
        refine V_goto (tgt := 26) dX10_acts_18 (by decide) ?_
        refine V_iret dX10_acts_26 rfl (by first | exact gBo_nar _ | rfl | decide) ?_
        exact hQ h1 (by rw [hF1.2.1 19 (by omega)]; exact hkd) hW1 (SH_K hL hF1) hF1.X
    · skip
      omega
  by_cases a1 : act = 1
  · subst a1
    have e : pfW 1 kd w L i n = (lowerW w i, L) := rfl
    have e2 : acB 1 w i = decide (llC w i ≠ 0) := rfl
    rw [e, e2] at hQ
    refine V_iloadn1 dX10_acts_0 ?_
    first | refine U_ifB_eq (tgt := 9) dX10_acts_1 (by decide) (by with_reducible rfl) (fun c1 => ?_) (fun c1 => ?_) | refine U_if_eq (tgt := 9) dX10_acts_1 (by decide) (by with_reducible rfl) (by omega) (fun c1 => ?_) (fun c1 => ?_) | refine V_if_eq (tgt := 9) dX10_acts_1 (by decide) (fun c1 => ?_) (fun c1 => ?_)
    · skip
      omega
    · skip
      refine V_iloadn1 dX10_acts_4 ?_
      refine V_iconst (v := nI 1) dX10_acts_5 (by decide) ?_
      first | refine U_icmp_ne (tgt := 27) dX10_acts_6 (by decide) (by with_reducible rfl) (by with_reducible rfl) (by omega) (by omega) (fun c6 => ?_) (fun c6 => ?_) | refine V_icmp_ne (tgt := 27) dX10_acts_6 (by decide) (fun c6 => ?_) (fun c6 => ?_)
      · skip
        omega
      · skip
        refine V_iloadn1 dX10_acts_9 ?_
        first | refine U_ifB_ne (tgt := 21) dX10_acts_10 (by decide) (by with_reducible rfl) (fun c10 => ?_) (fun c10 => ?_) | refine U_if_ne (tgt := 21) dX10_acts_10 (by decide) (by with_reducible rfl) (by omega) (fun c10 => ?_) (fun c10 => ?_) | refine V_if_ne (tgt := 21) dX10_acts_10 (by decide) (fun c10 => ?_) (fun c10 => ?_)
        · skip
          refine V_aloadn0 dX10_acts_21 ?_
          refine V_iloadn2 dX10_acts_22 ?_
          refine V_callV1 (μ' := mX10_lowers) dX10_acts_23 okX10_lowers lX10_182 rfl (by first | assumption | rfl) (by first | decide | omega) (Nat.le_of_ble_eq_true rfl) (Nat.le_of_ble_eq_true rfl) (by omega) ?_
          refine m_lowers (by omega) hM hW i1 (by omega) (fun h1 hW1 hF1 => ?_)
          dsimp only [gPush]
          refine V_iret dX10_acts_26 rfl (by first | exact gBo_nar _ | rfl | decide) ?_
          exact hQ h1 (by rw [hF1.2.1 19 (by omega)]; exact hkd) hW1 (SH_K hL hF1) hF1.X
        · skip
          omega
  have e : pfW act kd w L i n = (mvW act w i, L) := by unfold pfW; rw [if_neg a0, if_neg a1, if_neg a5]
  have e2 : acB act w i = true := by unfold acB; rw [if_neg a0, if_neg a1]
  rw [e, e2] at hQ
  have hh := highC_le w i
  have hlw := lowC_le w i
  have fin : ∀ h1 u x5, WW h1 (mvW act w i) → FrK h h1 → V Γ mX10_acts d 124 124 h1 126 [some (.ref 94), some (.int (nI act)), some (.int (nI i)), some (.int u), some (.int (gBo true)), x5] [] Q := by
    intro h1 u x5 hW1 hF1
    refine V_iloadw4 dX10_acts_126 ?_
    first | refine U_ifB_ne (tgt := 135) dX10_acts_128 (by decide) (by with_reducible rfl) (fun c128 => ?_) (fun c128 => ?_) | refine U_if_ne (tgt := 135) dX10_acts_128 (by decide) (by with_reducible rfl) (by omega) (fun c128 => ?_) (fun c128 => ?_) | refine V_if_ne (tgt := 135) dX10_acts_128 (by decide) (fun c128 => ?_) (fun c128 => ?_)
    · skip
      refine V_iconst (v := nI 1) dX10_acts_135 (by decide) ?_
      refine V_goto (tgt := 140) dX10_acts_136 (by decide) ?_
      refine V_iret dX10_acts_140 rfl (by first | exact gBo_nar _ | rfl | decide) ?_
      exact hQ h1 (by rw [hF1.2.1 19 (by omega)]; exact hkd) hW1 (SH_K hL hF1) hF1.X
    · skip
      cases c128
  have upR : ∀ f k m h1, k + f = m → m ≤ highC w i → rIt w i m = mvW act w i → WW h1 (rIt w i k) → FrK h h1 → V Γ mX10_acts d 124 124 h1 84 [some (.ref 94), some (.int (nI act)), some (.int (nI i)), some (.int (nI m)), some (.int (gBo true)), some (.int (nI k))] [] Q := by
    intro f
    induction f with
    | zero =>
      intro k m h1 hk hm hmv hW1 hF1
      have ek : k = m := by omega
      subst ek
      rw [hmv] at hW1
      refine V_iloadw5 dX10_acts_84 ?_
      refine V_iloadn3 dX10_acts_86 ?_
      first | refine U_icmp_ge (tgt := 103) dX10_acts_87 (by decide) (by with_reducible rfl) (by with_reducible rfl) (by omega) (by omega) (fun c87 => ?_) (fun c87 => ?_) | refine V_icmp_ge (tgt := 103) dX10_acts_87 (by decide) (fun c87 => ?_) (fun c87 => ?_)
      · skip
        refine V_iconst (v := nI 0) dX10_acts_103 (by decide) ?_
        refine V_istorew5 dX10_acts_104 (by decide) rfl ?_
        refine V_iloadw5 dX10_acts_106 ?_
        refine V_iloadn3 dX10_acts_108 ?_
        refine V_ineg dX10_acts_109 ?_
        refine V_icmp_ge (tgt := 126) dX10_acts_110 (by decide) (fun c110 => ?_) (fun c110 => absurd (neg_le (by omega) (by decide)) c110)
        exact fin h1 _ _ hW1 hF1
      · skip
        omega
    | succ f ih =>
      intro k m h1 hk hm hmv hW1 hF1
      have hM1 := MLay_eq hM hF1.2.2.2
      obtain ⟨g1, g2⟩ := rIt_high (w := w) (i := i) w6 i1 k (by omega)
      have hf : fhC (rIt w i k) i ≠ 0 := fun q => by have := (fhC_z (rIt w i k) i).mpr q; omega
      refine V_iloadw5 dX10_acts_84 ?_
      refine V_iloadn3 dX10_acts_86 ?_
      first | refine U_icmp_ge (tgt := 103) dX10_acts_87 (by decide) (by with_reducible rfl) (by with_reducible rfl) (by omega) (by omega) (fun c87 => ?_) (fun c87 => ?_) | refine V_icmp_ge (tgt := 103) dX10_acts_87 (by decide) (fun c87 => ?_) (fun c87 => ?_)
      · skip
        omega
      · skip
        refine V_aloadn0 dX10_acts_90 ?_
        refine V_iloadn2 dX10_acts_91 ?_
        refine V_callV1 (μ' := mX10_raises) dX10_acts_92 okX10_raises lX10_179 rfl (by first | assumption | rfl) (by first | decide | omega) (Nat.le_of_ble_eq_true rfl) (Nat.le_of_ble_eq_true rfl) (by omega) ?_
        refine m_raises (by omega) hM1 hW1 i1 (by omega) (fun h2 hW2 hF2 => ?_)
        rw [decide_eq_true hf]
        dsimp only [gPush]
        refine V_istorew4 dX10_acts_95 (by decide) rfl ?_
        refine V_iinc5 dX10_acts_97 (by first | exact ginc1 _ | rfl) (by decide) rfl ?_
        refine V_goto (tgt := 84) dX10_acts_100 (by decide) ?_
        exact ih (k + 1) m h2 (by omega) hm hmv hW2 (hF1.tr hF2)
  have dnL : ∀ f k m h1, k + f = m → m ≤ lowC w i → lIt w i m = mvW act w i → WW h1 (lIt w i k) → FrK h h1 → V Γ mX10_acts d 124 124 h1 106 [some (.ref 94), some (.int (nI act)), some (.int (nI i)), some (.int (-(nI m))), some (.int (gBo true)), some (.int (nI k))] [] Q := by
    intro f
    induction f with
    | zero =>
      intro k m h1 hk hm hmv hW1 hF1
      have ek : k = m := by omega
      subst ek
      rw [hmv] at hW1
      refine V_iloadw5 dX10_acts_106 ?_
      refine V_iloadn3 dX10_acts_108 ?_
      refine V_ineg dX10_acts_109 ?_
      refine V_topI Int32.neg_neg ?_
      first | refine U_icmp_ge (tgt := 126) dX10_acts_110 (by decide) (by with_reducible rfl) (by with_reducible rfl) (by omega) (by omega) (fun c110 => ?_) (fun c110 => ?_) | refine V_icmp_ge (tgt := 126) dX10_acts_110 (by decide) (fun c110 => ?_) (fun c110 => ?_)
      · skip
        exact fin h1 _ _ hW1 hF1
      · skip
        omega
    | succ f ih =>
      intro k m h1 hk hm hmv hW1 hF1
      have hM1 := MLay_eq hM hF1.2.2.2
      obtain ⟨g1, g2⟩ := lIt_low (w := w) (i := i) w6 i1 k (by omega)
      have hf : llC (lIt w i k) i ≠ 0 := fun q => by have := (llC_z (lIt w i k) i).mpr q; omega
      refine V_iloadw5 dX10_acts_106 ?_
      refine V_iloadn3 dX10_acts_108 ?_
      refine V_ineg dX10_acts_109 ?_
      refine V_topI Int32.neg_neg ?_
      first | refine U_icmp_ge (tgt := 126) dX10_acts_110 (by decide) (by with_reducible rfl) (by with_reducible rfl) (by omega) (by omega) (fun c110 => ?_) (fun c110 => ?_) | refine V_icmp_ge (tgt := 126) dX10_acts_110 (by decide) (fun c110 => ?_) (fun c110 => ?_)
      · skip
        omega
      · skip
        refine V_aloadn0 dX10_acts_113 ?_
        refine V_iloadn2 dX10_acts_114 ?_
        refine V_callV1 (μ' := mX10_lowers) dX10_acts_115 okX10_lowers lX10_182 rfl (by first | assumption | rfl) (by first | decide | omega) (Nat.le_of_ble_eq_true rfl) (Nat.le_of_ble_eq_true rfl) (by omega) ?_
        refine m_lowers (by omega) hM1 hW1 i1 (by omega) (fun h2 hW2 hF2 => ?_)
        rw [decide_eq_true hf]
        dsimp only [gPush]
        refine V_istorew4 dX10_acts_118 (by decide) rfl ?_
        refine V_iinc5 dX10_acts_120 (by first | exact ginc1 _ | rfl) (by decide) rfl ?_
        refine V_goto (tgt := 106) dX10_acts_123 (by decide) ?_
        exact ih (k + 1) m h2 (by omega) hm hmv hW2 (hF1.tr hF2)
  have dn84 : ∀ m h1 x5, m ≤ lowC w i → lIt w i m = mvW act w i → WW h1 w → FrK h h1 → V Γ mX10_acts d 124 124 h1 78 [some (.ref 94), some (.int (nI act)), some (.int (nI i)), some (.int (-(nI m))), none, x5] [] Q := by
    intro m h1 x5 hm hmv hW1 hF1
    refine V_iconst (v := nI 1) dX10_acts_78 (by decide) ?_
    refine V_istorew4 dX10_acts_79 (by decide) rfl ?_
    refine V_iconst (v := nI 0) dX10_acts_81 (by decide) ?_
    refine V_istorew5 dX10_acts_82 (by decide) rfl ?_
    refine V_iloadw5 dX10_acts_84 ?_
    refine V_iloadn3 dX10_acts_86 ?_
    refine V_icmp_ge (tgt := 103) dX10_acts_87 (by decide) (fun c87 => ?_) (fun c87 => absurd (neg_le (by omega) (by decide)) c87)
    refine V_iconst (v := nI 0) dX10_acts_103 (by decide) ?_
    refine V_istorew5 dX10_acts_104 (by decide) rfl ?_
    exact dnL m 0 m h1 (Nat.zero_add _) hm hmv hW1 hF1
  have up78 : ∀ m h1 x5, m ≤ highC w i → rIt w i m = mvW act w i → WW h1 w → FrK h h1 → V Γ mX10_acts d 124 124 h1 78 [some (.ref 94), some (.int (nI act)), some (.int (nI i)), some (.int (nI m)), none, x5] [] Q := by
    intro m h1 x5 hm hmv hW1 hF1
    refine V_iconst (v := nI 1) dX10_acts_78 (by decide) ?_
    refine V_istorew4 dX10_acts_79 (by decide) rfl ?_
    refine V_iconst (v := nI 0) dX10_acts_81 (by decide) ?_
    refine V_istorew5 dX10_acts_82 (by decide) rfl ?_
    exact upR m 0 m h1 (Nat.zero_add _) hm hmv hW1 hF1
  by_cases a2 : act = 2
  · by_cases hc : lowC w i ≤ highC w i
    · have hmv : rIt w i (highC w i - lowC w i) = mvW act w i := by
        unfold mvW
        rw [if_neg (by omega), if_neg (by omega), if_pos a2, show lowC w i - highC w i = 0 by omega]
        rfl
      refine V_iloadn1 dX10_acts_0 ?_
      first | refine U_ifB_eq (tgt := 9) dX10_acts_1 (by decide) (by with_reducible rfl) (fun c1 => ?_) (fun c1 => ?_) | refine U_if_eq (tgt := 9) dX10_acts_1 (by decide) (by with_reducible rfl) (by omega) (fun c1 => ?_) (fun c1 => ?_) | refine V_if_eq (tgt := 9) dX10_acts_1 (by decide) (fun c1 => ?_) (fun c1 => ?_)
      · skip
        omega
      · skip
        refine V_iloadn1 dX10_acts_4 ?_
        refine V_iconst (v := nI 1) dX10_acts_5 (by decide) ?_
        first | refine U_icmp_ne (tgt := 27) dX10_acts_6 (by decide) (by with_reducible rfl) (by with_reducible rfl) (by omega) (by omega) (fun c6 => ?_) (fun c6 => ?_) | refine V_icmp_ne (tgt := 27) dX10_acts_6 (by decide) (fun c6 => ?_) (fun c6 => ?_)
        · skip
          refine V_iloadn1 dX10_acts_27 ?_
          refine V_iconst (v := nI 5) dX10_acts_28 (by decide) ?_
          first | refine U_icmp_ne (tgt := 38) dX10_acts_29 (by decide) (by with_reducible rfl) (by with_reducible rfl) (by omega) (by omega) (fun c29 => ?_) (fun c29 => ?_) | refine V_icmp_ne (tgt := 38) dX10_acts_29 (by decide) (fun c29 => ?_) (fun c29 => ?_)
          · skip
            refine V_aloadn0 dX10_acts_38 ?_
            refine V_iloadn2 dX10_acts_39 ?_
            refine V_callV1 (μ' := mX10_looks) dX10_acts_40 okX10_looks lX10_170 rfl (by first | assumption | rfl) (by first | decide | omega) (Nat.le_of_ble_eq_true rfl) (Nat.le_of_ble_eq_true rfl) (by omega) ?_
            refine m_looks hM hW i1 (by omega) (fun h1 z25 z26 z27 z28 z105 hF1 => ?_)
            dsimp only [gPush]
            refine V_iloadn1 dX10_acts_43 ?_
            refine V_iconst (v := nI 2) dX10_acts_44 (by decide) ?_
            first | refine U_icmp_ne (tgt := 60) dX10_acts_45 (by decide) (by with_reducible rfl) (by with_reducible rfl) (by omega) (by omega) (fun c45 => ?_) (fun c45 => ?_) | refine V_icmp_ne (tgt := 60) dX10_acts_45 (by decide) (fun c45 => ?_) (fun c45 => ?_)
            · skip
              omega
            · skip
              refine V_aloadn0 dX10_acts_48 ?_
              refine V_getI dX10_acts_49 fX10_164 (Or.inl rfl) (by first | assumption | rfl) (by first | decide | omega) (by first | assumption | exact ML_4 (by assumption) | exact ML_5 (by assumption) | exact ML_6 (by assumption) | exact ML_7 (by assumption) | exact ML_8 (by assumption) | exact ML_9 (by assumption) | exact ML_10 (by assumption) | exact ML_11 (by assumption) | exact ML_12 (by assumption) | exact ML_13 (by assumption) | exact ML_15 (by assumption) | exact ML_16 (by assumption) | exact ML_17 (by assumption) | exact ML_20 (by assumption) | exact ML_23 (by assumption) | exact ML_24 (by assumption) | exact ML_30 (by assumption) | exact ML_31 (by assumption) | exact ML_32 (by assumption) | exact ML_33 (by assumption) | exact ML_35 (by assumption) | exact ML_36 (by assumption) | exact ML_37 (by assumption) | exact ML_38 (by assumption) | exact ML_41 (by assumption) | exact ML_42 (by assumption) | exact ML_43 (by assumption) | exact ML_44 (by assumption) | exact ML_45 (by assumption) | rfl) ?_
              refine V_aloadn0 dX10_acts_52 ?_
              refine V_getI dX10_acts_53 fX10_158 (Or.inl rfl) (by first | assumption | rfl) (by first | decide | omega) (by first | assumption | exact ML_4 (by assumption) | exact ML_5 (by assumption) | exact ML_6 (by assumption) | exact ML_7 (by assumption) | exact ML_8 (by assumption) | exact ML_9 (by assumption) | exact ML_10 (by assumption) | exact ML_11 (by assumption) | exact ML_12 (by assumption) | exact ML_13 (by assumption) | exact ML_15 (by assumption) | exact ML_16 (by assumption) | exact ML_17 (by assumption) | exact ML_20 (by assumption) | exact ML_23 (by assumption) | exact ML_24 (by assumption) | exact ML_30 (by assumption) | exact ML_31 (by assumption) | exact ML_32 (by assumption) | exact ML_33 (by assumption) | exact ML_35 (by assumption) | exact ML_36 (by assumption) | exact ML_37 (by assumption) | exact ML_38 (by assumption) | exact ML_41 (by assumption) | exact ML_42 (by assumption) | exact ML_43 (by assumption) | exact ML_44 (by assumption) | exact ML_45 (by assumption) | rfl) ?_
              first | refine U_isub dX10_acts_56 (by with_reducible rfl) (by with_reducible rfl) (by omega) ?_ | refine V_isub dX10_acts_56 ?_
              refine V_goto (tgt := 77) dX10_acts_57 (by decide) ?_
              refine V_istoren3 dX10_acts_77 (by decide) rfl ?_
              exact up78 _ h1 _ (by omega) hmv (WW_cg hW (hF1.2.1 18 (by omega)) z105) hF1
          · skip
            omega
        · skip
          omega
    · have hmv : lIt w i (lowC w i - highC w i) = mvW act w i := by
        unfold mvW
        rw [if_neg (by omega), if_neg (by omega), if_pos a2, show highC w i - lowC w i = 0 by omega]
        rfl
      refine V_iloadn1 dX10_acts_0 ?_
      first | refine U_ifB_eq (tgt := 9) dX10_acts_1 (by decide) (by with_reducible rfl) (fun c1 => ?_) (fun c1 => ?_) | refine U_if_eq (tgt := 9) dX10_acts_1 (by decide) (by with_reducible rfl) (by omega) (fun c1 => ?_) (fun c1 => ?_) | refine V_if_eq (tgt := 9) dX10_acts_1 (by decide) (fun c1 => ?_) (fun c1 => ?_)
      · skip
        omega
      · skip
        refine V_iloadn1 dX10_acts_4 ?_
        refine V_iconst (v := nI 1) dX10_acts_5 (by decide) ?_
        first | refine U_icmp_ne (tgt := 27) dX10_acts_6 (by decide) (by with_reducible rfl) (by with_reducible rfl) (by omega) (by omega) (fun c6 => ?_) (fun c6 => ?_) | refine V_icmp_ne (tgt := 27) dX10_acts_6 (by decide) (fun c6 => ?_) (fun c6 => ?_)
        · skip
          refine V_iloadn1 dX10_acts_27 ?_
          refine V_iconst (v := nI 5) dX10_acts_28 (by decide) ?_
          first | refine U_icmp_ne (tgt := 38) dX10_acts_29 (by decide) (by with_reducible rfl) (by with_reducible rfl) (by omega) (by omega) (fun c29 => ?_) (fun c29 => ?_) | refine V_icmp_ne (tgt := 38) dX10_acts_29 (by decide) (fun c29 => ?_) (fun c29 => ?_)
          · skip
            refine V_aloadn0 dX10_acts_38 ?_
            refine V_iloadn2 dX10_acts_39 ?_
            refine V_callV1 (μ' := mX10_looks) dX10_acts_40 okX10_looks lX10_170 rfl (by first | assumption | rfl) (by first | decide | omega) (Nat.le_of_ble_eq_true rfl) (Nat.le_of_ble_eq_true rfl) (by omega) ?_
            refine m_looks hM hW i1 (by omega) (fun h1 z25 z26 z27 z28 z105 hF1 => ?_)
            dsimp only [gPush]
            refine V_iloadn1 dX10_acts_43 ?_
            refine V_iconst (v := nI 2) dX10_acts_44 (by decide) ?_
            first | refine U_icmp_ne (tgt := 60) dX10_acts_45 (by decide) (by with_reducible rfl) (by with_reducible rfl) (by omega) (by omega) (fun c45 => ?_) (fun c45 => ?_) | refine V_icmp_ne (tgt := 60) dX10_acts_45 (by decide) (fun c45 => ?_) (fun c45 => ?_)
            · skip
              omega
            · skip
              refine V_aloadn0 dX10_acts_48 ?_
              refine V_getI dX10_acts_49 fX10_164 (Or.inl rfl) (by first | assumption | rfl) (by first | decide | omega) (by first | assumption | exact ML_4 (by assumption) | exact ML_5 (by assumption) | exact ML_6 (by assumption) | exact ML_7 (by assumption) | exact ML_8 (by assumption) | exact ML_9 (by assumption) | exact ML_10 (by assumption) | exact ML_11 (by assumption) | exact ML_12 (by assumption) | exact ML_13 (by assumption) | exact ML_15 (by assumption) | exact ML_16 (by assumption) | exact ML_17 (by assumption) | exact ML_20 (by assumption) | exact ML_23 (by assumption) | exact ML_24 (by assumption) | exact ML_30 (by assumption) | exact ML_31 (by assumption) | exact ML_32 (by assumption) | exact ML_33 (by assumption) | exact ML_35 (by assumption) | exact ML_36 (by assumption) | exact ML_37 (by assumption) | exact ML_38 (by assumption) | exact ML_41 (by assumption) | exact ML_42 (by assumption) | exact ML_43 (by assumption) | exact ML_44 (by assumption) | exact ML_45 (by assumption) | rfl) ?_
              refine V_aloadn0 dX10_acts_52 ?_
              refine V_getI dX10_acts_53 fX10_158 (Or.inl rfl) (by first | assumption | rfl) (by first | decide | omega) (by first | assumption | exact ML_4 (by assumption) | exact ML_5 (by assumption) | exact ML_6 (by assumption) | exact ML_7 (by assumption) | exact ML_8 (by assumption) | exact ML_9 (by assumption) | exact ML_10 (by assumption) | exact ML_11 (by assumption) | exact ML_12 (by assumption) | exact ML_13 (by assumption) | exact ML_15 (by assumption) | exact ML_16 (by assumption) | exact ML_17 (by assumption) | exact ML_20 (by assumption) | exact ML_23 (by assumption) | exact ML_24 (by assumption) | exact ML_30 (by assumption) | exact ML_31 (by assumption) | exact ML_32 (by assumption) | exact ML_33 (by assumption) | exact ML_35 (by assumption) | exact ML_36 (by assumption) | exact ML_37 (by assumption) | exact ML_38 (by assumption) | exact ML_41 (by assumption) | exact ML_42 (by assumption) | exact ML_43 (by assumption) | exact ML_44 (by assumption) | exact ML_45 (by assumption) | rfl) ?_
              refine V_isub dX10_acts_56 ?_
              refine V_topI (sub_neg' (by omega)) ?_
              refine V_goto (tgt := 77) dX10_acts_57 (by decide) ?_
              refine V_istoren3 dX10_acts_77 (by decide) rfl ?_
              exact dn84 _ h1 _ (by omega) hmv (WW_cg hW (hF1.2.1 18 (by omega)) z105) hF1
          · skip
            omega
        · skip
          omega
  by_cases a3 : act = 3
  · have hmv : rIt w i (highC w i) = mvW act w i := by unfold mvW; rw [if_pos a3]
    refine V_iloadn1 dX10_acts_0 ?_
    first | refine U_ifB_eq (tgt := 9) dX10_acts_1 (by decide) (by with_reducible rfl) (fun c1 => ?_) (fun c1 => ?_) | refine U_if_eq (tgt := 9) dX10_acts_1 (by decide) (by with_reducible rfl) (by omega) (fun c1 => ?_) (fun c1 => ?_) | refine V_if_eq (tgt := 9) dX10_acts_1 (by decide) (fun c1 => ?_) (fun c1 => ?_)
    · skip
      omega
    · skip
      refine V_iloadn1 dX10_acts_4 ?_
      refine V_iconst (v := nI 1) dX10_acts_5 (by decide) ?_
      first | refine U_icmp_ne (tgt := 27) dX10_acts_6 (by decide) (by with_reducible rfl) (by with_reducible rfl) (by omega) (by omega) (fun c6 => ?_) (fun c6 => ?_) | refine V_icmp_ne (tgt := 27) dX10_acts_6 (by decide) (fun c6 => ?_) (fun c6 => ?_)
      · skip
        refine V_iloadn1 dX10_acts_27 ?_
        refine V_iconst (v := nI 5) dX10_acts_28 (by decide) ?_
        first | refine U_icmp_ne (tgt := 38) dX10_acts_29 (by decide) (by with_reducible rfl) (by with_reducible rfl) (by omega) (by omega) (fun c29 => ?_) (fun c29 => ?_) | refine V_icmp_ne (tgt := 38) dX10_acts_29 (by decide) (fun c29 => ?_) (fun c29 => ?_)
        · skip
          refine V_aloadn0 dX10_acts_38 ?_
          refine V_iloadn2 dX10_acts_39 ?_
          refine V_callV1 (μ' := mX10_looks) dX10_acts_40 okX10_looks lX10_170 rfl (by first | assumption | rfl) (by first | decide | omega) (Nat.le_of_ble_eq_true rfl) (Nat.le_of_ble_eq_true rfl) (by omega) ?_
          refine m_looks hM hW i1 (by omega) (fun h1 z25 z26 z27 z28 z105 hF1 => ?_)
          dsimp only [gPush]
          refine V_iloadn1 dX10_acts_43 ?_
          refine V_iconst (v := nI 2) dX10_acts_44 (by decide) ?_
          first | refine U_icmp_ne (tgt := 60) dX10_acts_45 (by decide) (by with_reducible rfl) (by with_reducible rfl) (by omega) (by omega) (fun c45 => ?_) (fun c45 => ?_) | refine V_icmp_ne (tgt := 60) dX10_acts_45 (by decide) (fun c45 => ?_) (fun c45 => ?_)
          · skip
            refine V_iloadn1 dX10_acts_60 ?_
            refine V_iconst (v := nI 3) dX10_acts_61 (by decide) ?_
            first | refine U_icmp_ne (tgt := 72) dX10_acts_62 (by decide) (by with_reducible rfl) (by with_reducible rfl) (by omega) (by omega) (fun c62 => ?_) (fun c62 => ?_) | refine V_icmp_ne (tgt := 72) dX10_acts_62 (by decide) (fun c62 => ?_) (fun c62 => ?_)
            · skip
              omega
            · skip
              refine V_aloadn0 dX10_acts_65 ?_
              refine V_getI dX10_acts_66 fX10_164 (Or.inl rfl) (by first | assumption | rfl) (by first | decide | omega) (by first | assumption | exact ML_4 (by assumption) | exact ML_5 (by assumption) | exact ML_6 (by assumption) | exact ML_7 (by assumption) | exact ML_8 (by assumption) | exact ML_9 (by assumption) | exact ML_10 (by assumption) | exact ML_11 (by assumption) | exact ML_12 (by assumption) | exact ML_13 (by assumption) | exact ML_15 (by assumption) | exact ML_16 (by assumption) | exact ML_17 (by assumption) | exact ML_20 (by assumption) | exact ML_23 (by assumption) | exact ML_24 (by assumption) | exact ML_30 (by assumption) | exact ML_31 (by assumption) | exact ML_32 (by assumption) | exact ML_33 (by assumption) | exact ML_35 (by assumption) | exact ML_36 (by assumption) | exact ML_37 (by assumption) | exact ML_38 (by assumption) | exact ML_41 (by assumption) | exact ML_42 (by assumption) | exact ML_43 (by assumption) | exact ML_44 (by assumption) | exact ML_45 (by assumption) | rfl) ?_
              refine V_goto (tgt := 77) dX10_acts_69 (by decide) ?_
              refine V_istoren3 dX10_acts_77 (by decide) rfl ?_
              exact up78 _ h1 _ (by omega) hmv (WW_cg hW (hF1.2.1 18 (by omega)) z105) hF1
          · skip
            omega
        · skip
          omega
      · skip
        omega
  · have a4 : act = 4 := by omega
    have hmv : lIt w i (lowC w i) = mvW act w i := by unfold mvW; rw [if_neg a3, if_pos a4]
    refine V_iloadn1 dX10_acts_0 ?_
    first | refine U_ifB_eq (tgt := 9) dX10_acts_1 (by decide) (by with_reducible rfl) (fun c1 => ?_) (fun c1 => ?_) | refine U_if_eq (tgt := 9) dX10_acts_1 (by decide) (by with_reducible rfl) (by omega) (fun c1 => ?_) (fun c1 => ?_) | refine V_if_eq (tgt := 9) dX10_acts_1 (by decide) (fun c1 => ?_) (fun c1 => ?_)
    · skip
      omega
    · skip
      refine V_iloadn1 dX10_acts_4 ?_
      refine V_iconst (v := nI 1) dX10_acts_5 (by decide) ?_
      first | refine U_icmp_ne (tgt := 27) dX10_acts_6 (by decide) (by with_reducible rfl) (by with_reducible rfl) (by omega) (by omega) (fun c6 => ?_) (fun c6 => ?_) | refine V_icmp_ne (tgt := 27) dX10_acts_6 (by decide) (fun c6 => ?_) (fun c6 => ?_)
      · skip
        refine V_iloadn1 dX10_acts_27 ?_
        refine V_iconst (v := nI 5) dX10_acts_28 (by decide) ?_
        first | refine U_icmp_ne (tgt := 38) dX10_acts_29 (by decide) (by with_reducible rfl) (by with_reducible rfl) (by omega) (by omega) (fun c29 => ?_) (fun c29 => ?_) | refine V_icmp_ne (tgt := 38) dX10_acts_29 (by decide) (fun c29 => ?_) (fun c29 => ?_)
        · skip
          refine V_aloadn0 dX10_acts_38 ?_
          refine V_iloadn2 dX10_acts_39 ?_
          refine V_callV1 (μ' := mX10_looks) dX10_acts_40 okX10_looks lX10_170 rfl (by first | assumption | rfl) (by first | decide | omega) (Nat.le_of_ble_eq_true rfl) (Nat.le_of_ble_eq_true rfl) (by omega) ?_
          refine m_looks hM hW i1 (by omega) (fun h1 z25 z26 z27 z28 z105 hF1 => ?_)
          dsimp only [gPush]
          refine V_iloadn1 dX10_acts_43 ?_
          refine V_iconst (v := nI 2) dX10_acts_44 (by decide) ?_
          first | refine U_icmp_ne (tgt := 60) dX10_acts_45 (by decide) (by with_reducible rfl) (by with_reducible rfl) (by omega) (by omega) (fun c45 => ?_) (fun c45 => ?_) | refine V_icmp_ne (tgt := 60) dX10_acts_45 (by decide) (fun c45 => ?_) (fun c45 => ?_)
          · skip
            refine V_iloadn1 dX10_acts_60 ?_
            refine V_iconst (v := nI 3) dX10_acts_61 (by decide) ?_
            first | refine U_icmp_ne (tgt := 72) dX10_acts_62 (by decide) (by with_reducible rfl) (by with_reducible rfl) (by omega) (by omega) (fun c62 => ?_) (fun c62 => ?_) | refine V_icmp_ne (tgt := 72) dX10_acts_62 (by decide) (fun c62 => ?_) (fun c62 => ?_)
            · skip
              refine V_aloadn0 dX10_acts_72 ?_
              refine V_getI dX10_acts_73 fX10_158 (Or.inl rfl) (by first | assumption | rfl) (by first | decide | omega) (by first | assumption | exact ML_4 (by assumption) | exact ML_5 (by assumption) | exact ML_6 (by assumption) | exact ML_7 (by assumption) | exact ML_8 (by assumption) | exact ML_9 (by assumption) | exact ML_10 (by assumption) | exact ML_11 (by assumption) | exact ML_12 (by assumption) | exact ML_13 (by assumption) | exact ML_15 (by assumption) | exact ML_16 (by assumption) | exact ML_17 (by assumption) | exact ML_20 (by assumption) | exact ML_23 (by assumption) | exact ML_24 (by assumption) | exact ML_30 (by assumption) | exact ML_31 (by assumption) | exact ML_32 (by assumption) | exact ML_33 (by assumption) | exact ML_35 (by assumption) | exact ML_36 (by assumption) | exact ML_37 (by assumption) | exact ML_38 (by assumption) | exact ML_41 (by assumption) | exact ML_42 (by assumption) | exact ML_43 (by assumption) | exact ML_44 (by assumption) | exact ML_45 (by assumption) | rfl) ?_
              refine V_ineg dX10_acts_76 ?_
              refine V_istoren3 dX10_acts_77 (by decide) rfl ?_
              exact dn84 _ h1 _ (by omega) hmv (WW_cg hW (hF1.2.1 18 (by omega)) z105) hF1
            · skip
              omega
          · skip
            omega
        · skip
          omega
      · skip
        omega

end C66
