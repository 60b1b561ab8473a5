/-! ===== the class: families as marks on codes ===== -/
def FmL (h : gH) : Prop := gR h 58 3 = some 59 ∧ gR h 58 4 = some 60 ∧ gR h 58 5 = some 61 ∧ gR h 58 6 = some 64 ∧ TL h 61 ∧ TL h 64
theorem FmL_fr {h h' : gH} (hL : FmL h) (e : gR h' = gR h) : FmL h' := by
  obtain ⟨a, b, c, dd, t1, t2⟩ := hL
  exact ⟨by rw [e]; exact a, by rw [e]; exact b, by rw [e]; exact c, by rw [e]; exact dd, TL_fr t1 e, TL_fr t2 e⟩
/-- the marks tell a set of codes -/
def MkI (h : gH) (M : Nat → Bool) : Prop := ∀ k, k < 245 → ∃ v, v < 2 ^ 64 ∧ gL h 59 k = lN v ∧ ∀ b, b < 64 → v.testBit b = M (64 * k + b)
theorem MkI_fr {h h' : gH} {M : Nat → Bool} (hM : MkI h M) (e : gL h' 59 = gL h 59) : MkI h' M := fun k hk => by
  obtain ⟨v, a, b, c⟩ := hM k hk
  exact ⟨v, a, by rw [e]; exact b, c⟩
theorem nI_shr6 {c : Nat} (hc : c < 2 ^ 31) : nI c >>> (nI 6 &&& 31) = nI (c / 64) := pk_shrN hc _ 6 (by decide)
theorem nI_and63 {c : Nat} (hc : c < 2 ^ 31) : nI c &&& nI 63 = nI (c % 64) := pk_andN (by omega) 6 (by decide)
theorem lg_bit {v b : Nat} (hv : v < 2 ^ 64) : lg_cmp (lN (v / 2 ^ b) &&& lN 1) (lN 0) = gBo (v.testBit b) := by
  have h1 : lN (v / 2 ^ b) &&& lN 1 = lN (v / 2 ^ b % 2) := wb_mask (k := 1) (Nat.lt_of_le_of_lt (Nat.div_le_self _ _) hv) (by decide)
  rw [h1, Nat.testBit_eq_decide_div_mod_eq]
  have h2 : v / 2 ^ b % 2 < 2 := Nat.mod_lt _ (by decide)
  generalize v / 2 ^ b % 2 = x at h2
  match x, h2 with
  | 0, _ => decide
  | 1, _ => decide
/-- members in order of their coming, marked -/
def FaI (h : gH) (Cs : List Nat) : Prop := MkI h (fun x => decide (x ∈ Cs)) ∧ gI h 58 0 = nI Cs.length ∧ ∀ j, j < Cs.length → gI h 60 j = nI (Cs.getD j 0)
def FaJ (h : gH) (n : Nat) (w Cs : List Nat) : Prop := FaI h Cs ∧ Cs.Nodup ∧ ∀ c ∈ Cs, famB n w c = true
def FrA (h h' : gH) : Prop := (∀ a, a ≠ 58 → a ≠ 60 → gI h' a = gI h a) ∧ (∀ k, k ≠ 0 → gI h' 58 k = gI h 58 k) ∧ (∀ a, a ≠ 59 → gL h' a = gL h a) ∧ gR h' = gR h
theorem FrA.rf {h : gH} : FrA h h := ⟨fun _ _ _ => rfl, fun _ _ => rfl, fun _ _ => rfl, rfl⟩
def FrB (h h' : gH) : Prop := (∀ a, a ≠ 46 → a ≠ 58 → a ≠ 60 → a < 64 ∨ 67 ≤ a → gI h' a = gI h a) ∧ (∀ k, k ≠ 0 → gI h' 58 k = gI h 58 k) ∧ (∀ a, a ≠ 59 → gL h' a = gL h a) ∧ gR h' = gR h
theorem FrB.rf {h : gH} : FrB h h := ⟨fun _ _ _ _ _ => rfl, fun _ _ => rfl, fun _ _ => rfl, rfl⟩
theorem FrB.tr {h h' h'' : gH} (a : FrB h h') (b : FrB h' h'') : FrB h h'' := ⟨fun q h1 h2 h3 h4 => (b.1 q h1 h2 h3 h4).trans (a.1 q h1 h2 h3 h4), fun k hk => (b.2.1 k hk).trans (a.2.1 k hk), fun q hq => (b.2.2.1 q hq).trans (a.2.2.1 q hq), b.2.2.2.trans a.2.2.2⟩
theorem FrA.toB {h h' : gH} (a : FrA h h') : FrB h h' := ⟨fun q _ h2 h3 _ => a.1 q h2 h3, a.2.1, a.2.2.1, a.2.2.2⟩
theorem FrM.toB {h h' : gH} (a : FrM h h' 64) : FrB h h' := ⟨fun q h1 _ _ h4 => a.1 q (by omega) (by omega), fun k _ => by rw [a.1 58 (by omega) (by omega)], fun q _ => by rw [a.2.1], a.2.2⟩
theorem Fr1.toB {h h' : gH} (a : Fr1 h h' 64 67) : FrB h h' := ⟨fun q _ _ _ h4 => a.1 q (by omega), fun k _ => by rw [a.1 58 (by omega)], fun q _ => by rw [a.2.1], a.2.2⟩
theorem lt_pow_code {n m c : Nat} (hn : n ≤ 5) (hm : m ≤ 6) (hc : c < n ^ m) : c < 15680 := by
  have h1 : n ^ m ≤ 5 ^ m := Nat.pow_le_pow_left hn m
  have h2 : 5 ^ m ≤ 5 ^ 6 := Nat.pow_le_pow_right (by decide) hm
  omega
section C39
variable {Γ : gM} {d : Nat} {h : gH} {Q : Option Value → gH → Prop} {t : Nat}
set_option maxRecDepth 100000 in
set_option maxHeartbeats 4000000 in
theorem c_isMarked {c : Nat} {M : Nat → Bool} (hc : c < 15680) (r3 : gR h 58 3 = some 59) (hM : MkI h M) (hQ : Q (some (.int (gBo (M c)))) h) : V Γ mX0_isMarked d 124 124 h 0 [some (.ref 58), some (.int (nI c))] [] Q := by
  obtain ⟨v, hv, hg, hb⟩ := hM (c / 64) (by omega)
  have hbit := hb (c % 64) (by omega)
  rw [show 64 * (c / 64) + c % 64 = c by omega] at hbit
  have e6 := nI_shr6 (c := c) (by omega)
  have e63 := nI_and63 (c := c) (by omega)
  have ec : lg_cmp (lN (v / 2 ^ (c % 64)) &&& lN 1) (lN 0) = gBo (M c) := by rw [lg_bit hv, hbit]
  refine V_aloadn0 dX0_isMarked_0 ?_
  refine V_getR dX0_isMarked_1 fX0_15 (by first | assumption | rfl) (by first | decide | omega) (by first | assumption | rfl) ?_
  refine V_iloadn1 dX0_isMarked_4 ?_
  refine V_bipush (v := nI 6) dX0_isMarked_5 (by decide) ?_
  refine V_ishr dX0_isMarked_7 ?_
  refine V_topI e6 ?_
  refine U_lald dX0_isMarked_8 (by with_reducible rfl) (by first | assumption | rfl) (by first | decide | omega) (by omega) (by first | assumption | rfl) ?_
  refine V_iloadn1 dX0_isMarked_9 ?_
  refine V_bipush (v := nI 63) dX0_isMarked_10 (by decide) ?_
  refine V_iand dX0_isMarked_12 ?_
  refine V_topI e63 ?_
  refine V_lushr dX0_isMarked_13 (wb_shr hv (by omega)) ?_
  refine V_lconst (v := lN 1) dX0_isMarked_14 (by decide) ?_
  refine V_land dX0_isMarked_15 ?_
  refine V_lconst (v := lN 0) dX0_isMarked_16 (by decide) ?_
  refine V_lcmp dX0_isMarked_17 ?_
  refine V_topI ec ?_
  first | refine U_ifB_eq (tgt := 25) dX0_isMarked_18 (by decide) (by with_reducible rfl) (fun c18 => ?_) (fun c18 => ?_) | refine U_if_eq (tgt := 25) dX0_isMarked_18 (by decide) (by with_reducible rfl) (by omega) (fun c18 => ?_) (fun c18 => ?_) | refine V_if_eq (tgt := 25) dX0_isMarked_18 (by decide) (fun c18 => ?_) (fun c18 => ?_)
  · skip
    rw [c18, gBo_f] at hQ
    refine V_iconst (v := nI 0) dX0_isMarked_25 (by decide) ?_
    refine V_iret dX0_isMarked_26 rfl (by first | exact gBo_nar _ | rfl | decide) ?_
    exact hQ
  · skip
    rw [c18, gBo_t] at hQ
    refine V_iconst (v := nI 1) dX0_isMarked_21 (by decide) ?_
    refine V_goto (tgt := 26) dX0_isMarked_22 (by decide) ?_
    refine V_iret dX0_isMarked_26 rfl (by first | exact gBo_nar _ | rfl | decide) ?_
    exact hQ
set_option maxRecDepth 100000 in
set_option maxHeartbeats 4000000 in
theorem c_codeOf {n kd : Nat} {w L : List Nat} (hT : TL h t) (hI : TI h t kd w L) (hw : ∀ p, p < w.length → 1 ≤ w.getD p 0) (i1 : gI h 58 1 = nI n) (hQ : Q (some (.int (nI (cdF n w w.length)))) h) : V Γ mX0_codeOf d 124 124 h 0 [some (.ref 58), some (.ref t), none, none] [] Q := by
  obtain ⟨l0, l1, l2, lt, r2, r4⟩ := hT
  obtain ⟨j0, j1, j3, jw, jL, jwl, jLl, jwb, jLb, jk⟩ := hI
  have loop : ∀ k i, w.length - i = k → i ≤ w.length → V Γ mX0_codeOf d 124 124 h 4 [some (.ref 58), some (.ref t), some (.int (nI (cdF n w i))), some (.int (nI i))] [] Q := by
    intro k
    induction k using Nat.strongRecOn with
    | _ k ih =>
      intro i hk hi
      refine V_iloadn3 dX0_codeOf_4 ?_
      refine V_aloadn1 dX0_codeOf_5 ?_
      refine V_getI dX0_codeOf_6 fX0_39 (Or.inl rfl) (by first | assumption | rfl) (by first | decide | omega) (by first | assumption | exact jw _ (by omega) | rfl) ?_
      first | refine U_icmp_ge (tgt := 34) dX0_codeOf_9 (by decide) (by with_reducible rfl) (by with_reducible rfl) (by omega) (by omega) (fun c9 => ?_) (fun c9 => ?_) | refine V_icmp_ge (tgt := 34) dX0_codeOf_9 (by decide) (fun c9 => ?_) (fun c9 => ?_)
      · skip
        have e : i = w.length := by omega
        subst e
        refine V_iloadn2 dX0_codeOf_34 ?_
        refine V_iret dX0_codeOf_35 rfl rfl ?_
        exact hQ
      · skip
        have hw1 := hw i (by omega)
        refine V_iloadn2 dX0_codeOf_12 ?_
        refine V_aloadn0 dX0_codeOf_13 ?_
        refine V_getI dX0_codeOf_14 fX0_9 (Or.inl rfl) (by first | assumption | rfl) (by first | decide | omega) (by first | assumption | exact jw _ (by omega) | rfl) ?_
        first | refine U_imul dX0_codeOf_17 (by with_reducible rfl) (by with_reducible rfl) ?_ | refine V_imul dX0_codeOf_17 ?_
        refine V_aloadn1 dX0_codeOf_18 ?_
        refine V_getR dX0_codeOf_19 fX0_79 (by first | assumption | rfl) (by first | decide | omega) (by first | assumption | exact jw _ (by omega) | rfl) ?_
        refine V_iloadn3 dX0_codeOf_22 ?_
        refine U_iald dX0_codeOf_23 (by with_reducible rfl) (by first | assumption | rfl) (by first | decide | omega) (by omega) (by first | assumption | exact jw _ (by omega) | rfl) ?_
        first | refine U_iadd dX0_codeOf_24 (by with_reducible rfl) (by with_reducible rfl) ?_ | refine V_iadd dX0_codeOf_24 ?_
        refine V_iconst (v := nI 1) dX0_codeOf_25 (by decide) ?_
        first | refine U_isub dX0_codeOf_26 (by with_reducible rfl) (by with_reducible rfl) (by omega) ?_ | refine V_isub dX0_codeOf_26 ?_
        refine V_istoren2 dX0_codeOf_27 (by decide) rfl ?_
        refine V_iinc3 dX0_codeOf_28 (by first | exact ginc1 _ | rfl) (by decide) rfl ?_
        refine V_goto (tgt := 4) dX0_codeOf_31 (by decide) ?_
        exact ih (w.length - (i + 1)) (by omega) (i + 1) rfl (by omega)
  refine V_iconst (v := nI 0) dX0_codeOf_0 (by decide) ?_
  refine V_istoren2 dX0_codeOf_1 (by decide) rfl ?_
  refine V_iconst (v := nI 0) dX0_codeOf_2 (by decide) ?_
  refine V_istoren3 dX0_codeOf_3 (by decide) rfl ?_
  exact loop _ 0 rfl (by omega)
set_option maxRecDepth 100000 in
set_option maxHeartbeats 4000000 in
theorem c_readCode {n m c : Nat} (hd : 1 ≤ d) (hc : c < 2 ^ 31) (hn : 2 ≤ n) (hn5 : n ≤ 5) (hm : m ≤ 6) (hL : FmL h) (i1 : gI h 58 1 = nI n) (i2 : gI h 58 2 = nI m) (hQ : ∀ h', TI h' 61 1 (dcF n m c) [] → Fr1 h h' 61 64 → Q none h') : V Γ mX0_readCode d 124 124 h 0 [some (.ref 58), some (.int (nI c)), none, none] [] Q := by
  obtain ⟨f3, f4, f5, f6, hT, hT2⟩ := hL
  obtain ⟨l0, l1, l2, lt, r2, r4⟩ := id hT
  have loop : ∀ q h1, q ≤ m → gI h1 61 0 = nI 1 ∧ gI h1 61 1 = nI m ∧ gI h1 61 3 = nI 0 → (∀ p, q ≤ p → p < m → gI h1 62 p = nI ((dcF n m c).getD p 0)) → Fr1 h h1 61 64 → V Γ mX0_readCode d 124 124 h1 20 [some (.ref 58), some (.int (nI c)), some (.int (nI (c / n ^ (m - q)))), some (.int (nI q - nI 1))] [] Q := by
    intro q
    induction q with
    | zero =>
      intro h1 hq hf hp hF
      refine V_iloadn3 dX0_readCode_20 ?_
      refine V_if_lt (tgt := 54) dX0_readCode_21 (by decide) (fun c21 => ?_) (fun c21 => ?_)
      · skip
        refine V_ret dX0_readCode_54 rfl ?_
        refine hQ h1 ⟨hf.1, ?_, hf.2.2, fun p hp2 => hp p (by omega) (by rw [dcF_len] at hp2; exact hp2), fun r hr => absurd hr (Nat.not_lt_zero _), by rw [dcF_len]; omega, by decide, fun p => ?_, fun r => ?_, by decide⟩ hF
        · rw [dcF_len]; exact hf.2.1
        · by_cases e : p < m
          · have := (dcF_lt (n := n) (m := m) (c := c) (by omega) p (by rw [dcF_len]; exact e)).2
            omega
          · rw [List.getD_eq_getElem?_getD, List.getElem?_eq_none (by rw [dcF_len]; omega)]
            decide
        · rw [List.getD_eq_getElem?_getD]; simp
      · skip
        exact absurd ((gdec_lt (by omega)).mpr rfl) c21
    | succ q ih =>
      intro h1 hq hf hp hF
      have a1 : gI h1 58 1 = nI n := by rw [hF.1 58 (by omega)]; exact i1
      have a2 : gI h1 58 2 = nI m := by rw [hF.1 58 (by omega)]; exact i2
      have a5 : gR h1 58 5 = some 61 := by rw [hF.2.2]; exact f5
      have a6 : gR h1 61 2 = some 62 := by rw [hF.2.2]; exact r2
      have hx : c / n ^ (m - (q + 1)) < 2 ^ 31 := Nat.lt_of_le_of_lt (Nat.div_le_self _ _) hc
      have hdg : (dcF n m c).getD q 0 = 1 + c / n ^ (m - (q + 1)) % n := by rw [dcF_get (by omega), show m - 1 - q = m - (q + 1) by omega]
      have hnext : c / n ^ (m - (q + 1)) / n = c / n ^ (m - q) := by rw [Nat.div_div_eq_div_mul, ← Nat.pow_succ, show (m - (q + 1)).succ = m - q by omega]
      generalize hh2 : sI h1 62 q (nI ((dcF n m c).getD q 0)) = h2
      have f2 : Fr1 h h2 61 64 := by rw [← hh2]; exact fr_sI hF (by omega) (by omega)
      have b1 : gI h2 58 1 = nI n := by rw [f2.1 58 (by omega)]; exact i1
      have g2 : gI h2 62 q = nI ((dcF n m c).getD q 0) := by rw [← hh2, gI_sI, if_pos ⟨rfl, rfl⟩]
      have keep : ∀ p, q + 1 ≤ p → p < m → gI h2 62 p = gI h1 62 p := fun p a b => by rw [← hh2, gI_sI, if_neg (by omega)]
      have hf2 : gI h2 61 0 = nI 1 ∧ gI h2 61 1 = nI m ∧ gI h2 61 3 = nI 0 := by
        have e : ∀ b, gI h2 61 b = gI h1 61 b := fun b => by rw [← hh2, gI_sI, if_neg (by omega)]
        rw [e, e, e]; exact hf
      rw [gdecP]
      refine V_iloadn3 dX0_readCode_20 ?_
      refine V_if_lt (tgt := 54) dX0_readCode_21 (by decide) (fun c21 => ?_) (fun c21 => ?_)
      · skip
        exact absurd c21 (nI_pos (by omega))
      · skip
        refine V_aloadn0 dX0_readCode_24 ?_
        refine V_getR dX0_readCode_25 fX0_26 (by first | assumption | rfl) (by first | decide | omega) (by first | assumption | rfl) ?_
        refine V_getR dX0_readCode_28 fX0_79 (by first | assumption | rfl) (by first | decide | omega) (by first | assumption | rfl) ?_
        refine V_iloadn3 dX0_readCode_31 ?_
        refine V_iconst (v := nI 1) dX0_readCode_32 (by decide) ?_
        refine V_iloadn2 dX0_readCode_33 ?_
        refine V_aloadn0 dX0_readCode_34 ?_
        refine V_getI dX0_readCode_35 fX0_9 (Or.inl rfl) (by first | assumption | rfl) (by first | decide | omega) (by first | assumption | rfl) ?_
        first | refine U_irem dX0_readCode_38 (by with_reducible rfl) (by with_reducible rfl) (by omega) (by omega) (by omega) ?_ | refine V_irem dX0_readCode_38 (by decide) ?_
        first | refine U_iadd dX0_readCode_39 (by with_reducible rfl) (by with_reducible rfl) ?_ | refine V_iadd dX0_readCode_39 ?_
        refine U_iast dX0_readCode_40 (by with_reducible rfl) (by first | assumption | rfl) (by first | decide | omega) (by omega) ?_
        rw [← hdg, hh2]
        refine V_iloadn2 dX0_readCode_41 ?_
        refine V_aloadn0 dX0_readCode_42 ?_
        refine V_getI dX0_readCode_43 fX0_9 (Or.inl rfl) (by first | assumption | rfl) (by first | decide | omega) (by first | assumption | rfl) ?_
        first | refine U_idiv dX0_readCode_46 (by with_reducible rfl) (by with_reducible rfl) (by omega) (by omega) (by omega) ?_ | refine V_idiv dX0_readCode_46 (by decide) ?_
        refine V_istoren2 dX0_readCode_47 (by decide) rfl ?_
        refine V_iinc3 dX0_readCode_48 (by first | exact gdecS _ | rfl) (by decide) rfl ?_
        refine V_goto (tgt := 20) dX0_readCode_51 (by decide) ?_
        rw [hnext]
        refine ih h2 (by omega) hf2 (fun p a b => ?_) f2
        by_cases hpq : p = q
        · subst hpq; exact g2
        · rw [keep p (by omega) b]; exact hp p (by omega) b
  generalize hh1 : sI (sI (sI h 61 0 (nI 1)) 61 1 (nI m)) 61 3 (nI 0) = hz
  have fz : Fr1 h hz 61 64 := by rw [← hh1]; exact fr_sI (fr_sI (fr_sI Fr1.rf (by omega) (by omega)) (by omega) (by omega)) (by omega) (by omega)
  have z2 : gI hz 58 2 = nI m := by rw [fz.1 58 (by omega)]; exact i2
  refine V_aloadn0 dX0_readCode_0 ?_
  refine V_getR dX0_readCode_1 fX0_26 (by first | assumption | rfl) (by first | decide | omega) (by first | assumption | rfl) ?_
  refine V_aloadn0 dX0_readCode_4 ?_
  refine V_getI dX0_readCode_5 fX0_36 (Or.inl rfl) (by first | assumption | rfl) (by first | decide | omega) (by first | assumption | rfl) ?_
  refine V_callV1 (μ' := mX8_becomeWordOf) dX0_readCode_8 okX8_becomeWordOf lX0_82 rfl (by first | assumption | rfl) (by first | decide | omega) (Nat.le_of_ble_eq_true rfl) (Nat.le_of_ble_eq_true rfl) (by omega) ?_
  refine c_becomeWordOf hT ?_
  rw [hh1]
  dsimp only [gPush]
  refine V_iloadn1 dX0_readCode_11 ?_
  refine V_istoren2 dX0_readCode_12 (by decide) rfl ?_
  refine V_aloadn0 dX0_readCode_13 ?_
  refine V_getI dX0_readCode_14 fX0_36 (Or.inl rfl) (by first | assumption | rfl) (by first | decide | omega) (by first | assumption | rfl) ?_
  refine V_iconst (v := nI 1) dX0_readCode_17 (by decide) ?_
  refine V_isub dX0_readCode_18 ?_
  refine V_istoren3 dX0_readCode_19 (by decide) rfl ?_
  have hs := loop m hz (Nat.le_refl _) ⟨by rw [← hh1]; simp [gI_sI], by rw [← hh1]; simp [gI_sI], by rw [← hh1]; simp [gI_sI]⟩ (fun p a b => absurd a (by omega)) fz
  rw [Nat.sub_self, Nat.pow_zero, Nat.div_one] at hs
  exact hs
set_option maxRecDepth 100000 in
set_option maxHeartbeats 4000000 in
theorem c_admit {n c : Nat} {w Cs : List Nat} (hd : 1 ≤ d) (hn : 2 ≤ n) (hn5 : n ≤ 5) (hw : w.length ≤ 6) (hL : FmL h) (hJ : FaJ h n w Cs) (hc : famB n w c = true) (hQ : ∀ h' Cs', FaJ h' n w Cs' → (∃ E, Cs' = Cs ++ E) → c ∈ Cs' → FrA h h' → Q none h') : V Γ mX0_admit d 124 124 h 0 [some (.ref 58), some (.int (nI c))] [] Q := by
  obtain ⟨f3, f4, f5, f6, hT, hT2⟩ := hL
  obtain ⟨⟨hM, hN, hC⟩, hnd, hf⟩ := id hJ
  have hc2 := lt_pow_code hn5 hw (famB_lt hc)
  have hlen : Cs.length ≤ 500 := fam_le hn hn5 hw hnd hf
  obtain ⟨v, hv, hg, hb⟩ := hM (c / 64) (by omega)
  have e6 := nI_shr6 (c := c) (by omega)
  have e63 := nI_and63 (c := c) (by omega)
  have hp2 : 2 ^ (c % 64) < 2 ^ 64 := Nat.pow_lt_pow_right (by decide) (by omega)
  have eor : lN v ||| lN (1 * 2 ^ (c % 64)) = lN (v ||| 2 ^ (c % 64)) := by rw [Nat.one_mul]; exact wb_or hv hp2
  generalize hv2 : v ||| 2 ^ (c % 64) = v2 at eor
  have hv2l : v2 < 2 ^ 64 := by rw [← hv2]; exact Nat.or_lt_two_pow hv hp2
  have r0 : gI (sI (sL h 59 (c / 64) (lN v2)) 60 Cs.length (nI c)) 58 0 = nI Cs.length := by rw [gI_sI, if_neg (by omega)]; exact hN
  have done : c ∉ Cs → Q none (sI (sI (sL h 59 (c / 64) (lN v2)) 60 Cs.length (nI c)) 58 0 (nI (Cs.length + 1))) := by
    intro hnin
    refine hQ _ (Cs ++ [c]) ⟨⟨fun k hk => ?_, ?_, fun j hj => ?_⟩, ?_, ?_⟩ ⟨[c], rfl⟩ (by simp) ⟨fun a h1 h2 => ?_, fun k hk => ?_, fun a ha => ?_, rfl⟩
    · rw [gL_sI, gL_sI]
      by_cases ek : k = c / 64
      · subst ek
        refine ⟨v2, hv2l, by rw [gL_sL, if_pos ⟨rfl, rfl⟩], fun b hb2 => ?_⟩
        rw [← hv2, Nat.testBit_or, hb b hb2, Nat.testBit_two_pow]
        by_cases eb : c % 64 = b
        · subst eb
          rw [decide_eq_true rfl, Bool.or_true]
          symm
          apply decide_eq_true
          rw [show 64 * (c / 64) + c % 64 = c by omega]
          simp
        · rw [decide_eq_false eb, Bool.or_false]
          have ne : 64 * (c / 64) + b ≠ c := by omega
          simp [ne]
      · obtain ⟨v', a1, a2, a3⟩ := hM k hk
        refine ⟨v', a1, by rw [gL_sL, if_neg (fun q => ek q.2)]; exact a2, fun b hb2 => ?_⟩
        rw [a3 b hb2]
        have ne : 64 * k + b ≠ c := by omega
        simp [ne]
    · rw [gI_sI, if_pos ⟨rfl, rfl⟩, List.length_append]; rfl
    · rw [gI_sI, if_neg (by omega), gI_sI]
      rw [List.length_append] at hj
      by_cases ej : j = Cs.length
      · rw [if_pos ⟨rfl, ej⟩, ej, List.getD_eq_getElem?_getD]; simp
      · have hj2 : j < Cs.length := by simp at hj; omega
        rw [if_neg (fun q => ej q.2), gI_sL, hC j hj2, List.getD_eq_getElem?_getD, List.getD_eq_getElem?_getD, List.getElem?_append_left hj2]
    · rw [List.nodup_append]
      exact ⟨hnd, by simp, fun a ha b hb e => hnin (by simp at hb; rw [← hb, ← e]; exact ha)⟩
    · intro x hx
      rcases List.mem_append.mp hx with hx | hx
      · exact hf x hx
      · simp at hx; rw [hx]; exact hc
    · funext k
      rw [gI_sI, if_neg (fun q => h1 q.1), gI_sI, if_neg (fun q => h2 q.1), gI_sL]
    · rw [gI_sI, if_neg (fun q => hk q.2), gI_sI, if_neg (by omega), gI_sL]
    · funext k
      rw [gL_sI, gL_sI, gL_sL, if_neg (fun q => ha q.1)]
  refine V_aloadn0 dX0_admit_0 ?_
  refine V_iloadn1 dX0_admit_1 ?_
  refine V_callV1 (μ' := mX0_isMarked) dX0_admit_2 okX0_isMarked lX0_44 rfl (by first | assumption | rfl) (by first | decide | omega) (Nat.le_of_ble_eq_true rfl) (Nat.le_of_ble_eq_true rfl) (by omega) ?_
  refine c_isMarked hc2 f3 hM ?_
  dsimp only [gPush]
  first | refine U_ifB_ne (tgt := 18) dX0_admit_5 (by decide) (by with_reducible rfl) (fun c5 => ?_) (fun c5 => ?_) | refine U_if_ne (tgt := 18) dX0_admit_5 (by decide) (by with_reducible rfl) (by omega) (fun c5 => ?_) (fun c5 => ?_) | refine V_if_ne (tgt := 18) dX0_admit_5 (by decide) (fun c5 => ?_) (fun c5 => ?_)
  · skip
    have hin : c ∈ Cs := of_decide_eq_true c5
    refine V_ret dX0_admit_18 rfl ?_
    first | exact hQ h Cs hJ ⟨[], by simp⟩ hin FrA.rf | exact done hnin
  · skip
    have hnin : c ∉ Cs := of_decide_eq_false c5
    refine V_aloadn0 dX0_admit_8 ?_
    refine V_getI dX0_admit_9 fX0_33 (Or.inl rfl) (by first | assumption | rfl) (by first | decide | omega) (by first | assumption | rfl) ?_
    refine V_sipush (v := nI 512) dX0_admit_12 (by decide) ?_
    first | refine U_icmp_lt (tgt := 19) dX0_admit_15 (by decide) (by with_reducible rfl) (by with_reducible rfl) (by omega) (by omega) (fun c15 => ?_) (fun c15 => ?_) | refine V_icmp_lt (tgt := 19) dX0_admit_15 (by decide) (fun c15 => ?_) (fun c15 => ?_)
    · skip
      refine V_aloadn0 dX0_admit_19 ?_
      refine V_getR dX0_admit_20 fX0_15 (by first | assumption | rfl) (by first | decide | omega) (by first | assumption | rfl) ?_
      refine V_iloadn1 dX0_admit_23 ?_
      refine V_bipush (v := nI 6) dX0_admit_24 (by decide) ?_
      refine V_ishr dX0_admit_26 ?_
      refine V_topI e6 ?_
      refine V_dup2 dX0_admit_27 ?_
      refine U_lald dX0_admit_28 (by with_reducible rfl) (by first | assumption | rfl) (by first | decide | omega) (by omega) (by first | assumption | rfl) ?_
      refine V_lconst (v := lN 1) dX0_admit_29 (by decide) ?_
      refine V_iloadn1 dX0_admit_30 ?_
      refine V_bipush (v := nI 63) dX0_admit_31 (by decide) ?_
      refine V_iand dX0_admit_33 ?_
      refine V_topI e63 ?_
      refine V_lshl dX0_admit_34 (wb_shl _ (by omega)) ?_
      refine V_lor dX0_admit_35 ?_
      refine V_topL eor ?_
      refine U_last dX0_admit_36 (by with_reducible rfl) (by first | assumption | rfl) (by first | decide | omega) (by omega) ?_
      refine V_aloadn0 dX0_admit_37 ?_
      refine V_getR dX0_admit_38 fX0_19 (by first | assumption | rfl) (by first | decide | omega) (by first | assumption | rfl) ?_
      refine V_aloadn0 dX0_admit_41 ?_
      refine V_getI dX0_admit_42 fX0_33 (Or.inl rfl) (by first | assumption | rfl) (by first | decide | omega) (by first | assumption | rfl) ?_
      refine V_iloadn1 dX0_admit_45 ?_
      refine U_iast dX0_admit_46 (by with_reducible rfl) (by first | assumption | rfl) (by first | decide | omega) (by omega) ?_
      refine V_aloadn0 dX0_admit_47 ?_
      first | refine V_dupa dX0_admit_48 ?_ | refine V_dupi dX0_admit_48 ?_
      refine V_getI dX0_admit_49 fX0_33 (Or.inl rfl) (by first | assumption | rfl) (by first | decide | omega) (by first | assumption | rfl) ?_
      refine V_iconst (v := nI 1) dX0_admit_52 (by decide) ?_
      first | refine U_iadd dX0_admit_53 (by with_reducible rfl) (by with_reducible rfl) ?_ | refine V_iadd dX0_admit_53 ?_
      refine V_putI dX0_admit_54 fX0_33 (by first | assumption | rfl) (by first | decide | omega) ?_
      refine V_ret dX0_admit_57 rfl ?_
      first | exact hQ h Cs hJ ⟨[], by simp⟩ hin FrA.rf | exact done hnin
    · skip
      omega
end C39
