/-! ===== the class: shapes ===== -/
/-- the digits tell a shape -/
def shOk (D n : Nat) : Bool := decide (ndF 10 D ≤ n) && ((List.range (ndF 10 D)).all (fun r => decide ((if r + 1 = ndF 10 D then 1 else (digL D (ndF 10 D)).getD (r + 1) 0) ≤ (digL D (ndF 10 D)).getD r 0)) && decide ((digL D (ndF 10 D)).sum ≤ 6))
theorem shOk_t {D n : Nat} (h1 : ndF 10 D ≤ n) (h2 : ∀ r, r < ndF 10 D → (if r + 1 = ndF 10 D then 1 else (digL D (ndF 10 D)).getD (r + 1) 0) ≤ (digL D (ndF 10 D)).getD r 0) : shOk D n = decide ((digL D (ndF 10 D)).sum ≤ 6) := by
  have e : (List.range (ndF 10 D)).all (fun r => decide ((if r + 1 = ndF 10 D then 1 else (digL D (ndF 10 D)).getD (r + 1) 0) ≤ (digL D (ndF 10 D)).getD r 0)) = true := by
    rw [List.all_eq_true]
    intro r hr
    exact decide_eq_true (h2 r (List.mem_range.mp hr))
  unfold shOk
  rw [decide_eq_true h1, Bool.true_and, e, Bool.true_and]
theorem shOk_f {D n r : Nat} (hr : r < ndF 10 D) (h2 : ¬ (if r + 1 = ndF 10 D then 1 else (digL D (ndF 10 D)).getD (r + 1) 0) ≤ (digL D (ndF 10 D)).getD r 0) : shOk D n = false := by
  unfold shOk
  rw [Bool.and_eq_false_iff]
  right
  rw [Bool.and_eq_false_iff]
  left
  rw [List.all_eq_false]
  exact ⟨r, List.mem_range.mpr hr, by rw [decide_eq_false h2]; exact Bool.false_ne_true⟩
def ShI (h : gH) (s : Nat) (L : List Nat) : Prop := gI h s 0 = nI L.length ∧ gI h s 1 = nI L.sum ∧ (∀ r, r < L.length → gI h (s + 1) r = nI (L.getD r 0)) ∧ L.length ≤ 5 ∧ L.sum ≤ 6 ∧ (∀ r, L.getD r 0 ≤ 6)
def ShL (h : gH) (s : Nat) : Prop := lay s = some (.inr 4) ∧ lay (s + 1) = some (.inl (0, 6)) ∧ s + 1 < 124 ∧ gR h s 2 = some (s + 1)
theorem ShL_fr {h h' : gH} {s : Nat} (a : ShL h s) (e : gR h' = gR h) : ShL h' s := ⟨a.1, a.2.1, a.2.2.1, by rw [e]; exact a.2.2.2⟩
theorem ShI_fr {h h' : gH} {s lo hi : Nat} {L : List Nat} (a : ShI h s L) (f : Fr1 h h' lo hi) (hs : s + 2 ≤ lo ∨ hi ≤ s) : ShI h' s L := by
  obtain ⟨a0, a1, a2, a3⟩ := a
  exact ⟨by rw [f.1 s (by omega)]; exact a0, by rw [f.1 s (by omega)]; exact a1, fun r hr => by rw [f.1 (s + 1) (by omega)]; exact a2 r hr, a3⟩
theorem sum_ge_get : ∀ (L : List Nat) (r : Nat), L.getD r 0 ≤ L.sum
  | [], r => by simp
  | a :: l, 0 => by simp
  | a :: l, r + 1 => by
    have := sum_ge_get l r
    rw [List.getD_cons_succ, List.sum_cons]
    omega
theorem dropsum {L : List Nat} {q : Nat} (hq : q < L.length) : (L.drop q).sum = L.getD q 0 + (L.drop (q + 1)).sum := by
  rw [List.drop_eq_getElem_cons hq, List.sum_cons, List.getD_eq_getElem?_getD, List.getElem?_eq_getElem hq]; rfl
theorem dropsum_le {L : List Nat} {c : Nat} (hc : ∀ r, L.getD r 0 ≤ c) : ∀ q, q ≤ L.length → (L.drop (L.length - q)).sum ≤ q * c
  | 0, _ => by rw [Nat.sub_zero, List.drop_eq_nil_of_le (Nat.le_refl _)]; simp
  | q + 1, hq => by
    rw [dropsum (by omega), show L.length - (q + 1) + 1 = L.length - q by omega]
    have h1 := dropsum_le hc q (by omega)
    have h2 := hc (L.length - (q + 1))
    rw [Nat.succ_mul]
    omega
section C20
variable {Γ : gM} {d : Nat} {h : gH} {Q : Option Value → gH → Prop} {s : Nat}
set_option maxRecDepth 100000 in
set_option maxHeartbeats 4000000 in
theorem c_isTold {D n : Nat} (hd : 1 ≤ d) (hD : D < 2 ^ 31) (hn : n ≤ 5) (hS : ShL h s) (hQt : shOk D n = true → ∀ h', ShI h' s (digL D (ndF 10 D)) → Fr1 h h' s (s + 2) → Q (some (.int (gBo true))) h') (hQf : shOk D n = false → ∀ h', Fr1 h h' s (s + 2) → Q (some (.int (gBo false))) h') :
    V Γ mX4_isTold d 124 124 h 0 [some (.ref s), some (.int (nI D)), some (.int (nI n)), none, none, none] [] Q := by
  obtain ⟨l0, l1, lt, r2⟩ := id hS
  generalize hm : ndF 10 D = m at hQt hQf
  have hm10 : m ≤ 10 := by rw [← hm]; exact ndF_le 10 D
  have hdl := digL_len D m
  have hd9 := digL_le D m
  have loop : ∀ q h1, q ≤ m → m ≤ n → gR h1 = gR h → gI h1 s 0 = nI m → gI h1 s 1 = nI ((digL D m).drop q).sum → (∀ r, q ≤ r → r < m → gI h1 (s + 1) r = nI ((digL D m).getD r 0)) → (∀ r, q ≤ r → r < m → (if r + 1 = m then 1 else (digL D m).getD (r + 1) 0) ≤ (digL D m).getD r 0) → Fr1 h h1 s (s + 2) → V Γ mX4_isTold d 124 124 h1 40 [some (.ref s), some (.int (nI D)), some (.int (nI n)), some (.int (nI (D / 10 ^ (m - q)))), some (.int (nI (if q = m then 1 else (digL D m).getD q 0))), some (.int (nI q - nI 1))] [] Q := by
    intro q
    induction q with
    | zero =>
      intro h1 hq hmn hR z0 z1 zl zc hF
      rw [List.drop_zero] at z1
      have hc := shOk_t (n := n) (by rw [hm]; exact hmn) (by rw [hm]; exact fun r hr => zc r (Nat.zero_le _) hr)
      rw [hm] at hc
      have hs45 : (digL D m).sum ≤ 100 := by
        have := dropsum_le hd9 m (by rw [hdl]; exact Nat.le_refl _)
        rw [hdl, Nat.sub_self, List.drop_zero] at this
        omega
      refine V_iloadw5 dX4_isTold_40 ?_
      refine V_if_lt (tgt := 106) dX4_isTold_42 (by decide) (fun c42 => ?_) (fun c42 => ?_)
      · skip
        refine V_aloadn0 dX4_isTold_106 ?_
        refine V_getI dX4_isTold_107 fX4_23 (Or.inl rfl) (by first | assumption | rfl) (by first | decide | omega) (by first | assumption | rfl) ?_
        refine V_bipush (v := nI 6) dX4_isTold_110 (by decide) ?_
        first | refine U_icmp_gt (tgt := 119) dX4_isTold_112 (by decide) (by with_reducible rfl) (by with_reducible rfl) (by omega) (by omega) (fun c112 => ?_) (fun c112 => ?_) | refine V_icmp_gt (tgt := 119) dX4_isTold_112 (by decide) (fun c112 => ?_) (fun c112 => ?_)
        · skip
          rw [decide_eq_false (by omega)] at hc
          have hQ9 := hQf hc h1 hF
          refine V_iconst (v := nI 0) dX4_isTold_119 (by decide) ?_
          refine V_iret dX4_isTold_120 rfl (by first | exact gBo_nar _ | rfl | decide) ?_
          exact hQ9
        · skip
          rw [decide_eq_true (by omega)] at hc
          have hQ9 := hQt hc h1 ⟨by rw [hdl]; exact z0, z1, fun r hr => zl r (Nat.zero_le _) (by rw [hdl] at hr; exact hr), by rw [hdl]; omega, by omega, fun r => Nat.le_trans (sum_ge_get _ r) (by omega)⟩ hF
          refine V_iconst (v := nI 1) dX4_isTold_115 (by decide) ?_
          refine V_goto (tgt := 120) dX4_isTold_116 (by decide) ?_
          refine V_iret dX4_isTold_120 rfl (by first | exact gBo_nar _ | rfl | decide) ?_
          exact hQ9
      · skip
        exact absurd ((gdec_lt (by omega)).mpr rfl) c42
    | succ q ih =>
      intro h1 hq hmn hR z0 z1 zl zc hF
      have r2' : gR h1 s 2 = some (s + 1) := by rw [hR]; exact r2
      have hx : D / 10 ^ (m - (q + 1)) < 2 ^ 31 := Nat.lt_of_le_of_lt (Nat.div_le_self _ _) hD
      have hdg : (digL D m).getD q 0 = D / 10 ^ (m - (q + 1)) % 10 := by rw [digL_get (by omega), show m - 1 - q = m - (q + 1) by omega]
      have hq9 := hd9 q
      have hbel : (if q + 1 = m then 1 else (digL D m).getD (q + 1) 0) ≤ 9 := by
        have := hd9 (q + 1)
        split <;> omega
      generalize hbe : (if q + 1 = m then 1 else (digL D m).getD (q + 1) 0) = be at hbel ⊢
      generalize hh2 : sI h1 (s + 1) q (nI ((digL D m).getD q 0)) = h2
      have f2 : Fr1 h h2 s (s + 2) := by rw [← hh2]; exact fr_sI hF (by omega) (by omega)
      have r2'' : gR h2 s 2 = some (s + 1) := by rw [← hh2]; exact r2'
      have g2 : gI h2 (s + 1) q = nI ((digL D m).getD q 0) := by rw [← hh2, gI_sI, if_pos ⟨rfl, rfl⟩]
      have e2 : ∀ b, gI h2 s b = gI h1 s b := fun b => by rw [← hh2, gI_sI, if_neg (by omega)]
      have y1 : gI h2 s 1 = nI ((digL D m).drop (q + 1)).sum := by rw [e2]; exact z1
      have hnext : D / 10 ^ (m - (q + 1)) / 10 = D / 10 ^ (m - q) := by rw [Nat.div_div_eq_div_mul, ← Nat.pow_succ, show (m - (q + 1)).succ = m - q by omega]
      have hds : ((digL D m).drop q).sum = ((digL D m).drop (q + 1)).sum + (digL D m).getD q 0 := by rw [dropsum (by omega)]; omega
      rw [gdecP]
      refine V_iloadw5 dX4_isTold_40 ?_
      refine V_if_lt (tgt := 106) dX4_isTold_42 (by decide) (fun c42 => ?_) (fun c42 => ?_)
      · skip
        exact absurd c42 (nI_pos (by omega))
      · skip
        refine V_aloadn0 dX4_isTold_45 ?_
        refine V_getR dX4_isTold_46 fX4_9 (by first | assumption | rfl) (by first | decide | omega) (by first | assumption | rfl) ?_
        refine V_iloadw5 dX4_isTold_49 ?_
        refine V_iloadn3 dX4_isTold_51 ?_
        refine V_bipush (v := nI 10) dX4_isTold_52 (by decide) ?_
        first | refine U_irem dX4_isTold_54 (by with_reducible rfl) (by with_reducible rfl) (by omega) (by omega) (by omega) ?_ | refine V_irem dX4_isTold_54 (by decide) ?_
        refine U_iast dX4_isTold_55 (by with_reducible rfl) (by first | assumption | rfl) (by first | decide | omega) (by omega) ?_
        rw [← hdg, hh2]
        refine V_iloadn3 dX4_isTold_56 ?_
        refine V_bipush (v := nI 10) dX4_isTold_57 (by decide) ?_
        first | refine U_idiv dX4_isTold_59 (by with_reducible rfl) (by with_reducible rfl) (by omega) (by omega) (by omega) ?_ | refine V_idiv dX4_isTold_59 (by decide) ?_
        refine V_istoren3 dX4_isTold_60 (by decide) rfl ?_
        refine V_aloadn0 dX4_isTold_61 ?_
        refine V_getR dX4_isTold_62 fX4_9 (by first | assumption | rfl) (by first | decide | omega) (by first | assumption | rfl) ?_
        refine V_iloadw5 dX4_isTold_65 ?_
        refine U_iald dX4_isTold_67 (by with_reducible rfl) (by first | assumption | rfl) (by first | decide | omega) (by omega) (by first | assumption | rfl) ?_
        refine V_iloadw4 dX4_isTold_68 ?_
        first | refine U_icmp_ge (tgt := 75) dX4_isTold_70 (by decide) (by with_reducible rfl) (by with_reducible rfl) (by omega) (by omega) (fun c70 => ?_) (fun c70 => ?_) | refine V_icmp_ge (tgt := 75) dX4_isTold_70 (by decide) (fun c70 => ?_) (fun c70 => ?_)
        · skip
          refine V_aloadn0 dX4_isTold_75 ?_
          refine V_getR dX4_isTold_76 fX4_9 (by first | assumption | rfl) (by first | decide | omega) (by first | assumption | rfl) ?_
          refine V_iloadw5 dX4_isTold_79 ?_
          refine U_iald dX4_isTold_81 (by with_reducible rfl) (by first | assumption | rfl) (by first | decide | omega) (by omega) (by first | assumption | rfl) ?_
          refine V_istorew4 dX4_isTold_82 (by decide) rfl ?_
          refine V_aloadn0 dX4_isTold_84 ?_
          first | refine V_dupa dX4_isTold_85 ?_ | refine V_dupi dX4_isTold_85 ?_
          refine V_getI dX4_isTold_86 fX4_23 (Or.inl rfl) (by first | assumption | rfl) (by first | decide | omega) (by first | assumption | rfl) ?_
          refine V_aloadn0 dX4_isTold_89 ?_
          refine V_getR dX4_isTold_90 fX4_9 (by first | assumption | rfl) (by first | decide | omega) (by first | assumption | rfl) ?_
          refine V_iloadw5 dX4_isTold_93 ?_
          refine U_iald dX4_isTold_95 (by with_reducible rfl) (by first | assumption | rfl) (by first | decide | omega) (by omega) (by first | assumption | rfl) ?_
          first | refine U_iadd dX4_isTold_96 (by with_reducible rfl) (by with_reducible rfl) ?_ | refine V_iadd dX4_isTold_96 ?_
          refine V_putI dX4_isTold_97 fX4_23 (by first | assumption | rfl) (by first | decide | omega) ?_
          refine V_iinc5 dX4_isTold_100 (by first | exact gdecS _ | rfl) (by decide) rfl ?_
          refine V_goto (tgt := 40) dX4_isTold_103 (by decide) ?_
          rw [hnext, ← hds]
          have eb : (if q = m then 1 else (digL D m).getD q 0) = (digL D m).getD q 0 := by rw [if_neg (by omega)]
          rw [← eb]
          refine ih _ (by omega) hmn (by rw [gR_sI, ← hh2]; exact hR) (by rw [gI_sI, if_neg (by omega), e2]; exact z0) (by rw [gI_sI, if_pos ⟨rfl, rfl⟩]) (fun r a b => ?_) (fun r a b => ?_) (fr_sI f2 (by omega) (by omega))
          · rw [gI_sI, if_neg (by omega), ← hh2, gI_sI]
            by_cases er : r = q
            · rw [if_pos ⟨rfl, er⟩, er]
            · rw [if_neg (fun q => er q.2)]; exact zl r (by omega) b
          · by_cases er : r = q
            · rw [er, hbe]; omega
            · exact zc r (by omega) b
        · skip
          have hc : shOk D n = false := shOk_f (r := q) (by rw [hm]; omega) (by rw [hm, hbe]; omega)
          refine V_iconst (v := nI 0) dX4_isTold_73 (by decide) ?_
          refine V_iret dX4_isTold_74 rfl (by first | exact gBo_nar _ | rfl | decide) ?_
          exact hQf hc h2 f2
  have e0 : gI (sI h s 0 (nI m)) s 0 = nI m := by simp [gI_sI]
  have e1 : gI (sI (sI h s 0 (nI m)) s 1 (nI 0)) s 0 = nI m := by simp [gI_sI]
  have f1 : Fr1 h (sI h s 0 (nI m)) s (s + 2) := fr_sI Fr1.rf (by omega) (by omega)
  refine V_aloadn0 dX4_isTold_0 ?_
  refine V_iloadn1 dX4_isTold_1 ?_
  refine V_callSN1 (μ' := mX9_howManyDigits) dX4_isTold_2 okX9_howManyDigits lX4_15 (Nat.le_of_ble_eq_true rfl) (Nat.le_of_ble_eq_true rfl) (by omega) ?_
  refine c_howManyDigits hD ?_
  rw [hm]
  dsimp only [gPush]
  refine V_putI dX4_isTold_5 fX4_19 (by first | assumption | rfl) (by first | decide | omega) ?_
  refine V_iloadn1 dX4_isTold_8 ?_
  refine V_if_lt (tgt := 20) dX4_isTold_9 (by decide) (fun c9 => ?_) (fun c9 => ?_)
  · skip
    exact absurd c9 (nI_pos hD)
  · skip
    refine V_aloadn0 dX4_isTold_12 ?_
    refine V_getI dX4_isTold_13 fX4_19 (Or.inl rfl) (by first | assumption | rfl) (by first | decide | omega) (by first | assumption | rfl) ?_
    refine V_iloadn2 dX4_isTold_16 ?_
    first | refine U_icmp_le (tgt := 22) dX4_isTold_17 (by decide) (by with_reducible rfl) (by with_reducible rfl) (by omega) (by omega) (fun c17 => ?_) (fun c17 => ?_) | refine V_icmp_le (tgt := 22) dX4_isTold_17 (by decide) (fun c17 => ?_) (fun c17 => ?_)
    · skip
      refine V_aloadn0 dX4_isTold_22 ?_
      refine V_iconst (v := nI 0) dX4_isTold_23 (by decide) ?_
      refine V_putI dX4_isTold_24 fX4_23 (by first | assumption | rfl) (by first | decide | omega) ?_
      refine V_iloadn1 dX4_isTold_27 ?_
      refine V_istoren3 dX4_isTold_28 (by decide) rfl ?_
      refine V_iconst (v := nI 1) dX4_isTold_29 (by decide) ?_
      refine V_istorew4 dX4_isTold_30 (by decide) rfl ?_
      refine V_aloadn0 dX4_isTold_32 ?_
      refine V_getI dX4_isTold_33 fX4_19 (Or.inl rfl) (by first | assumption | rfl) (by first | decide | omega) (by first | assumption | rfl) ?_
      refine V_iconst (v := nI 1) dX4_isTold_36 (by decide) ?_
      first | refine U_isub dX4_isTold_37 (by with_reducible rfl) (by with_reducible rfl) (by omega) ?_ | refine V_isub dX4_isTold_37 ?_
      refine V_istorew5 dX4_isTold_38 (by decide) rfl ?_
      have hs := loop m (sI (sI h s 0 (nI m)) s 1 (nI 0)) (Nat.le_refl _) (by omega) rfl e1 (by rw [List.drop_eq_nil_of_le (by omega), gI_sI, if_pos ⟨rfl, rfl⟩]; rfl) (fun r a b => absurd a (by omega)) (fun r a b => absurd a (by omega)) (fr_sI f1 (by omega) (by omega))
      rw [Nat.sub_self, Nat.pow_zero, Nat.div_one, if_pos rfl] at hs
      exact hs
    · skip
      have hc : shOk D n = false := by unfold shOk; rw [decide_eq_false (by omega), Bool.false_and]
      refine V_iconst (v := nI 0) dX4_isTold_20 (by decide) ?_
      refine V_iret dX4_isTold_21 rfl (by first | exact gBo_nar _ | rfl | decide) ?_
      exact hQf hc _ f1
set_option maxRecDepth 100000 in
set_option maxHeartbeats 4000000 in
theorem c_isToldNeg {n : Nat} {x : Int32} (hd : 1 ≤ d) (hx : x < 0) (hS : ShL h s) (hQ : ∀ h', Fr1 h h' s (s + 2) → Q (some (.int (gBo false))) h') :
    V Γ mX4_isTold d 124 124 h 0 [some (.ref s), some (.int x), some (.int (nI n)), none, none, none] [] Q := by
  obtain ⟨l0, l1, lt, r2⟩ := id hS
  refine V_aloadn0 dX4_isTold_0 ?_
  refine V_iloadn1 dX4_isTold_1 ?_
  refine V_callSN1 (μ' := mX9_howManyDigits) dX4_isTold_2 okX9_howManyDigits lX4_15 (Nat.le_of_ble_eq_true rfl) (Nat.le_of_ble_eq_true rfl) (by omega) ?_
  refine c_howManyDigitsNeg hx ?_
  dsimp only [gPush]
  refine V_putI dX4_isTold_5 fX4_19 (by first | assumption | rfl) (by first | decide | omega) ?_
  refine V_iloadn1 dX4_isTold_8 ?_
  refine V_if_lt (tgt := 20) dX4_isTold_9 (by decide) (fun c9 => ?_) (fun c9 => ?_)
  · skip
    refine V_iconst (v := nI 0) dX4_isTold_20 (by decide) ?_
    refine V_iret dX4_isTold_21 rfl (by first | exact gBo_nar _ | rfl | decide) ?_
    exact hQ _ (fr_sI Fr1.rf (by omega) (by omega))
  · skip
    exact absurd hx c9
set_option maxRecDepth 100000 in
set_option maxHeartbeats 4000000 in
theorem c_lengthOf {r : Nat} {L : List Nat} (hr : r < 1000) (hS : ShL h s) (hI : ShI h s L) (hQ : Q (some (.int (nI (L.getD r 0)))) h) : V Γ mX4_lengthOf d 124 124 h 0 [some (.ref s), some (.int (nI r))] [] Q := by
  obtain ⟨l0, l1, lt, r2⟩ := id hS
  obtain ⟨a0, a1, a2, a3, a4, a5⟩ := hI
  refine V_iloadn1 dX4_lengthOf_0 ?_
  refine V_aloadn0 dX4_lengthOf_1 ?_
  refine V_getI dX4_lengthOf_2 fX4_19 (Or.inl rfl) (by first | assumption | rfl) (by first | decide | omega) (by first | assumption | exact a2 _ (by omega) | rfl) ?_
  first | refine U_icmp_ge (tgt := 17) dX4_lengthOf_5 (by decide) (by with_reducible rfl) (by with_reducible rfl) (by omega) (by omega) (fun c5 => ?_) (fun c5 => ?_) | refine V_icmp_ge (tgt := 17) dX4_lengthOf_5 (by decide) (fun c5 => ?_) (fun c5 => ?_)
  · skip
    have e : L.getD r 0 = 0 := getD_out (by omega)
    rw [e] at hQ
    refine V_iconst (v := nI 0) dX4_lengthOf_17 (by decide) ?_
    refine V_iret dX4_lengthOf_18 rfl rfl ?_
    exact hQ
  · skip
    refine V_aloadn0 dX4_lengthOf_8 ?_
    refine V_getR dX4_lengthOf_9 fX4_9 (by first | assumption | rfl) (by first | decide | omega) (by first | assumption | exact a2 _ (by omega) | rfl) ?_
    refine V_iloadn1 dX4_lengthOf_12 ?_
    refine U_iald dX4_lengthOf_13 (by with_reducible rfl) (by first | assumption | rfl) (by first | decide | omega) (by omega) (by first | assumption | exact a2 _ (by omega) | rfl) ?_
    refine V_goto (tgt := 18) dX4_lengthOf_14 (by decide) ?_
    refine V_iret dX4_lengthOf_18 rfl rfl ?_
    exact hQ
end C20
