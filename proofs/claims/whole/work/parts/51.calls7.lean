/-! ===== the class: worths, lots, what is kept, sheets ===== -/
theorem hp_nI {a b l : Nat} (ha : a < 2 ^ 31) (hb : b < 2 ^ 31) (hl : l < 2 ^ 31) : hpB (nI a) (nI b) l = decide (a + b ≤ l) := by
  unfold hpB
  rw [decide_eq_true (nI_pos' ha), decide_eq_true (nI_pos' hb), Bool.true_and, Bool.true_and, nI_l ha, nI_l hb, nI_l hl, lN_add]
  have e1 : (lN (a + b)).toInt = ((a + b : Nat) : Int) := lg_ofNat_toInt (by omega)
  have e2 : (lN l).toInt = (l : Int) := lg_ofNat_toInt (by omega)
  have e : lN (a + b) ≤ lN l ↔ a + b ≤ l := by rw [Int64.le_iff_toInt_le, e1, e2]; omega
  by_cases h : a + b ≤ l
  · rw [decide_eq_true h, decide_eq_true (e.mpr h)]
  · rw [decide_eq_false h, decide_eq_false (fun q => h (e.mp q))]
theorem hp_t {x y : Int32} {l : Nat} (hl : l < 2 ^ 31) (h : hpB x y l = true) : ∃ a b, a < 2 ^ 31 ∧ b < 2 ^ 31 ∧ x = nI a ∧ y = nI b ∧ a + b ≤ l := by
  have h2 := h
  unfold hpB at h2
  simp only [Bool.and_eq_true, decide_eq_true_eq] at h2
  obtain ⟨a, ha, rfl⟩ := nI_of (Int32.not_lt.mpr h2.1)
  obtain ⟨b, hb, rfl⟩ := nI_of (Int32.not_lt.mpr h2.2.1)
  rw [hp_nI ha hb hl] at h
  exact ⟨a, b, ha, hb, rfl, rfl, of_decide_eq_true h⟩
theorem hp_1 {x : Int32} {l : Nat} (hl : l < 2 ^ 31) : hpB x (nI 1) l = inB x l := by
  by_cases h : x < 0
  · unfold hpB inB
    rw [decide_eq_false (Int32.not_le.mpr h), Bool.false_and, Bool.false_and]
  · obtain ⟨a, ha, rfl⟩ := nI_of h
    rw [hp_nI ha (by decide) hl]
    by_cases h1 : a + 1 ≤ l
    · rw [decide_eq_true h1, inB_nI (by omega) hl]
    · rw [decide_eq_false h1]
      symm
      unfold inB
      rw [decide_eq_false (fun q => h1 ((nI_ltI ha hl).mp q)), Bool.and_false]
theorem soI_z (so : Nat) (h : so ≤ 3) : decide (soI so = -1) = decide (so = 0) := by
  match so, h with
  | 0, _ => decide
  | 1, _ => decide
  | 2, _ => decide
  | 3, _ => decide
  | k + 4, h => omega
theorem soI_p {so : Nat} (h : so ≠ 0) : soI so = nI (so - 1) := if_neg h
theorem cut_small : ∀ x, x < 10 → ∀ so, so < 2 → cutS so (nI x) = nI x := by decide
theorem RC_now {h h' : gH} {S : GS} {A : SS} (hR : RC h S) (hA : RS h' 1 A) (hW : WS A) (e : ∀ a, a < 1 ∨ 22 ≤ a → gI h' a = gI h a) (l : gL h' = gL h) (k : gR h' = gR h) : RC h' (A, S.2) := by
  obtain ⟨c1, c2, c3, c4, c5, c6, c7, c8⟩ := hR
  exact ⟨CLay_eq c1 k, ⟨hW, c2.2⟩, hA, by rw [e 0 (by omega)]; exact c4, fun K hK => RS_cg (c5 K hK) (fun a h1 h2 => e a (by omega)), TpB_cg c6 (by rw [e 43 (by omega)]) (e 44 (by omega)), fun s hs => ShtI_cg (c7 s hs) (e _ (by omega)) (by rw [l]), FamI_cg c8 (e 58 (by omega)) (by rw [l])⟩
theorem RC_sh {h h' : gH} {S : GS} {s : Nat} {X : Nat × Nat × (Nat → Int32)} (hR : RC h S) (hs : s < 4) (hX : ShtI h' (86 + 2 * s) X) (hb : X.1 ≤ 3 ∧ X.2.1 ≤ 40 ∧ (X.1 = 0 → X.2.1 = 0)) (e : ∀ a, a ≠ 86 + 2 * s → gI h' a = gI h a) (l : ∀ a, a ≠ 86 + 2 * s + 1 → gL h' a = gL h a) (k : gR h' = gR h) : RC h' (setSh S s X) := by
  obtain ⟨c1, c2, c3, c4, c5, c6, c7, c8⟩ := hR
  refine ⟨CLay_eq c1 k, ⟨c2.1, c2.2.1, c2.2.2.1, fun q hq => ?_⟩, RS_cg c3 (fun a h1 h2 => e a (by omega)), by rw [e 0 (by omega)]; exact c4, fun K hK => RS_cg (c5 K hK) (fun a h1 h2 => e a (by omega)), TpB_cg c6 (by rw [e 43 (by omega)]) (e 44 (by omega)), fun q hq => ?_, FamI_cg c8 (e 58 (by omega)) (l 59 (by omega))⟩
  · show (if q = s then X else S.2.2.2 q).1 ≤ 3 ∧ (if q = s then X else S.2.2.2 q).2.1 ≤ 40 ∧ ((if q = s then X else S.2.2.2 q).1 = 0 → (if q = s then X else S.2.2.2 q).2.1 = 0)
    by_cases h1 : q = s
    · rw [if_pos h1]; exact hb
    · rw [if_neg h1]; exact c2.2.2.2 q hq
  · show ShtI h' (86 + 2 * q) (if q = s then X else S.2.2.2 q)
    by_cases h1 : q = s
    · subst h1; rw [if_pos rfl]; exact hX
    · rw [if_neg h1]; exact ShtI_cg (c7 q hq) (e _ (by omega)) (l _ (by omega))
theorem zHi_v (z : Int32) : zHi z = nI (cN (zHi z)) ∧ cN (zHi z) < 65536 := by
  have h1 : (zHi z).toBitVec.toNat = z.toBitVec.toNat / 2 ^ 16 := pk_ushr z (nI 16) 16 (by decide)
  have h2 := z.toBitVec.isLt
  obtain ⟨n, hn, e⟩ := wb_of32 (zHi z)
  have h3 : n < 65536 := by
    have h4 : (nI n).toBitVec.toNat = n := by
      show (BitVec.ofNat 32 n).toNat = n
      rw [BitVec.toNat_ofNat, Nat.mod_eq_of_lt hn]
    rw [e, h4] at h1
    omega
  rw [e, cN_nI (by omega)]
  exact ⟨rfl, h3⟩
theorem WS_put {S : GS} {s : Nat} {T : Thg} {z : Int32} (hW : WS S.1) (hT : WT S.1.1 T) : WS (S.1.1, z, (fun q => if q = s then T else S.1.2.2.1 q), S.1.2.2.2) := by
  refine ⟨hW.1, hW.2.1, fun q hq => ?_, hW.2.2.2⟩
  show WT S.1.1 (if q = s then T else S.1.2.2.1 q)
  split
  · exact hT
  · exact hW.2.2.1 q hq
section C51
variable {Γ : gM} {d : Nat} {h : gH} {Q : Option Value → gH → Prop} {S : GS}

set_option maxRecDepth 100000 in
set_option maxHeartbeats 4000000 in
theorem c_worth {l v : Int32} (hd : 1 ≤ d) (hR : RC h S) (hQ : ∀ h', RC h' (f_worth S l v).2 → FrC h h' → Q (some (.int (f_worth S l v).1)) h') : V Γ mX9_worth d 124 124 h 0 [some (.ref 0), some (.int l), some (.int v), none] [] Q := by
  obtain ⟨hC, hW, hA, hK, hK2, hB, hSh, hFm⟩ := id hR
  have n0 := hA.1
  have hn2 := hW.1.1
  have hn5 := hW.1.2.1
  by_cases hg : (inR l 1 S.1.1 && inR v 0 99) = true
  · have hg2 := hg
    rw [Bool.and_eq_true] at hg2
    obtain ⟨j, j1, j2, rfl⟩ := inR_t (by omega) (by omega) hg2.1
    obtain ⟨k, k0, k99, rfl⟩ := inR_t (by decide) (by decide) hg2.2
    have eq0 : f_worth S (nI j) (nI k) = _ := if_t hg
    rw [eq0, cN_nI (by omega), cN_nI (by omega)] at hQ
    have w1 := hA.2.2.2 j j1 (by omega)
    have fin : Q (some (.int (nI (S.1.2.2.2 j)))) (sI h 3 j (nI k)) := by
      refine hQ _ (RC_now hR (A := (S.1.1, S.1.2.1, S.1.2.2.1, fun q => if q = j then k else S.1.2.2.2 q)) ⟨?_, ?_, fun s hs => TI_fr (hA.2.2.1 s hs) (fr_sI (lo := 3) (hi := 4) Fr1.rf (by omega) (by omega)) (by omega), fun q q1 q2 => ?_⟩ ⟨hn2, hn5, hW.1.2.2.1, fun q => ?_⟩ (fun a ha => ?_) rfl rfl) ((fr_sI (lo := 3) (hi := 4) Fr1.rf (by omega) (by omega)).toC (by omega))
      · rw [gI_sI, if_neg (by omega)]; exact hA.1
      · rw [gI_sI, if_neg (by omega)]; exact hA.2.1
      · show gI (sI h 3 j (nI k)) 3 q = nI (if q = j then k else S.1.2.2.2 q)
        rw [gI_sI]
        by_cases e : q = j
        · rw [if_pos ⟨rfl, e⟩, if_pos e]
        · rw [if_neg (fun z => e z.2), if_neg e]; exact hA.2.2.2 q q1 q2
      · show (if q = j then k else S.1.2.2.2 q) ≤ 99
        split
        · omega
        · exact hW.1.2.2.2 q
      · funext b
        rw [gI_sI, if_neg (by omega)]
    refine V_aloadn0 dX9_worth_0 ?_
    refine V_iloadn1 dX9_worth_1 ?_
    refine V_callV1 (μ' := mX9_isLetter) dX9_worth_2 okX9_isLetter lX9_254 rfl (by first | assumption | rfl | exact lay_s0 (by omega) | exact lay_s1 (by omega) | exact lay_s2 (by omega) | exact lay_h0 (by omega) | exact lay_h1 (by omega)) (by first | decide | omega) (Nat.le_of_ble_eq_true rfl) (Nat.le_of_ble_eq_true rfl) (by omega) ?_
    refine c_isLetter hn5 (CL0_0 hC) n0 ?_
    rw [hg2.1]
    dsimp only [gPush]
    first | refine U_ifB_eq (tgt := 18) dX9_worth_5 (by decide) (by with_reducible rfl) (fun c5 => ?_) (fun c5 => ?_) | refine U_if_eq (tgt := 18) dX9_worth_5 (by decide) (by with_reducible rfl) (by omega) (fun c5 => ?_) (fun c5 => ?_) | refine V_if_eq (tgt := 18) dX9_worth_5 (by decide) (fun c5 => ?_) (fun c5 => ?_)
    · skip
      cases c5
    · skip
      refine V_iloadn2 dX9_worth_8 ?_
      refine V_if_lt (tgt := 18) dX9_worth_9 (by decide) (fun c9 => ?_) (fun c9 => ?_)
      · skip
        exact absurd c9 (nI_pos (by omega))
      · skip
        refine V_iloadn2 dX9_worth_12 ?_
        refine V_bipush (v := nI 99) dX9_worth_13 (by decide) ?_
        first | refine U_icmp_le (tgt := 20) dX9_worth_15 (by decide) (by with_reducible rfl) (by with_reducible rfl) (by omega) (by omega) (fun c15 => ?_) (fun c15 => ?_) | refine V_icmp_le (tgt := 20) dX9_worth_15 (by decide) (fun c15 => ?_) (fun c15 => ?_)
        · skip
          refine V_aloadn0 dX9_worth_20 ?_
          refine V_getR dX9_worth_21 fX9_10 (by first | assumption | rfl | exact lay_s0 (by omega) | exact lay_s1 (by omega) | exact lay_s2 (by omega) | exact lay_h0 (by omega) | exact lay_h1 (by omega)) (by first | decide | omega) (by first | assumption | exact CL0_0 (by assumption) | exact CL0_1 (by assumption) | exact CL0_3 (by assumption) | exact CL0_4 (by assumption) | exact CL0_5 (by assumption) | exact CL0_6 (by assumption) | exact CL0_7 (by assumption) | exact CL0_8 (by assumption) | exact CL0_9 (by assumption) | exact CL0_10 (by assumption) | exact CL0_11 (by assumption) | exact CL0_12 (by assumption) | exact CL0_13 (by assumption) | exact CL1_2 (by assumption) | exact CL1_3 (by assumption) | exact CL80_2 (by assumption) | exact CL_slot (by assumption) (by omega) | exact (CL_sh (by assumption) (by omega)).1 | exact (CL_sh (by assumption) (by omega)).2.1 | rfl) ?_
          refine V_getR dX9_worth_24 fX9_257 (by first | assumption | rfl | exact lay_s0 (by omega) | exact lay_s1 (by omega) | exact lay_s2 (by omega) | exact lay_h0 (by omega) | exact lay_h1 (by omega)) (by first | decide | omega) (by first | assumption | exact CL0_0 (by assumption) | exact CL0_1 (by assumption) | exact CL0_3 (by assumption) | exact CL0_4 (by assumption) | exact CL0_5 (by assumption) | exact CL0_6 (by assumption) | exact CL0_7 (by assumption) | exact CL0_8 (by assumption) | exact CL0_9 (by assumption) | exact CL0_10 (by assumption) | exact CL0_11 (by assumption) | exact CL0_12 (by assumption) | exact CL0_13 (by assumption) | exact CL1_2 (by assumption) | exact CL1_3 (by assumption) | exact CL80_2 (by assumption) | exact CL_slot (by assumption) (by omega) | exact (CL_sh (by assumption) (by omega)).1 | exact (CL_sh (by assumption) (by omega)).2.1 | rfl) ?_
          refine V_iloadn1 dX9_worth_27 ?_
          refine U_iald dX9_worth_28 (by with_reducible rfl) (by first | assumption | rfl | exact lay_s0 (by omega) | exact lay_s1 (by omega) | exact lay_s2 (by omega) | exact lay_h0 (by omega) | exact lay_h1 (by omega)) (by first | decide | omega) (by omega) (by first | assumption | exact CL0_0 (by assumption) | exact CL0_1 (by assumption) | exact CL0_3 (by assumption) | exact CL0_4 (by assumption) | exact CL0_5 (by assumption) | exact CL0_6 (by assumption) | exact CL0_7 (by assumption) | exact CL0_8 (by assumption) | exact CL0_9 (by assumption) | exact CL0_10 (by assumption) | exact CL0_11 (by assumption) | exact CL0_12 (by assumption) | exact CL0_13 (by assumption) | exact CL1_2 (by assumption) | exact CL1_3 (by assumption) | exact CL80_2 (by assumption) | exact CL_slot (by assumption) (by omega) | exact (CL_sh (by assumption) (by omega)).1 | exact (CL_sh (by assumption) (by omega)).2.1 | rfl) ?_
          refine V_istoren3 dX9_worth_29 (by decide) rfl ?_
          refine V_aloadn0 dX9_worth_30 ?_
          refine V_getR dX9_worth_31 fX9_10 (by first | assumption | rfl | exact lay_s0 (by omega) | exact lay_s1 (by omega) | exact lay_s2 (by omega) | exact lay_h0 (by omega) | exact lay_h1 (by omega)) (by first | decide | omega) (by first | assumption | exact CL0_0 (by assumption) | exact CL0_1 (by assumption) | exact CL0_3 (by assumption) | exact CL0_4 (by assumption) | exact CL0_5 (by assumption) | exact CL0_6 (by assumption) | exact CL0_7 (by assumption) | exact CL0_8 (by assumption) | exact CL0_9 (by assumption) | exact CL0_10 (by assumption) | exact CL0_11 (by assumption) | exact CL0_12 (by assumption) | exact CL0_13 (by assumption) | exact CL1_2 (by assumption) | exact CL1_3 (by assumption) | exact CL80_2 (by assumption) | exact CL_slot (by assumption) (by omega) | exact (CL_sh (by assumption) (by omega)).1 | exact (CL_sh (by assumption) (by omega)).2.1 | rfl) ?_
          refine V_getR dX9_worth_34 fX9_257 (by first | assumption | rfl | exact lay_s0 (by omega) | exact lay_s1 (by omega) | exact lay_s2 (by omega) | exact lay_h0 (by omega) | exact lay_h1 (by omega)) (by first | decide | omega) (by first | assumption | exact CL0_0 (by assumption) | exact CL0_1 (by assumption) | exact CL0_3 (by assumption) | exact CL0_4 (by assumption) | exact CL0_5 (by assumption) | exact CL0_6 (by assumption) | exact CL0_7 (by assumption) | exact CL0_8 (by assumption) | exact CL0_9 (by assumption) | exact CL0_10 (by assumption) | exact CL0_11 (by assumption) | exact CL0_12 (by assumption) | exact CL0_13 (by assumption) | exact CL1_2 (by assumption) | exact CL1_3 (by assumption) | exact CL80_2 (by assumption) | exact CL_slot (by assumption) (by omega) | exact (CL_sh (by assumption) (by omega)).1 | exact (CL_sh (by assumption) (by omega)).2.1 | rfl) ?_
          refine V_iloadn1 dX9_worth_37 ?_
          refine V_iloadn2 dX9_worth_38 ?_
          refine U_iast dX9_worth_39 (by with_reducible rfl) (by first | assumption | rfl | exact lay_s0 (by omega) | exact lay_s1 (by omega) | exact lay_s2 (by omega) | exact lay_h0 (by omega) | exact lay_h1 (by omega)) (by first | decide | omega) (by omega) ?_
          refine V_iloadn3 dX9_worth_40 ?_
          refine V_iret dX9_worth_41 rfl rfl ?_
          exact fin
        · skip
          omega
  · have eq0 : f_worth S l v = (-1, S) := if_neg hg
    rw [eq0] at hQ
    have hQ9 := hQ h hR FrC.rf
    refine V_aloadn0 dX9_worth_0 ?_
    refine V_iloadn1 dX9_worth_1 ?_
    refine V_callV1 (μ' := mX9_isLetter) dX9_worth_2 okX9_isLetter lX9_254 rfl (by first | assumption | rfl | exact lay_s0 (by omega) | exact lay_s1 (by omega) | exact lay_s2 (by omega) | exact lay_h0 (by omega) | exact lay_h1 (by omega)) (by first | decide | omega) (Nat.le_of_ble_eq_true rfl) (Nat.le_of_ble_eq_true rfl) (by omega) ?_
    refine c_isLetter hn5 (CL0_0 hC) n0 ?_
    dsimp only [gPush]
    first | refine U_ifB_eq (tgt := 18) dX9_worth_5 (by decide) (by with_reducible rfl) (fun c5 => ?_) (fun c5 => ?_) | refine U_if_eq (tgt := 18) dX9_worth_5 (by decide) (by with_reducible rfl) (by omega) (fun c5 => ?_) (fun c5 => ?_) | refine V_if_eq (tgt := 18) dX9_worth_5 (by decide) (fun c5 => ?_) (fun c5 => ?_)
    · skip
      refine V_iconst (v := -1) dX9_worth_18 (by decide) ?_
      refine V_iret dX9_worth_19 rfl rfl ?_
      exact hQ9
    · skip
      refine V_iloadn2 dX9_worth_8 ?_
      refine V_if_lt (tgt := 18) dX9_worth_9 (by decide) (fun c9 => ?_) (fun c9 => ?_)
      · skip
        refine V_iconst (v := -1) dX9_worth_18 (by decide) ?_
        refine V_iret dX9_worth_19 rfl rfl ?_
        exact hQ9
      · skip
        refine V_iloadn2 dX9_worth_12 ?_
        refine V_bipush (v := nI 99) dX9_worth_13 (by decide) ?_
        first | refine U_icmp_le (tgt := 20) dX9_worth_15 (by decide) (by with_reducible rfl) (by with_reducible rfl) (by omega) (by omega) (fun c15 => ?_) (fun c15 => ?_) | refine V_icmp_le (tgt := 20) dX9_worth_15 (by decide) (fun c15 => ?_) (fun c15 => ?_)
        · skip
          exact absurd (by rw [c5, inR_in0 c9 c15]; rfl) hg
        · skip
          refine V_iconst (v := -1) dX9_worth_18 (by decide) ?_
          refine V_iret dX9_worth_19 rfl rfl ?_
          exact hQ9

set_option maxRecDepth 100000 in
set_option maxHeartbeats 4000000 in
theorem c_seed {v : Int32} (hd : 1 ≤ d) (hR : RC h S) (hQ : ∀ h', RC h' (f_seed S v).2 → FrC h h' → Q (some (.int (f_seed S v).1)) h') : V Γ mX9_seed d 124 124 h 0 [some (.ref 0), some (.int v), none] [] Q := by
  obtain ⟨hC, hW, hA, hK, hK2, hB, hSh, hFm⟩ := id hR
  have n0 := hA.1
  have hn2 := hW.1.1
  have hn5 := hW.1.2.1
  have z0 := hA.2.1
  have fin : Q (some (.int S.1.2.1)) (sI h 1 1 v) := by
    refine hQ _ (RC_now hR (A := (S.1.1, v, S.1.2.2)) ⟨?_, ?_, fun s hs => TI_fr (hA.2.2.1 s hs) (fr_sI (lo := 1) (hi := 2) Fr1.rf (by omega) (by omega)) (by omega), fun q q1 q2 => ?_⟩ hW.1 (fun a ha => ?_) rfl rfl) ((fr_sI (lo := 1) (hi := 2) Fr1.rf (by omega) (by omega)).toC (by omega))
    · rw [gI_sI, if_neg (by omega)]; exact hA.1
    · rw [gI_sI, if_pos ⟨rfl, rfl⟩]
    · rw [gI_sI, if_neg (by omega)]; exact hA.2.2.2 q q1 q2
    · funext b
      rw [gI_sI, if_neg (by omega)]
  refine V_aloadn0 dX9_seed_0 ?_
  refine V_getR dX9_seed_1 fX9_10 (by first | assumption | rfl | exact lay_s0 (by omega) | exact lay_s1 (by omega) | exact lay_s2 (by omega) | exact lay_h0 (by omega) | exact lay_h1 (by omega)) (by first | decide | omega) (by first | assumption | exact CL0_0 (by assumption) | exact CL0_1 (by assumption) | exact CL0_3 (by assumption) | exact CL0_4 (by assumption) | exact CL0_5 (by assumption) | exact CL0_6 (by assumption) | exact CL0_7 (by assumption) | exact CL0_8 (by assumption) | exact CL0_9 (by assumption) | exact CL0_10 (by assumption) | exact CL0_11 (by assumption) | exact CL0_12 (by assumption) | exact CL0_13 (by assumption) | exact CL1_2 (by assumption) | exact CL1_3 (by assumption) | exact CL80_2 (by assumption) | exact CL_slot (by assumption) (by omega) | exact (CL_sh (by assumption) (by omega)).1 | exact (CL_sh (by assumption) (by omega)).2.1 | rfl) ?_
  refine V_getI dX9_seed_4 fX9_270 (Or.inl rfl) (by first | assumption | rfl | exact lay_s0 (by omega) | exact lay_s1 (by omega) | exact lay_s2 (by omega) | exact lay_h0 (by omega) | exact lay_h1 (by omega)) (by first | decide | omega) (by first | assumption | exact CL0_0 (by assumption) | exact CL0_1 (by assumption) | exact CL0_3 (by assumption) | exact CL0_4 (by assumption) | exact CL0_5 (by assumption) | exact CL0_6 (by assumption) | exact CL0_7 (by assumption) | exact CL0_8 (by assumption) | exact CL0_9 (by assumption) | exact CL0_10 (by assumption) | exact CL0_11 (by assumption) | exact CL0_12 (by assumption) | exact CL0_13 (by assumption) | exact CL1_2 (by assumption) | exact CL1_3 (by assumption) | exact CL80_2 (by assumption) | exact CL_slot (by assumption) (by omega) | exact (CL_sh (by assumption) (by omega)).1 | exact (CL_sh (by assumption) (by omega)).2.1 | rfl) ?_
  refine V_istoren2 dX9_seed_7 (by decide) rfl ?_
  refine V_aloadn0 dX9_seed_8 ?_
  refine V_getR dX9_seed_9 fX9_10 (by first | assumption | rfl | exact lay_s0 (by omega) | exact lay_s1 (by omega) | exact lay_s2 (by omega) | exact lay_h0 (by omega) | exact lay_h1 (by omega)) (by first | decide | omega) (by first | assumption | exact CL0_0 (by assumption) | exact CL0_1 (by assumption) | exact CL0_3 (by assumption) | exact CL0_4 (by assumption) | exact CL0_5 (by assumption) | exact CL0_6 (by assumption) | exact CL0_7 (by assumption) | exact CL0_8 (by assumption) | exact CL0_9 (by assumption) | exact CL0_10 (by assumption) | exact CL0_11 (by assumption) | exact CL0_12 (by assumption) | exact CL0_13 (by assumption) | exact CL1_2 (by assumption) | exact CL1_3 (by assumption) | exact CL80_2 (by assumption) | exact CL_slot (by assumption) (by omega) | exact (CL_sh (by assumption) (by omega)).1 | exact (CL_sh (by assumption) (by omega)).2.1 | rfl) ?_
  refine V_iloadn1 dX9_seed_12 ?_
  refine V_putI dX9_seed_13 fX9_270 (by first | assumption | rfl | exact lay_s0 (by omega) | exact lay_s1 (by omega) | exact lay_s2 (by omega) | exact lay_h0 (by omega) | exact lay_h1 (by omega)) (by first | decide | omega) ?_
  refine V_iloadn2 dX9_seed_16 ?_
  refine V_iret dX9_seed_17 rfl rfl ?_
  exact fin

set_option maxRecDepth 100000 in
set_option maxHeartbeats 4000000 in
theorem c_lot {x k : Int32} (hd : 2 ≤ d) (hR : RC h S) (hQ : ∀ h', RC h' (f_lot S x k).2 → FrC h h' → Q (some (.int (f_lot S x k).1)) h') : V Γ mX9_lot d 124 124 h 0 [some (.ref 0), some (.int x), some (.int k), none, none] [] Q := by
  obtain ⟨hC, hW, hA, hK, hK2, hB, hSh, hFm⟩ := id hR
  have n0 := hA.1
  have hn2 := hW.1.1
  have hn5 := hW.1.2.1
  by_cases hg : (inB x 6 && inR k 0 6) = true
  · have hg2 := hg
    rw [Bool.and_eq_true] at hg2
    obtain ⟨s, hs, rfl⟩ := inB_t (by decide) hg2.1
    obtain ⟨m, m0, m6, rfl⟩ := inR_t (by decide) (by decide) hg2.2
    have eq0 : f_lot S (nI s) (nI m) = _ := if_t hg
    unfold loR at eq0
    rw [eq0, cN_nI (by omega), cN_nI (by omega)] at hQ
    generalize hRR : ltF S.1.1 m S.1.2.1 [] = R at hQ
    obtain ⟨l0, l1, l2, lt, r2, r4⟩ := CL_T hC hs
    have loop : ∀ f p h1 z w, p + f = m → w.length = p → ltF S.1.1 f z w = R → LtW S.1.1 w → gI h1 1 0 = nI S.1.1 → gI h1 1 1 = z → gI h1 (4 + 3 * s) 0 = nI 1 → gI h1 (4 + 3 * s) 1 = nI m → gI h1 (4 + 3 * s) 3 = nI 0 → (∀ j, j < p → gI h1 (4 + 3 * s + 1) j = nI (w.getD j 0)) → (∀ a, a ≠ 1 → a ≠ 4 + 3 * s → a ≠ 4 + 3 * s + 1 → gI h1 a = gI h a) → gL h1 = gL h → gR h1 = gR h → V Γ mX9_lot d 124 124 h1 37 [some (.ref 0), some (.int (nI s)), some (.int (nI m)), some (.ref (4 + 3 * s)), some (.int (nI p))] [] Q := by
      intro f
      induction f with
      | zero =>
        intro p h1 z w hp hwl hlt hw i0 i1 t0 t1 t3 tw e1 g1 k1
        have hC1 := CLay_eq hC k1
        have epm : p = m := by omega
        subst epm
        have hR' : R = (z, w) := hlt.symm
        subst hR'
        have hb : ∀ j, w.getD j 0 ≤ 9 := fun j => by
          by_cases c : j < w.length
          · have := (hw j c).2; omega
          · rw [List.getD_eq_getElem?_getD, List.getElem?_eq_none (by omega)]; decide
        have hTI : TI h1 (4 + 3 * s) 1 w [] := ⟨t0, by rw [t1, hwl], t3, fun j hj => tw j (by omega), fun r hr => absurd hr (Nat.not_lt_zero _), by omega, by decide, hb, fun r => by simp, by decide⟩
        have hWT := WT_word (n := S.1.1) (w := w) (by omega) hw
        have fin : Q (some (.int (nI (numF w 0 w.length)))) h1 := by
          refine hQ h1 (RC_now (S := S) hR (A := (S.1.1, z, (fun q => if q = s then (1, w, []) else S.1.2.2.1 q), S.1.2.2.2)) ⟨i0, i1, fun q hq => ?_, fun q q1 q2 => ?_⟩ (WS_put hW.1 hWT) (fun a ha => e1 a (by omega) (by omega) (by omega)) g1 k1) ⟨fun a ha => e1 a (by omega) (by omega) (by omega), fun a ha => by rw [g1], fun a ha => by rw [k1]⟩
          · show TI h1 (1 + 3 + 3 * q) (if q = s then ((1, w, []) : Thg) else S.1.2.2.1 q).1 (if q = s then ((1, w, []) : Thg) else S.1.2.2.1 q).2.1 (if q = s then ((1, w, []) : Thg) else S.1.2.2.1 q).2.2
            by_cases e : q = s
            · subst e; rw [if_pos rfl, show 1 + 3 + 3 * q = 4 + 3 * q by omega]; exact hTI
            · rw [if_neg e]
              exact TI_cg (hA.2.2.1 q hq) (fun a a1 a2 => e1 a (by omega) (by omega) (by omega))
          · rw [e1 (1 + 2) (by omega) (by omega) (by omega)]; exact hA.2.2.2 q q1 q2
        refine V_iloadw4 dX9_lot_37 ?_
        refine V_iloadn2 dX9_lot_39 ?_
        first | refine U_icmp_ge (tgt := 73) dX9_lot_40 (by decide) (by with_reducible rfl) (by with_reducible rfl) (by omega) (by omega) (fun c40 => ?_) (fun c40 => ?_) | refine V_icmp_ge (tgt := 73) dX9_lot_40 (by decide) (fun c40 => ?_) (fun c40 => ?_)
        · skip
          refine V_aloadn3 dX9_lot_73 ?_
          refine V_callV0 (μ' := mX8_number) dX9_lot_74 okX8_number lX9_139 rfl (by first | assumption | rfl | exact lay_s0 (by omega) | exact lay_s1 (by omega) | exact lay_s2 (by omega) | exact lay_h0 (by omega) | exact lay_h1 (by omega)) (by first | decide | omega) (Nat.le_of_ble_eq_true rfl) (Nat.le_of_ble_eq_true rfl) (by omega) ?_
          refine c_number (by omega) (CL_T hC1 hs) hTI ?_
          dsimp only [gPush]
          refine V_iret dX9_lot_77 rfl rfl ?_
          exact fin
        · skip
          omega
      | succ f ih =>
        intro p h1 z w hp hwl hlt hw i0 i1 t0 t1 t3 tw e1 g1 k1
        have hC1 := CLay_eq hC k1
        have r2' : gR h1 (4 + 3 * s) 2 = some (4 + 3 * s + 1) := by rw [k1]; exact r2
        obtain ⟨v1, v2⟩ := zHi_v (zNext z)
        generalize hv : cN (zHi (zNext z)) = v at v1 v2
        have hlt2 : ltF S.1.1 f (zNext z) (w ++ [1 + v % S.1.1]) = R := by rw [← hv]; exact hlt
        have hvm := Nat.mod_lt v (show 0 < S.1.1 by omega)
        generalize hh2 : sI h1 1 1 (zNext z) = h2
        have j0 : gI h2 1 0 = nI S.1.1 := by rw [← hh2, gI_sI, if_neg (by omega)]; exact i0
        have hC2 : CLay h2 := by rw [← hh2]; exact CLay_eq hC1 rfl
        have e2 : ∀ a b, a ≠ 1 → gI h2 a b = gI h1 a b := fun a b ha => by rw [← hh2, gI_sI, if_neg (fun q => ha q.1)]
        have l2e : gL h2 = gL h := by rw [← hh2]; exact g1
        have k2e : gR h2 = gR h := by rw [← hh2]; exact k1
        refine V_iloadw4 dX9_lot_37 ?_
        refine V_iloadn2 dX9_lot_39 ?_
        first | refine U_icmp_ge (tgt := 73) dX9_lot_40 (by decide) (by with_reducible rfl) (by with_reducible rfl) (by omega) (by omega) (fun c40 => ?_) (fun c40 => ?_) | refine V_icmp_ge (tgt := 73) dX9_lot_40 (by decide) (fun c40 => ?_) (fun c40 => ?_)
        · skip
          omega
        · skip
          refine V_aloadn3 dX9_lot_43 ?_
          refine V_getR dX9_lot_44 fX9_277 (by first | assumption | rfl | exact lay_s0 (by omega) | exact lay_s1 (by omega) | exact lay_s2 (by omega) | exact lay_h0 (by omega) | exact lay_h1 (by omega)) (by first | decide | omega) (by first | assumption | exact CL0_0 (by assumption) | exact CL0_1 (by assumption) | exact CL0_3 (by assumption) | exact CL0_4 (by assumption) | exact CL0_5 (by assumption) | exact CL0_6 (by assumption) | exact CL0_7 (by assumption) | exact CL0_8 (by assumption) | exact CL0_9 (by assumption) | exact CL0_10 (by assumption) | exact CL0_11 (by assumption) | exact CL0_12 (by assumption) | exact CL0_13 (by assumption) | exact CL1_2 (by assumption) | exact CL1_3 (by assumption) | exact CL80_2 (by assumption) | exact CL_slot (by assumption) (by omega) | exact (CL_sh (by assumption) (by omega)).1 | exact (CL_sh (by assumption) (by omega)).2.1 | rfl) ?_
          refine V_iloadw4 dX9_lot_47 ?_
          refine V_iconst (v := nI 1) dX9_lot_49 (by decide) ?_
          refine V_aloadn0 dX9_lot_50 ?_
          refine V_getR dX9_lot_51 fX9_10 (by first | assumption | rfl | exact lay_s0 (by omega) | exact lay_s1 (by omega) | exact lay_s2 (by omega) | exact lay_h0 (by omega) | exact lay_h1 (by omega)) (by first | decide | omega) (by first | assumption | exact CL0_0 (by assumption) | exact CL0_1 (by assumption) | exact CL0_3 (by assumption) | exact CL0_4 (by assumption) | exact CL0_5 (by assumption) | exact CL0_6 (by assumption) | exact CL0_7 (by assumption) | exact CL0_8 (by assumption) | exact CL0_9 (by assumption) | exact CL0_10 (by assumption) | exact CL0_11 (by assumption) | exact CL0_12 (by assumption) | exact CL0_13 (by assumption) | exact CL1_2 (by assumption) | exact CL1_3 (by assumption) | exact CL80_2 (by assumption) | exact CL_slot (by assumption) (by omega) | exact (CL_sh (by assumption) (by omega)).1 | exact (CL_sh (by assumption) (by omega)).2.1 | rfl) ?_
          refine V_callV0 (μ' := mX6_draw) dX9_lot_54 okX6_draw lX9_280 rfl (by first | assumption | rfl | exact lay_s0 (by omega) | exact lay_s1 (by omega) | exact lay_s2 (by omega) | exact lay_h0 (by omega) | exact lay_h1 (by omega)) (by first | decide | omega) (Nat.le_of_ble_eq_true rfl) (Nat.le_of_ble_eq_true rfl) (by omega) ?_
          refine c_draw (CL_now hC1) i1 ?_
          rw [hh2]
          dsimp only [gPush]
          refine V_topI v1 ?_
          refine V_aloadn0 dX9_lot_57 ?_
          refine V_getR dX9_lot_58 fX9_10 (by first | assumption | rfl | exact lay_s0 (by omega) | exact lay_s1 (by omega) | exact lay_s2 (by omega) | exact lay_h0 (by omega) | exact lay_h1 (by omega)) (by first | decide | omega) (by first | assumption | exact CL0_0 (by assumption) | exact CL0_1 (by assumption) | exact CL0_3 (by assumption) | exact CL0_4 (by assumption) | exact CL0_5 (by assumption) | exact CL0_6 (by assumption) | exact CL0_7 (by assumption) | exact CL0_8 (by assumption) | exact CL0_9 (by assumption) | exact CL0_10 (by assumption) | exact CL0_11 (by assumption) | exact CL0_12 (by assumption) | exact CL0_13 (by assumption) | exact CL1_2 (by assumption) | exact CL1_3 (by assumption) | exact CL80_2 (by assumption) | exact CL_slot (by assumption) (by omega) | exact (CL_sh (by assumption) (by omega)).1 | exact (CL_sh (by assumption) (by omega)).2.1 | rfl) ?_
          refine V_getI dX9_lot_61 fX9_84 (Or.inl rfl) (by first | assumption | rfl | exact lay_s0 (by omega) | exact lay_s1 (by omega) | exact lay_s2 (by omega) | exact lay_h0 (by omega) | exact lay_h1 (by omega)) (by first | decide | omega) (by first | assumption | exact CL0_0 (by assumption) | exact CL0_1 (by assumption) | exact CL0_3 (by assumption) | exact CL0_4 (by assumption) | exact CL0_5 (by assumption) | exact CL0_6 (by assumption) | exact CL0_7 (by assumption) | exact CL0_8 (by assumption) | exact CL0_9 (by assumption) | exact CL0_10 (by assumption) | exact CL0_11 (by assumption) | exact CL0_12 (by assumption) | exact CL0_13 (by assumption) | exact CL1_2 (by assumption) | exact CL1_3 (by assumption) | exact CL80_2 (by assumption) | exact CL_slot (by assumption) (by omega) | exact (CL_sh (by assumption) (by omega)).1 | exact (CL_sh (by assumption) (by omega)).2.1 | rfl) ?_
          first | refine U_irem dX9_lot_64 (by with_reducible rfl) (by with_reducible rfl) (by omega) (by omega) (by omega) ?_ | refine V_irem dX9_lot_64 (by decide) ?_
          first | refine U_iadd dX9_lot_65 (by with_reducible rfl) (by with_reducible rfl) ?_ | refine V_iadd dX9_lot_65 ?_
          refine U_iast dX9_lot_66 (by with_reducible rfl) (by first | assumption | rfl | exact lay_s0 (by omega) | exact lay_s1 (by omega) | exact lay_s2 (by omega) | exact lay_h0 (by omega) | exact lay_h1 (by omega)) (by first | decide | omega) (by omega) ?_
          refine V_iinc4 dX9_lot_67 (by first | exact ginc1 _ | rfl) (by decide) rfl ?_
          refine V_goto (tgt := 37) dX9_lot_70 (by decide) ?_
          refine ih (p + 1) _ (zNext z) (w ++ [1 + v % S.1.1]) (by omega) (by rw [List.length_append, hwl]; rfl) hlt2 (fun j hj => ?_) ?_ ?_ ?_ ?_ ?_ (fun j hj => ?_) (fun a a1 a2 a3 => ?_) (by rw [gL_sI]; exact l2e) (by rw [gR_sI]; exact k2e)
          · rw [getD_snoc]
            by_cases e : j = w.length
            · rw [if_pos e]; omega
            · rw [if_neg e]; exact hw j (by rw [List.length_append] at hj; simp at hj; omega)
          · rw [gI_sI, if_neg (by omega)]; exact j0
          · rw [gI_sI, if_neg (by omega), ← hh2, gI_sI, if_pos ⟨rfl, rfl⟩]
          · rw [gI_sI, if_neg (by omega), e2 _ _ (by omega)]; exact t0
          · rw [gI_sI, if_neg (by omega), e2 _ _ (by omega)]; exact t1
          · rw [gI_sI, if_neg (by omega), e2 _ _ (by omega)]; exact t3
          · rw [gI_sI, getD_snoc, hwl]
            by_cases e : j = p
            · rw [if_pos ⟨rfl, e⟩, if_pos e]
            · rw [if_neg (fun q => e q.2), if_neg e, e2 _ _ (by omega)]; exact tw j (by omega)
          · funext b
            rw [gI_sI, if_neg (fun q => a3 q.1), e2 a b a1, e1 a a1 a2 a3]
    refine V_iloadn1 dX9_lot_0 ?_
    refine V_callS1 (μ' := mX9_isSlot) dX9_lot_1 okX9_isSlot lX9_91 (Nat.le_of_ble_eq_true rfl) (Nat.le_of_ble_eq_true rfl) (by omega) ?_
    refine c_isSlot ?_
    rw [hg2.1]
    dsimp only [gPush]
    first | refine U_ifB_eq (tgt := 17) dX9_lot_4 (by decide) (by with_reducible rfl) (fun c4 => ?_) (fun c4 => ?_) | refine U_if_eq (tgt := 17) dX9_lot_4 (by decide) (by with_reducible rfl) (by omega) (fun c4 => ?_) (fun c4 => ?_) | refine V_if_eq (tgt := 17) dX9_lot_4 (by decide) (fun c4 => ?_) (fun c4 => ?_)
    · skip
      cases c4
    · skip
      refine V_iloadn2 dX9_lot_7 ?_
      refine V_if_lt (tgt := 17) dX9_lot_8 (by decide) (fun c8 => ?_) (fun c8 => ?_)
      · skip
        exact absurd c8 (nI_pos (by omega))
      · skip
        refine V_iloadn2 dX9_lot_11 ?_
        refine V_bipush (v := nI 6) dX9_lot_12 (by decide) ?_
        first | refine U_icmp_le (tgt := 19) dX9_lot_14 (by decide) (by with_reducible rfl) (by with_reducible rfl) (by omega) (by omega) (fun c14 => ?_) (fun c14 => ?_) | refine V_icmp_le (tgt := 19) dX9_lot_14 (by decide) (fun c14 => ?_) (fun c14 => ?_)
        · skip
          refine V_aloadn0 dX9_lot_19 ?_
          refine V_getR dX9_lot_20 fX9_10 (by first | assumption | rfl | exact lay_s0 (by omega) | exact lay_s1 (by omega) | exact lay_s2 (by omega) | exact lay_h0 (by omega) | exact lay_h1 (by omega)) (by first | decide | omega) (by first | assumption | exact CL0_0 (by assumption) | exact CL0_1 (by assumption) | exact CL0_3 (by assumption) | exact CL0_4 (by assumption) | exact CL0_5 (by assumption) | exact CL0_6 (by assumption) | exact CL0_7 (by assumption) | exact CL0_8 (by assumption) | exact CL0_9 (by assumption) | exact CL0_10 (by assumption) | exact CL0_11 (by assumption) | exact CL0_12 (by assumption) | exact CL0_13 (by assumption) | exact CL1_2 (by assumption) | exact CL1_3 (by assumption) | exact CL80_2 (by assumption) | exact CL_slot (by assumption) (by omega) | exact (CL_sh (by assumption) (by omega)).1 | exact (CL_sh (by assumption) (by omega)).2.1 | rfl) ?_
          refine V_getR dX9_lot_23 fX9_99 (by first | assumption | rfl | exact lay_s0 (by omega) | exact lay_s1 (by omega) | exact lay_s2 (by omega) | exact lay_h0 (by omega) | exact lay_h1 (by omega)) (by first | decide | omega) (by first | assumption | exact CL0_0 (by assumption) | exact CL0_1 (by assumption) | exact CL0_3 (by assumption) | exact CL0_4 (by assumption) | exact CL0_5 (by assumption) | exact CL0_6 (by assumption) | exact CL0_7 (by assumption) | exact CL0_8 (by assumption) | exact CL0_9 (by assumption) | exact CL0_10 (by assumption) | exact CL0_11 (by assumption) | exact CL0_12 (by assumption) | exact CL0_13 (by assumption) | exact CL1_2 (by assumption) | exact CL1_3 (by assumption) | exact CL80_2 (by assumption) | exact CL_slot (by assumption) (by omega) | exact (CL_sh (by assumption) (by omega)).1 | exact (CL_sh (by assumption) (by omega)).2.1 | rfl) ?_
          refine V_iloadn1 dX9_lot_26 ?_
          refine U_aald dX9_lot_27 (by with_reducible rfl) (by first | assumption | rfl | exact lay_s0 (by omega) | exact lay_s1 (by omega) | exact lay_s2 (by omega) | exact lay_h0 (by omega) | exact lay_h1 (by omega)) (by decide) (by first | decide | omega) (by omega) (by first | assumption | exact CL0_0 (by assumption) | exact CL0_1 (by assumption) | exact CL0_3 (by assumption) | exact CL0_4 (by assumption) | exact CL0_5 (by assumption) | exact CL0_6 (by assumption) | exact CL0_7 (by assumption) | exact CL0_8 (by assumption) | exact CL0_9 (by assumption) | exact CL0_10 (by assumption) | exact CL0_11 (by assumption) | exact CL0_12 (by assumption) | exact CL0_13 (by assumption) | exact CL1_2 (by assumption) | exact CL1_3 (by assumption) | exact CL80_2 (by assumption) | exact CL_slot (by assumption) (by omega) | exact (CL_sh (by assumption) (by omega)).1 | exact (CL_sh (by assumption) (by omega)).2.1 | rfl) ?_
          refine V_astoren3 dX9_lot_28 (by decide) rfl ?_
          refine V_aloadn3 dX9_lot_29 ?_
          refine V_iloadn2 dX9_lot_30 ?_
          refine V_callV1 (μ' := mX8_becomeWordOf) dX9_lot_31 okX8_becomeWordOf lX9_273 rfl (by first | assumption | rfl | exact lay_s0 (by omega) | exact lay_s1 (by omega) | exact lay_s2 (by omega) | exact lay_h0 (by omega) | exact lay_h1 (by omega)) (by first | decide | omega) (Nat.le_of_ble_eq_true rfl) (Nat.le_of_ble_eq_true rfl) (by omega) ?_
          refine c_becomeWordOf (CL_T hC hs) ?_
          dsimp only [gPush]
          refine V_iconst (v := nI 0) dX9_lot_34 (by decide) ?_
          refine V_istorew4 dX9_lot_35 (by decide) rfl ?_
          refine loop m 0 _ S.1.2.1 [] (by omega) rfl hRR (fun j hj => absurd hj (Nat.not_lt_zero _)) ?_ ?_ ?_ ?_ ?_ (fun j hj => absurd hj (Nat.not_lt_zero _)) (fun a a1 a2 a3 => ?_) rfl rfl
          · rw [gI_sI, if_neg (by omega), gI_sI, if_neg (by omega), gI_sI, if_neg (by omega)]; exact n0
          · rw [gI_sI, if_neg (by omega), gI_sI, if_neg (by omega), gI_sI, if_neg (by omega)]; exact hA.2.1
          · simp [gI_sI]
          · simp [gI_sI]
          · simp [gI_sI]
          · funext b
            rw [gI_sI, if_neg (by omega), gI_sI, if_neg (by omega), gI_sI, if_neg (by omega)]
        · skip
          omega
  · have eq0 : f_lot S x k = (-1, S) := if_neg hg
    rw [eq0] at hQ
    have hQ9 := hQ h hR FrC.rf
    refine V_iloadn1 dX9_lot_0 ?_
    refine V_callS1 (μ' := mX9_isSlot) dX9_lot_1 okX9_isSlot lX9_91 (Nat.le_of_ble_eq_true rfl) (Nat.le_of_ble_eq_true rfl) (by omega) ?_
    refine c_isSlot ?_
    dsimp only [gPush]
    first | refine U_ifB_eq (tgt := 17) dX9_lot_4 (by decide) (by with_reducible rfl) (fun c4 => ?_) (fun c4 => ?_) | refine U_if_eq (tgt := 17) dX9_lot_4 (by decide) (by with_reducible rfl) (by omega) (fun c4 => ?_) (fun c4 => ?_) | refine V_if_eq (tgt := 17) dX9_lot_4 (by decide) (fun c4 => ?_) (fun c4 => ?_)
    · skip
      refine V_iconst (v := -1) dX9_lot_17 (by decide) ?_
      refine V_iret dX9_lot_18 rfl rfl ?_
      exact hQ9
    · skip
      refine V_iloadn2 dX9_lot_7 ?_
      refine V_if_lt (tgt := 17) dX9_lot_8 (by decide) (fun c8 => ?_) (fun c8 => ?_)
      · skip
        refine V_iconst (v := -1) dX9_lot_17 (by decide) ?_
        refine V_iret dX9_lot_18 rfl rfl ?_
        exact hQ9
      · skip
        refine V_iloadn2 dX9_lot_11 ?_
        refine V_bipush (v := nI 6) dX9_lot_12 (by decide) ?_
        first | refine U_icmp_le (tgt := 19) dX9_lot_14 (by decide) (by with_reducible rfl) (by with_reducible rfl) (by omega) (by omega) (fun c14 => ?_) (fun c14 => ?_) | refine V_icmp_le (tgt := 19) dX9_lot_14 (by decide) (fun c14 => ?_) (fun c14 => ?_)
        · skip
          exact absurd (by rw [c4, inR_in0 c8 c14]; rfl) hg
        · skip
          refine V_iconst (v := -1) dX9_lot_17 (by decide) ?_
          refine V_iret dX9_lot_18 rfl rfl ?_
          exact hQ9

set_option maxRecDepth 100000 in
set_option maxHeartbeats 4000000 in
theorem c_keep (hd : 3 ≤ d) (hR : RC h S) (hQ : ∀ h', RC h' (f_keep S).2 → FrC h h' → Q (some (.int (f_keep S).1)) h') : V Γ mX9_keep d 124 124 h 0 [some (.ref 0)] [] Q := by
  obtain ⟨hC, hW, hA, hK, hK2, hB, hSh, hFm⟩ := id hR
  refine V_aloadn0 dX9_keep_0 ?_
  refine V_getR dX9_keep_1 fX9_16 (by first | assumption | rfl | exact lay_s0 (by omega) | exact lay_s1 (by omega) | exact lay_s2 (by omega) | exact lay_h0 (by omega) | exact lay_h1 (by omega)) (by first | decide | omega) (by first | assumption | exact CL0_0 (by assumption) | exact CL0_1 (by assumption) | exact CL0_3 (by assumption) | exact CL0_4 (by assumption) | exact CL0_5 (by assumption) | exact CL0_6 (by assumption) | exact CL0_7 (by assumption) | exact CL0_8 (by assumption) | exact CL0_9 (by assumption) | exact CL0_10 (by assumption) | exact CL0_11 (by assumption) | exact CL0_12 (by assumption) | exact CL0_13 (by assumption) | exact CL1_2 (by assumption) | exact CL1_3 (by assumption) | exact CL80_2 (by assumption) | exact CL_slot (by assumption) (by omega) | exact (CL_sh (by assumption) (by omega)).1 | exact (CL_sh (by assumption) (by omega)).2.1 | rfl) ?_
  refine V_aloadn0 dX9_keep_4 ?_
  refine V_getR dX9_keep_5 fX9_10 (by first | assumption | rfl | exact lay_s0 (by omega) | exact lay_s1 (by omega) | exact lay_s2 (by omega) | exact lay_h0 (by omega) | exact lay_h1 (by omega)) (by first | decide | omega) (by first | assumption | exact CL0_0 (by assumption) | exact CL0_1 (by assumption) | exact CL0_3 (by assumption) | exact CL0_4 (by assumption) | exact CL0_5 (by assumption) | exact CL0_6 (by assumption) | exact CL0_7 (by assumption) | exact CL0_8 (by assumption) | exact CL0_9 (by assumption) | exact CL0_10 (by assumption) | exact CL0_11 (by assumption) | exact CL0_12 (by assumption) | exact CL0_13 (by assumption) | exact CL1_2 (by assumption) | exact CL1_3 (by assumption) | exact CL80_2 (by assumption) | exact CL_slot (by assumption) (by omega) | exact (CL_sh (by assumption) (by omega)).1 | exact (CL_sh (by assumption) (by omega)).2.1 | rfl) ?_
  refine V_callV1 (μ' := mX6_becomeLike) dX9_keep_8 okX6_becomeLike lX9_321 rfl (by first | assumption | rfl | exact lay_s0 (by omega) | exact lay_s1 (by omega) | exact lay_s2 (by omega) | exact lay_h0 (by omega) | exact lay_h1 (by omega)) (by first | decide | omega) (Nat.le_of_ble_eq_true rfl) (Nat.le_of_ble_eq_true rfl) (by omega) ?_
  refine c_stateLike (by omega) (CL_kept hC) (CL_now hC) (by omega) hA (fun h1 hA1 hF1 => ?_)
  dsimp only [gPush]
  refine V_aloadn0 dX9_keep_11 ?_
  refine V_iconst (v := nI 1) dX9_keep_12 (by decide) ?_
  refine V_putZ dX9_keep_13 fX9_324 (by first | assumption | rfl | exact lay_s0 (by omega) | exact lay_s1 (by omega) | exact lay_s2 (by omega) | exact lay_h0 (by omega) | exact lay_h1 (by omega)) (by first | decide | omega) (by decide) ?_
  refine V_iconst (v := nI 1) dX9_keep_16 (by decide) ?_
  refine V_iret dX9_keep_17 rfl rfl ?_
  have f1 : Fr1 h (sI h1 0 2 (nI 1)) 0 43 := fr_sI (hF1.wd (by omega) (by omega)) (by omega) (by omega)
  have e0 : ∀ a, a ≠ 0 → gI (sI h1 0 2 (nI 1)) a = gI h1 a := fun a ha => by
    funext b
    rw [gI_sI, if_neg (fun q => ha q.1)]
  exact hQ _ ⟨CLay_eq hC f1.2.2, ⟨hW.1, fun K e => by cases e; exact hW.1, hW.2.2⟩, RS_cg hA (fun a a1 a2 => by rw [e0 a (by omega), hF1.1 a (by omega)]), by rw [gI_sI, if_pos ⟨rfl, rfl⟩]; rfl, fun K e => by cases e; exact RS_cg hA1 (fun a a1 a2 => e0 a (by omega)), TpB_cg hB (by rw [f1.1 43 (by omega)]) (f1.1 44 (by omega)), fun s hs => ShtI_cg (hSh s hs) (f1.1 _ (by omega)) (by rw [f1.2.1]), FamI_cg hFm (f1.1 58 (by omega)) (by rw [f1.2.1])⟩ (f1.toC (by omega))

set_option maxRecDepth 100000 in
set_option maxHeartbeats 4000000 in
theorem c_again (hd : 3 ≤ d) (hR : RC h S) (hQ : ∀ h', RC h' (f_again S).2 → FrC h h' → Q (some (.int (f_again S).1)) h') : V Γ mX9_again d 124 124 h 0 [some (.ref 0)] [] Q := by
  obtain ⟨hC, hW, hA, hK, hK2, hB, hSh, hFm⟩ := id hR
  cases hk : S.2.1 with
  | none =>
    have eq0 : f_again S = (-3, S) := by unfold f_again; rw [hk]
    rw [eq0] at hQ
    rw [hk] at hK
    have hQ9 := hQ h hR FrC.rf
    have hK' : gI h 0 2 = gBo false := hK
    refine V_aloadn0 dX9_again_0 ?_
    refine V_getI dX9_again_1 fX9_324 (Or.inr rfl) (by first | assumption | rfl | exact lay_s0 (by omega) | exact lay_s1 (by omega) | exact lay_s2 (by omega) | exact lay_h0 (by omega) | exact lay_h1 (by omega)) (by first | decide | omega) (by first | assumption | exact CL0_0 (by assumption) | exact CL0_1 (by assumption) | exact CL0_3 (by assumption) | exact CL0_4 (by assumption) | exact CL0_5 (by assumption) | exact CL0_6 (by assumption) | exact CL0_7 (by assumption) | exact CL0_8 (by assumption) | exact CL0_9 (by assumption) | exact CL0_10 (by assumption) | exact CL0_11 (by assumption) | exact CL0_12 (by assumption) | exact CL0_13 (by assumption) | exact CL1_2 (by assumption) | exact CL1_3 (by assumption) | exact CL80_2 (by assumption) | exact CL_slot (by assumption) (by omega) | exact (CL_sh (by assumption) (by omega)).1 | exact (CL_sh (by assumption) (by omega)).2.1 | rfl) ?_
    first | refine U_ifB_ne (tgt := 10) dX9_again_4 (by decide) (by with_reducible rfl) (fun c4 => ?_) (fun c4 => ?_) | refine U_if_ne (tgt := 10) dX9_again_4 (by decide) (by with_reducible rfl) (by omega) (fun c4 => ?_) (fun c4 => ?_) | refine V_if_ne (tgt := 10) dX9_again_4 (by decide) (fun c4 => ?_) (fun c4 => ?_)
    · skip
      cases c4
    · skip
      refine V_bipush (v := -3) dX9_again_7 (by decide) ?_
      refine V_iret dX9_again_9 rfl rfl ?_
      exact hQ9
  | some K =>
    have eq0 : f_again S = (lsS K, (K, S.2)) := by unfold f_again; rw [hk]
    rw [eq0] at hQ
    rw [hk] at hK
    have hK' : gI h 0 2 = gBo true := hK
    have hKS := hK2 K hk
    have hWK := hW.2.1 K hk
    refine V_aloadn0 dX9_again_0 ?_
    refine V_getI dX9_again_1 fX9_324 (Or.inr rfl) (by first | assumption | rfl | exact lay_s0 (by omega) | exact lay_s1 (by omega) | exact lay_s2 (by omega) | exact lay_h0 (by omega) | exact lay_h1 (by omega)) (by first | decide | omega) (by first | assumption | exact CL0_0 (by assumption) | exact CL0_1 (by assumption) | exact CL0_3 (by assumption) | exact CL0_4 (by assumption) | exact CL0_5 (by assumption) | exact CL0_6 (by assumption) | exact CL0_7 (by assumption) | exact CL0_8 (by assumption) | exact CL0_9 (by assumption) | exact CL0_10 (by assumption) | exact CL0_11 (by assumption) | exact CL0_12 (by assumption) | exact CL0_13 (by assumption) | exact CL1_2 (by assumption) | exact CL1_3 (by assumption) | exact CL80_2 (by assumption) | exact CL_slot (by assumption) (by omega) | exact (CL_sh (by assumption) (by omega)).1 | exact (CL_sh (by assumption) (by omega)).2.1 | rfl) ?_
    first | refine U_ifB_ne (tgt := 10) dX9_again_4 (by decide) (by with_reducible rfl) (fun c4 => ?_) (fun c4 => ?_) | refine U_if_ne (tgt := 10) dX9_again_4 (by decide) (by with_reducible rfl) (by omega) (fun c4 => ?_) (fun c4 => ?_) | refine V_if_ne (tgt := 10) dX9_again_4 (by decide) (fun c4 => ?_) (fun c4 => ?_)
    · skip
      refine V_aloadn0 dX9_again_10 ?_
      refine V_getR dX9_again_11 fX9_10 (by first | assumption | rfl | exact lay_s0 (by omega) | exact lay_s1 (by omega) | exact lay_s2 (by omega) | exact lay_h0 (by omega) | exact lay_h1 (by omega)) (by first | decide | omega) (by first | assumption | exact CL0_0 (by assumption) | exact CL0_1 (by assumption) | exact CL0_3 (by assumption) | exact CL0_4 (by assumption) | exact CL0_5 (by assumption) | exact CL0_6 (by assumption) | exact CL0_7 (by assumption) | exact CL0_8 (by assumption) | exact CL0_9 (by assumption) | exact CL0_10 (by assumption) | exact CL0_11 (by assumption) | exact CL0_12 (by assumption) | exact CL0_13 (by assumption) | exact CL1_2 (by assumption) | exact CL1_3 (by assumption) | exact CL80_2 (by assumption) | exact CL_slot (by assumption) (by omega) | exact (CL_sh (by assumption) (by omega)).1 | exact (CL_sh (by assumption) (by omega)).2.1 | rfl) ?_
      refine V_aloadn0 dX9_again_14 ?_
      refine V_getR dX9_again_15 fX9_16 (by first | assumption | rfl | exact lay_s0 (by omega) | exact lay_s1 (by omega) | exact lay_s2 (by omega) | exact lay_h0 (by omega) | exact lay_h1 (by omega)) (by first | decide | omega) (by first | assumption | exact CL0_0 (by assumption) | exact CL0_1 (by assumption) | exact CL0_3 (by assumption) | exact CL0_4 (by assumption) | exact CL0_5 (by assumption) | exact CL0_6 (by assumption) | exact CL0_7 (by assumption) | exact CL0_8 (by assumption) | exact CL0_9 (by assumption) | exact CL0_10 (by assumption) | exact CL0_11 (by assumption) | exact CL0_12 (by assumption) | exact CL0_13 (by assumption) | exact CL1_2 (by assumption) | exact CL1_3 (by assumption) | exact CL80_2 (by assumption) | exact CL_slot (by assumption) (by omega) | exact (CL_sh (by assumption) (by omega)).1 | exact (CL_sh (by assumption) (by omega)).2.1 | rfl) ?_
      refine V_callV1 (μ' := mX6_becomeLike) dX9_again_18 okX6_becomeLike lX9_321 rfl (by first | assumption | rfl | exact lay_s0 (by omega) | exact lay_s1 (by omega) | exact lay_s2 (by omega) | exact lay_h0 (by omega) | exact lay_h1 (by omega)) (by first | decide | omega) (Nat.le_of_ble_eq_true rfl) (Nat.le_of_ble_eq_true rfl) (by omega) ?_
      refine c_stateLike (by omega) (CL_now hC) (CL_kept hC) (by omega) hKS (fun h1 hA1 hF1 => ?_)
      have hC1 := CLay_eq hC hF1.2.2
      have hQ9 := hQ h1 (RC_now hR hA1 hWK (fun a ha => hF1.1 a (by omega)) hF1.2.1 hF1.2.2) (hF1.toC (by omega))
      dsimp only [gPush]
      refine V_aloadn0 dX9_again_21 ?_
      refine V_getR dX9_again_22 fX9_10 (by first | assumption | rfl | exact lay_s0 (by omega) | exact lay_s1 (by omega) | exact lay_s2 (by omega) | exact lay_h0 (by omega) | exact lay_h1 (by omega)) (by first | decide | omega) (by first | assumption | exact CL0_0 (by assumption) | exact CL0_1 (by assumption) | exact CL0_3 (by assumption) | exact CL0_4 (by assumption) | exact CL0_5 (by assumption) | exact CL0_6 (by assumption) | exact CL0_7 (by assumption) | exact CL0_8 (by assumption) | exact CL0_9 (by assumption) | exact CL0_10 (by assumption) | exact CL0_11 (by assumption) | exact CL0_12 (by assumption) | exact CL0_13 (by assumption) | exact CL1_2 (by assumption) | exact CL1_3 (by assumption) | exact CL80_2 (by assumption) | exact CL_slot (by assumption) (by omega) | exact (CL_sh (by assumption) (by omega)).1 | exact (CL_sh (by assumption) (by omega)).2.1 | rfl) ?_
      refine V_callV0 (μ' := mX6_lettersInAll) dX9_again_25 okX6_lettersInAll lX9_318 rfl (by first | assumption | rfl | exact lay_s0 (by omega) | exact lay_s1 (by omega) | exact lay_s2 (by omega) | exact lay_h0 (by omega) | exact lay_h1 (by omega)) (by first | decide | omega) (Nat.le_of_ble_eq_true rfl) (Nat.le_of_ble_eq_true rfl) (by omega) ?_
      refine c_lettersInAll (CL_now hC1) hA1 ?_
      dsimp only [gPush]
      refine V_iret dX9_again_28 rfl rfl ?_
      exact hQ9
    · skip
      cases c4

set_option maxRecDepth 100000 in
set_option maxHeartbeats 4000000 in
theorem c_many {y : Int32} (hd : 1 ≤ d) (hR : RC h S) (hQ : ∀ h', RC h' S → FrC h h' → Q (some (.int (g_many S y))) h') : V Γ mX9_many d 124 124 h 0 [some (.ref 0), some (.int y)] [] Q := by
  obtain ⟨hC, hW, hA, hK, hK2, hB, hSh, hFm⟩ := id hR
  have n0 := hA.1
  have hn2 := hW.1.1
  have hn5 := hW.1.2.1
  have t0 := hB.1
  have hQ' := hQ h hR FrC.rf
  unfold g_many at hQ'
  by_cases h0 : y = nI 0
  · subst h0
    rw [if_pos rfl] at hQ'
    refine V_iloadn1 dX9_many_0 ?_
    refine V_tableIn (tgt := 32) dX9_many_1 (by decide) (by decide) rfl (by decide) ?_
    refine V_aloadn0 dX9_many_32 ?_
    refine V_getR dX9_many_33 fX9_10 (by first | assumption | rfl | exact lay_s0 (by omega) | exact lay_s1 (by omega) | exact lay_s2 (by omega) | exact lay_h0 (by omega) | exact lay_h1 (by omega)) (by first | decide | omega) (by first | assumption | exact CL0_0 (by assumption) | exact CL0_1 (by assumption) | exact CL0_3 (by assumption) | exact CL0_4 (by assumption) | exact CL0_5 (by assumption) | exact CL0_6 (by assumption) | exact CL0_7 (by assumption) | exact CL0_8 (by assumption) | exact CL0_9 (by assumption) | exact CL0_10 (by assumption) | exact CL0_11 (by assumption) | exact CL0_12 (by assumption) | exact CL0_13 (by assumption) | exact CL1_2 (by assumption) | exact CL1_3 (by assumption) | exact CL80_2 (by assumption) | exact CL_slot (by assumption) (by omega) | exact (CL_sh (by assumption) (by omega)).1 | exact (CL_sh (by assumption) (by omega)).2.1 | rfl) ?_
    refine V_getI dX9_many_36 fX9_84 (Or.inl rfl) (by first | assumption | rfl | exact lay_s0 (by omega) | exact lay_s1 (by omega) | exact lay_s2 (by omega) | exact lay_h0 (by omega) | exact lay_h1 (by omega)) (by first | decide | omega) (by first | assumption | exact CL0_0 (by assumption) | exact CL0_1 (by assumption) | exact CL0_3 (by assumption) | exact CL0_4 (by assumption) | exact CL0_5 (by assumption) | exact CL0_6 (by assumption) | exact CL0_7 (by assumption) | exact CL0_8 (by assumption) | exact CL0_9 (by assumption) | exact CL0_10 (by assumption) | exact CL0_11 (by assumption) | exact CL0_12 (by assumption) | exact CL0_13 (by assumption) | exact CL1_2 (by assumption) | exact CL1_3 (by assumption) | exact CL80_2 (by assumption) | exact CL_slot (by assumption) (by omega) | exact (CL_sh (by assumption) (by omega)).1 | exact (CL_sh (by assumption) (by omega)).2.1 | rfl) ?_
    refine V_iret dX9_many_39 rfl rfl ?_
    exact hQ'
  by_cases h1 : y = nI 1
  · subst h1
    rw [if_neg (by decide), if_pos rfl] at hQ'
    refine V_iloadn1 dX9_many_0 ?_
    refine V_tableIn (tgt := 40) dX9_many_1 (by decide) (by decide) rfl (by decide) ?_
    refine V_aloadn0 dX9_many_40 ?_
    refine V_getR dX9_many_41 fX9_10 (by first | assumption | rfl | exact lay_s0 (by omega) | exact lay_s1 (by omega) | exact lay_s2 (by omega) | exact lay_h0 (by omega) | exact lay_h1 (by omega)) (by first | decide | omega) (by first | assumption | exact CL0_0 (by assumption) | exact CL0_1 (by assumption) | exact CL0_3 (by assumption) | exact CL0_4 (by assumption) | exact CL0_5 (by assumption) | exact CL0_6 (by assumption) | exact CL0_7 (by assumption) | exact CL0_8 (by assumption) | exact CL0_9 (by assumption) | exact CL0_10 (by assumption) | exact CL0_11 (by assumption) | exact CL0_12 (by assumption) | exact CL0_13 (by assumption) | exact CL1_2 (by assumption) | exact CL1_3 (by assumption) | exact CL80_2 (by assumption) | exact CL_slot (by assumption) (by omega) | exact (CL_sh (by assumption) (by omega)).1 | exact (CL_sh (by assumption) (by omega)).2.1 | rfl) ?_
    refine V_callV0 (μ' := mX6_heldSlots) dX9_many_44 okX6_heldSlots lX9_315 rfl (by first | assumption | rfl | exact lay_s0 (by omega) | exact lay_s1 (by omega) | exact lay_s2 (by omega) | exact lay_h0 (by omega) | exact lay_h1 (by omega)) (by first | decide | omega) (Nat.le_of_ble_eq_true rfl) (Nat.le_of_ble_eq_true rfl) (by omega) ?_
    refine c_heldSlots (CL_now hC) hA ?_
    dsimp only [gPush]
    refine V_iret dX9_many_47 rfl rfl ?_
    exact hQ'
  by_cases h2 : y = nI 2
  · subst h2
    rw [if_neg (by decide), if_neg (by decide), if_pos rfl] at hQ'
    refine V_iloadn1 dX9_many_0 ?_
    refine V_tableIn (tgt := 48) dX9_many_1 (by decide) (by decide) rfl (by decide) ?_
    refine V_aloadn0 dX9_many_48 ?_
    refine V_getR dX9_many_49 fX9_10 (by first | assumption | rfl | exact lay_s0 (by omega) | exact lay_s1 (by omega) | exact lay_s2 (by omega) | exact lay_h0 (by omega) | exact lay_h1 (by omega)) (by first | decide | omega) (by first | assumption | exact CL0_0 (by assumption) | exact CL0_1 (by assumption) | exact CL0_3 (by assumption) | exact CL0_4 (by assumption) | exact CL0_5 (by assumption) | exact CL0_6 (by assumption) | exact CL0_7 (by assumption) | exact CL0_8 (by assumption) | exact CL0_9 (by assumption) | exact CL0_10 (by assumption) | exact CL0_11 (by assumption) | exact CL0_12 (by assumption) | exact CL0_13 (by assumption) | exact CL1_2 (by assumption) | exact CL1_3 (by assumption) | exact CL80_2 (by assumption) | exact CL_slot (by assumption) (by omega) | exact (CL_sh (by assumption) (by omega)).1 | exact (CL_sh (by assumption) (by omega)).2.1 | rfl) ?_
    refine V_callV0 (μ' := mX6_lettersInAll) dX9_many_52 okX6_lettersInAll lX9_318 rfl (by first | assumption | rfl | exact lay_s0 (by omega) | exact lay_s1 (by omega) | exact lay_s2 (by omega) | exact lay_h0 (by omega) | exact lay_h1 (by omega)) (by first | decide | omega) (Nat.le_of_ble_eq_true rfl) (Nat.le_of_ble_eq_true rfl) (by omega) ?_
    refine c_lettersInAll (CL_now hC) hA ?_
    dsimp only [gPush]
    refine V_iret dX9_many_55 rfl rfl ?_
    exact hQ'
  by_cases h3 : y = nI 3
  · subst h3
    rw [if_neg (by decide), if_neg (by decide), if_neg (by decide), if_pos rfl] at hQ'
    refine V_iloadn1 dX9_many_0 ?_
    refine V_tableIn (tgt := 56) dX9_many_1 (by decide) (by decide) rfl (by decide) ?_
    refine V_aloadn0 dX9_many_56 ?_
    refine V_getR dX9_many_57 fX9_22 (by first | assumption | rfl | exact lay_s0 (by omega) | exact lay_s1 (by omega) | exact lay_s2 (by omega) | exact lay_h0 (by omega) | exact lay_h1 (by omega)) (by first | decide | omega) (by first | assumption | exact CL0_0 (by assumption) | exact CL0_1 (by assumption) | exact CL0_3 (by assumption) | exact CL0_4 (by assumption) | exact CL0_5 (by assumption) | exact CL0_6 (by assumption) | exact CL0_7 (by assumption) | exact CL0_8 (by assumption) | exact CL0_9 (by assumption) | exact CL0_10 (by assumption) | exact CL0_11 (by assumption) | exact CL0_12 (by assumption) | exact CL0_13 (by assumption) | exact CL1_2 (by assumption) | exact CL1_3 (by assumption) | exact CL80_2 (by assumption) | exact CL_slot (by assumption) (by omega) | exact (CL_sh (by assumption) (by omega)).1 | exact (CL_sh (by assumption) (by omega)).2.1 | rfl) ?_
    refine V_getI dX9_many_60 fX9_110 (Or.inl rfl) (by first | assumption | rfl | exact lay_s0 (by omega) | exact lay_s1 (by omega) | exact lay_s2 (by omega) | exact lay_h0 (by omega) | exact lay_h1 (by omega)) (by first | decide | omega) (by first | assumption | exact CL0_0 (by assumption) | exact CL0_1 (by assumption) | exact CL0_3 (by assumption) | exact CL0_4 (by assumption) | exact CL0_5 (by assumption) | exact CL0_6 (by assumption) | exact CL0_7 (by assumption) | exact CL0_8 (by assumption) | exact CL0_9 (by assumption) | exact CL0_10 (by assumption) | exact CL0_11 (by assumption) | exact CL0_12 (by assumption) | exact CL0_13 (by assumption) | exact CL1_2 (by assumption) | exact CL1_3 (by assumption) | exact CL80_2 (by assumption) | exact CL_slot (by assumption) (by omega) | exact (CL_sh (by assumption) (by omega)).1 | exact (CL_sh (by assumption) (by omega)).2.1 | rfl) ?_
    refine V_iret dX9_many_63 rfl rfl ?_
    exact hQ'
  rw [if_neg h0, if_neg h1, if_neg h2, if_neg h3] at hQ'
  have hout : y.toInt < 0 ∨ 3 < y.toInt := by
    apply Classical.byContradiction
    intro hno
    have hy : ¬ y < 0 := fun q => hno (Or.inl (Int32.lt_iff_toInt_lt.mp q))
    obtain ⟨j, hj, rfl⟩ := nI_of hy
    have hj2 : (nI j).toInt = (j : Int) := nI_toInt hj
    rw [hj2] at hno
    have : j = 0 ∨ j = 1 ∨ j = 2 ∨ j = 3 := by omega
    rcases this with rfl | rfl | rfl | rfl
    · exact h0 rfl
    · exact h1 rfl
    · exact h2 rfl
    · exact h3 rfl
  refine V_iloadn1 dX9_many_0 ?_
  refine V_tableOut (tgt := 64) dX9_many_1 (by first | assumption | decide) (by decide) ?_
  refine V_iconst (v := -1) dX9_many_64 (by decide) ?_
  refine V_iret dX9_many_65 rfl rfl ?_
  exact hQ'

end C51
