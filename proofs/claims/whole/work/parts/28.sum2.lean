/-! ===== the class: sums, differences ===== -/
def FlP (h : gH) : Prop := gR h 67 0 = some 68 ∧ gR h 67 1 = some 69 ∧ gR h 67 2 = some 70 ∧ gR h 67 6 = some 71 ∧ TL h 71
def FrG (h h' : gH) : Prop := (∀ a, a ≠ 46 → a < 67 ∨ 74 ≤ a → gI h' a = gI h a) ∧ gL h' = gL h ∧ (∀ a, a ≠ 67 → gR h' a = gR h a) ∧ ∀ k, k ≠ 4 → k ≠ 5 → gR h' 67 k = gR h 67 k
def shGood (L : List Nat) : Prop := ∀ r, 0 < r → r < L.length → L.getD r 0 ≤ L.getD (r - 1) 0
theorem TL_ne {h h' : gH} {t : Nat} (a : TL h t) (e : gR h' t = gR h t) : TL h' t := ⟨a.1, a.2.1, a.2.2.1, a.2.2.2.1, by rw [e]; exact a.2.2.2.2.1, by rw [e]; exact a.2.2.2.2.2⟩
theorem gR_sR_ne {h : gH} {t k : Nat} {v : Option Nat} {a : Nat} (ha : a ≠ t) : gR (sR h t k v) a = gR h a := by
  funext b
  rw [gR_sR, if_neg (fun q => ha q.1)]
section C28
variable {Γ : gM} {d : Nat} {h : gH} {Q : Option Value → gH → Prop}
set_option maxRecDepth 100000 in
set_option maxHeartbeats 4000000 in
theorem c_sum {s n : Nat} {L : List Nat} {wt : Nat → Int32} {A : Nat → Nat} (hd : 18 ≤ d) (hn : n ≤ 5) (hn1 : 1 ≤ n) (hP : FlP h) (hS : ShL h s) (hs : s = 74 ∨ s = 76 ∨ s = 78) (hI : ShI h s L) (hg : shGood L) (hA : AlN h n A) (hA6 : ∀ x, 1 ≤ x → x ≤ n → A x ≤ 6) (hw : ∀ x, 1 ≤ x → x ≤ 5 → gI h 69 x = wt x) (hQ : ∀ h', FrG h h' → Q (some (.long (sF L n wt (cntB n L none) 12 [] 0 0 A (lN 1)))) h') : V Γ mX1_sum d 124 124 h 0 [some (.ref 67), some (.ref s), some (.int (nI n))] [] Q := by
  obtain ⟨p0, p1, p2, p7, pT⟩ := hP
  generalize hh : sR (sI h 67 3 (nI n)) 67 4 none = h1
  have eR : ∀ a, a ≠ 67 → gR h1 a = gR h a := fun a ha => by rw [← hh, gR_sR_ne ha, gR_sI]
  have eR7 : ∀ k, k ≠ 4 → gR h1 67 k = gR h 67 k := fun k k4 => by rw [← hh, gR_sR, if_neg (fun q => k4 q.2), gR_sI]
  have eI : ∀ a, a ≠ 67 → gI h1 a = gI h a := fun a ha => by
    rw [← hh, gI_sR]
    funext b
    rw [gI_sI, if_neg (fun q => ha q.1)]
  have e5 : gR h1 67 4 = none := by rw [← hh, gR_sR, if_pos ⟨rfl, rfl⟩]
  have e4 : gI h1 67 3 = nI n := by rw [← hh, gI_sR, gI_sI, if_pos ⟨rfl, rfl⟩]
  have hSh : ShI h1 s L := ⟨by rw [eI s (by omega)]; exact hI.1, by rw [eI s (by omega)]; exact hI.2.1, fun r hr => by rw [eI (s + 1) (by omega)]; exact hI.2.2.1 r hr, hI.2.2.2⟩
  have hFl : FlL h1 s := ⟨by rw [eR7 0 (by omega)]; exact p0, by rw [eR7 1 (by omega)]; exact p1, by rw [eR7 2 (by omega)]; exact p2, by rw [eR7 6 (by omega)]; exact p7, TL_ne pT (eR 71 (by omega)), ⟨hS.1, hS.2.1, hS.2.2.1, by rw [eR s (by omega)]; exact hS.2.2.2⟩, hs⟩
  have hFi : FlI h1 s n L wt none := ⟨hSh, e4, fun x x1 x2 => by rw [eI 69 (by omega)]; exact hw x x1 x2, e5⟩
  refine V_aloadn0 dX1_sum_0 ?_
  refine V_iloadn2 dX1_sum_1 ?_
  refine V_putI dX1_sum_2 fX1_52 (by first | assumption | rfl) (by first | decide | omega) ?_
  refine V_aloadn0 dX1_sum_5 ?_
  refine V_null dX1_sum_6 ?_
  refine V_putN dX1_sum_7 fX1_56 rfl (by decide) ?_
  rw [hh]
  refine V_aloadn0 dX1_sum_10 ?_
  refine V_aloadn1 dX1_sum_11 ?_
  refine V_iconst (v := nI 0) dX1_sum_12 (by decide) ?_
  refine V_iconst (v := nI 0) dX1_sum_13 (by decide) ?_
  refine V_iconst (v := nI 0) dX1_sum_14 (by decide) ?_
  refine V_lconst (v := lN 1) dX1_sum_15 (by decide) ?_
  refine V_callS6 (μ' := mX1_sumFrom) dX1_sum_16 okX1_sumFrom lX1_60 (Nat.le_of_ble_eq_true rfl) (Nat.le_of_ble_eq_true rfl) (by omega) ?_
  refine c_sumFrom hn hn1 hg 12 _ h1 _ [] 0 0 A (lN 1) (by omega) hFl hFi (fun x x1 x2 => by rw [eI 68 (by omega)]; exact hA x x1 x2) hA6 (fun j hj => absurd hj (Nat.not_lt_zero _)) (fun j => by simp) (fun j hj => absurd hj (Nat.not_lt_zero _)) ?_ rfl (Nat.zero_le _) (Nat.zero_le _) (fun h2 hA2 hc2 hF2 => ?_)
  · have := hI.2.2.2.1; have := hI.2.2.2.2.1; simp only [List.length_nil]; omega
  dsimp only [gPush]
  refine V_lret dX1_sum_19 rfl ?_
  refine hQ h2 ⟨fun a a1 a2 => by rw [hF2.1 a a1 (by omega), eI a (by omega)], by rw [hF2.2.1, ← hh]; rfl, fun a ha => by rw [hF2.2.2]; exact eR a ha, fun k k4 k5 => by rw [hF2.2.2]; exact eR7 k k4⟩
set_option maxRecDepth 100000 in
set_option maxHeartbeats 4000000 in
theorem c_countHighest {s s2 n : Nat} {L L2 : List Nat} {wt : Nat → Int32} {A : Nat → Nat} (hd : 18 ≤ d) (hn : n ≤ 5) (hn1 : 1 ≤ n) (hP : FlP h) (hS : ShL h s) (hs : s = 74 ∨ s = 76 ∨ s = 78) (hI : ShI h s L) (hS2 : ShL h s2) (hs2 : s2 = 74 ∨ s2 = 76 ∨ s2 = 78) (hI2 : ShI h s2 L2) (hsum : L.sum + L2.sum ≤ 6) (hg : shGood L) (hA : AlN h n A) (hA6 : ∀ x, 1 ≤ x → x ≤ n → A x ≤ 6) (hw : ∀ x, 1 ≤ x → x ≤ 5 → gI h 69 x = wt x) (hQ : ∀ h', FrG h h' → Q (some (.int (sF L n wt (cntB n L (some (s2, L2))) 12 [] 0 0 A (lN 1)).toInt32)) h') : V Γ mX1_countHighest d 124 124 h 0 [some (.ref 67), some (.ref s), some (.ref s2), some (.ref 46), some (.int (nI n))] [] Q := by
  obtain ⟨p0, p1, p2, p7, pT⟩ := hP
  generalize hh : sR (sR (sI h 67 3 (nI n)) 67 4 (some s2)) 67 5 (some 46) = h1
  have eR : ∀ a, a ≠ 67 → gR h1 a = gR h a := fun a ha => by rw [← hh, gR_sR_ne ha, gR_sR_ne ha, gR_sI]
  have eR7 : ∀ k, k ≠ 4 → k ≠ 5 → gR h1 67 k = gR h 67 k := fun k k4 k5 => by rw [← hh, gR_sR, if_neg (fun q => k5 q.2), gR_sR, if_neg (fun q => k4 q.2), gR_sI]
  have eI : ∀ a, a ≠ 67 → gI h1 a = gI h a := fun a ha => by
    rw [← hh, gI_sR, gI_sR]
    funext b
    rw [gI_sI, if_neg (fun q => ha q.1)]
  have e5 : gR h1 67 4 = some s2 := by rw [← hh, gR_sR, if_neg (by omega), gR_sR, if_pos ⟨rfl, rfl⟩]
  have e6 : gR h1 67 5 = some 46 := by rw [← hh, gR_sR, if_pos ⟨rfl, rfl⟩]
  have e4 : gI h1 67 3 = nI n := by rw [← hh, gI_sR, gI_sR, gI_sI, if_pos ⟨rfl, rfl⟩]
  have hSh : ShI h1 s L := ⟨by rw [eI s (by omega)]; exact hI.1, by rw [eI s (by omega)]; exact hI.2.1, fun r hr => by rw [eI (s + 1) (by omega)]; exact hI.2.2.1 r hr, hI.2.2.2⟩
  have hSh2 : ShI h1 s2 L2 := ⟨by rw [eI s2 (by omega)]; exact hI2.1, by rw [eI s2 (by omega)]; exact hI2.2.1, fun r hr => by rw [eI (s2 + 1) (by omega)]; exact hI2.2.2.1 r hr, hI2.2.2.2⟩
  have hFl : FlL h1 s := ⟨by rw [eR7 0 (by omega) (by omega)]; exact p0, by rw [eR7 1 (by omega) (by omega)]; exact p1, by rw [eR7 2 (by omega) (by omega)]; exact p2, by rw [eR7 6 (by omega) (by omega)]; exact p7, TL_ne pT (eR 71 (by omega)), ⟨hS.1, hS.2.1, hS.2.2.1, by rw [eR s (by omega)]; exact hS.2.2.2⟩, hs⟩
  have hFi : FlI h1 s n L wt (some (s2, L2)) := ⟨hSh, e4, fun x x1 x2 => by rw [eI 69 (by omega)]; exact hw x x1 x2, e5, e6, ⟨hS2.1, hS2.2.1, hS2.2.2.1, by rw [eR s2 (by omega)]; exact hS2.2.2.2⟩, hSh2, hs2, hsum⟩
  refine V_aloadn0 dX1_countHighest_0 ?_
  refine V_iloadw4 dX1_countHighest_1 ?_
  refine V_putI dX1_countHighest_3 fX1_52 (by first | assumption | rfl) (by first | decide | omega) ?_
  refine V_aloadn0 dX1_countHighest_6 ?_
  refine V_aloadn2 dX1_countHighest_7 ?_
  refine V_putR dX1_countHighest_8 fX1_56 rfl (by decide) ?_
  refine V_aloadn0 dX1_countHighest_11 ?_
  refine V_aloadn3 dX1_countHighest_12 ?_
  refine V_putR dX1_countHighest_13 fX1_64 rfl (by decide) ?_
  rw [hh]
  refine V_aloadn0 dX1_countHighest_16 ?_
  refine V_aloadn1 dX1_countHighest_17 ?_
  refine V_iconst (v := nI 0) dX1_countHighest_18 (by decide) ?_
  refine V_iconst (v := nI 0) dX1_countHighest_19 (by decide) ?_
  refine V_iconst (v := nI 0) dX1_countHighest_20 (by decide) ?_
  refine V_lconst (v := lN 1) dX1_countHighest_21 (by decide) ?_
  refine V_callS6 (μ' := mX1_sumFrom) dX1_countHighest_22 okX1_sumFrom lX1_60 (Nat.le_of_ble_eq_true rfl) (Nat.le_of_ble_eq_true rfl) (by omega) ?_
  refine c_sumFrom hn hn1 hg 12 _ h1 _ [] 0 0 A (lN 1) (by omega) hFl hFi (fun x x1 x2 => by rw [eI 68 (by omega)]; exact hA x x1 x2) hA6 (fun j hj => absurd hj (Nat.not_lt_zero _)) (fun j => by simp) (fun j hj => absurd hj (Nat.not_lt_zero _)) ?_ rfl (Nat.zero_le _) (Nat.zero_le _) (fun h2 hA2 hc2 hF2 => ?_)
  · have := hI.2.2.2.1; have := hI.2.2.2.2.1; simp only [List.length_nil]; omega
  dsimp only [gPush]
  refine V_l2i dX1_countHighest_25 rfl ?_
  refine V_iret dX1_countHighest_26 rfl rfl ?_
  refine hQ h2 ⟨fun a a1 a2 => by rw [hF2.1 a a1 (by omega), eI a (by omega)], by rw [hF2.2.1, ← hh]; rfl, fun a ha => by rw [hF2.2.2]; exact eR a ha, fun k k4 k5 => by rw [hF2.2.2]; exact eR7 k k4 k5⟩
/-- the lesser shape is within the greater one -/
def difOk (L L1 : List Nat) : Bool := (List.range 5).all (fun i => decide (L1.getD i 0 ≤ L.getD i 0))
set_option maxRecDepth 100000 in
set_option maxHeartbeats 4000000 in
theorem c_allowDifference {s s2 : Nat} {L L1 : List Nat} (hd : 1 ≤ d) (hr : gR h 67 0 = some 68) (hS : ShL h s) (hs : s = 74 ∨ s = 76 ∨ s = 78) (hI : ShI h s L) (hS2 : ShL h s2) (hs2 : s2 = 74 ∨ s2 = 76 ∨ s2 = 78) (hI2 : ShI h s2 L1) (hQt : difOk L L1 = true → ∀ h', AlI h' (fun x => L.getD (x - 1) 0 - L1.getD (x - 1) 0) → Fr1 h h' 68 69 → Q (some (.int (gBo true))) h') (hQf : difOk L L1 = false → ∀ h', Fr1 h h' 68 69 → Q (some (.int (gBo false))) h') : V Γ mX1_allowDifference d 124 124 h 0 [some (.ref 67), some (.ref s), some (.ref s2), none] [] Q := by
  have l0 := hS.1
  have k0 := hS2.1
  have lt := hS.2.2.1
  have kt := hS2.2.2.1
  have loop : ∀ k i h1, 5 - i = k → i ≤ 5 → (∀ x, 1 ≤ x → x ≤ i → gI h1 68 x = nI (L.getD (x - 1) 0 - L1.getD (x - 1) 0) ∧ L1.getD (x - 1) 0 ≤ L.getD (x - 1) 0) → Fr1 h h1 68 69 → V Γ mX1_allowDifference d 124 124 h1 2 [some (.ref 67), some (.ref s), some (.ref s2), some (.int (nI (i + 1)))] [] Q := by
    intro k
    induction k using Nat.strongRecOn with
    | _ k ih =>
      intro i h1 hk hi hx hF
      have hr1 : gR h1 67 0 = some 68 := by rw [hF.2.2]; exact hr
      have b1 := hI.2.2.2.2.2 i
      have b2 := hI2.2.2.2.2.2 i
      have e1 : gI (sI h1 68 (i + 1) (nI (L.getD i 0) - nI (L1.getD i 0))) 68 (i + 1) = nI (L.getD i 0) - nI (L1.getD i 0) := by rw [gI_sI, if_pos ⟨rfl, rfl⟩]
      refine V_iloadn3 dX1_allowDifference_2 ?_
      refine V_iconst (v := nI 5) dX1_allowDifference_3 (by decide) ?_
      first | refine U_icmp_gt (tgt := 45) dX1_allowDifference_4 (by decide) (by with_reducible rfl) (by with_reducible rfl) (by omega) (by omega) (fun c4 => ?_) (fun c4 => ?_) | refine V_icmp_gt (tgt := 45) dX1_allowDifference_4 (by decide) (fun c4 => ?_) (fun c4 => ?_)
      · skip
        have hc : difOk L L1 = true := by
          unfold difOk
          rw [List.all_eq_true]
          intro j hj
          have hj := List.mem_range.mp hj
          exact decide_eq_true ((hx (j + 1) (by omega) (by omega)).2)
        have hQ9 := hQt hc h1 (fun x x1 x2 => (hx x x1 (by omega)).1) hF
        refine V_iconst (v := nI 1) dX1_allowDifference_45 (by decide) ?_
        refine V_iret dX1_allowDifference_46 rfl (by first | exact gBo_nar _ | rfl | decide) ?_
        exact hQ9
      · skip
        refine V_aloadn0 dX1_allowDifference_7 ?_
        refine V_getR dX1_allowDifference_8 fX1_9 (by first | assumption | rfl) (by first | decide | omega) (by first | assumption | rfl) ?_
        refine V_iloadn3 dX1_allowDifference_11 ?_
        refine V_aloadn1 dX1_allowDifference_12 ?_
        refine V_iloadn3 dX1_allowDifference_13 ?_
        refine V_iconst (v := nI 1) dX1_allowDifference_14 (by decide) ?_
        first | refine U_isub dX1_allowDifference_15 (by with_reducible rfl) (by with_reducible rfl) (by omega) ?_ | refine V_isub dX1_allowDifference_15 ?_
        refine V_callV1 (μ' := mX4_lengthOf) dX1_allowDifference_16 okX4_lengthOf lX1_41 rfl (by first | assumption | rfl) (by first | decide | omega) (Nat.le_of_ble_eq_true rfl) (Nat.le_of_ble_eq_true rfl) (by omega) ?_
        refine c_lengthOf (L := L) (by omega) (ShL_fr hS hF.2.2) (ShI_fr hI hF (by omega)) ?_
        rw [show i + 1 - 1 = i by omega]
        dsimp only [gPush]
        refine V_aloadn2 dX1_allowDifference_19 ?_
        refine V_iloadn3 dX1_allowDifference_20 ?_
        refine V_iconst (v := nI 1) dX1_allowDifference_21 (by decide) ?_
        first | refine U_isub dX1_allowDifference_22 (by with_reducible rfl) (by with_reducible rfl) (by omega) ?_ | refine V_isub dX1_allowDifference_22 ?_
        refine V_callV1 (μ' := mX4_lengthOf) dX1_allowDifference_23 okX4_lengthOf lX1_41 rfl (by first | assumption | rfl) (by first | decide | omega) (Nat.le_of_ble_eq_true rfl) (Nat.le_of_ble_eq_true rfl) (by omega) ?_
        refine c_lengthOf (L := L1) (by omega) (ShL_fr hS2 hF.2.2) (ShI_fr hI2 hF (by omega)) ?_
        rw [show i + 1 - 1 = i by omega]
        dsimp only [gPush]
        refine V_isub dX1_allowDifference_26 ?_
        refine U_iast dX1_allowDifference_27 (by with_reducible rfl) (by first | assumption | rfl) (by first | decide | omega) (by omega) ?_
        refine V_aloadn0 dX1_allowDifference_28 ?_
        refine V_getR dX1_allowDifference_29 fX1_9 (by first | assumption | rfl) (by first | decide | omega) (by first | assumption | rfl) ?_
        refine V_iloadn3 dX1_allowDifference_32 ?_
        refine U_iald dX1_allowDifference_33 (by with_reducible rfl) (by first | assumption | rfl) (by first | decide | omega) (by omega) (by first | assumption | rfl) ?_
        refine V_if_ge (tgt := 39) dX1_allowDifference_34 (by decide) (fun c34 => ?_) (fun c34 => ?_)
        · skip
          have hge : L1.getD i 0 ≤ L.getD i 0 := by
            rcases Nat.lt_or_ge (L.getD i 0) (L1.getD i 0) with q | q
            · exact absurd (pk_sneg (by omega) q) (Int32.not_lt.mpr c34)
            · exact q
          refine V_iinc3 dX1_allowDifference_39 (by first | exact ginc1 _ | rfl) (by decide) rfl ?_
          refine V_goto (tgt := 2) dX1_allowDifference_42 (by decide) ?_
          refine ih _ (by omega) (i + 1) _ rfl (by omega) (fun x x1 x2 => ?_) (fr_sI hF (by omega) (by omega))
          rw [gI_sI]
          by_cases ex : x = i + 1
          · rw [if_pos ⟨rfl, ex⟩, ex, show i + 1 - 1 = i by omega, pk_sub hge]; exact ⟨rfl, hge⟩
          · rw [if_neg (fun z => ex z.2)]; exact hx x x1 (by omega)
        · skip
          have hlt : L.getD i 0 < L1.getD i 0 := by
            rcases Nat.lt_or_ge (L.getD i 0) (L1.getD i 0) with q | q
            · exact q
            · rw [pk_sub q] at c34; exact absurd (nI_pos' (by omega)) c34
          have hc : difOk L L1 = false := by
            unfold difOk
            rw [List.all_eq_false]
            exact ⟨i, List.mem_range.mpr (by omega), by rw [decide_eq_false (by omega)]; exact Bool.false_ne_true⟩
          have hQ9 := hQf hc _ (fr_sI (t := 68) (k := i + 1) (v := nI (L.getD i 0) - nI (L1.getD i 0)) hF (by omega) (by omega))
          refine V_iconst (v := nI 0) dX1_allowDifference_37 (by decide) ?_
          refine V_iret dX1_allowDifference_38 rfl (by first | exact gBo_nar _ | rfl | decide) ?_
          exact hQ9
  refine V_iconst (v := nI 1) dX1_allowDifference_0 (by decide) ?_
  refine V_istoren3 dX1_allowDifference_1 (by decide) rfl ?_
  exact loop _ 0 h rfl (by omega) (fun x x1 x2 => absurd x1 (by omega)) Fr1.rf
end C28
