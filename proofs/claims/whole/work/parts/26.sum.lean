/-! ===== the class: fillings summed ===== -/
def lstF (L c : List Nat) (row col : Nat) : Nat := if 0 < row then max (if 0 < col then c.getD (c.length - 1) 0 else 1) (c.getD (c.length - L.getD (row - 1) 0) 0 + 1) else (if 0 < col then c.getD (c.length - 1) 0 else 1)
def sF (L : List Nat) (n : Nat) (wt : Nat → Int32) (cnt : List Nat → Bool) : Nat → List Nat → Nat → Nat → (Nat → Nat) → Int64 → Int64
  | 0, _, _, _, _, _ => lN 0
  | f + 1, c, row, col, A, p =>
    if L.sum ≤ c.length then (if cnt c then p else lN 0)
    else if L.getD row 0 ≤ col then (if row < L.length then sF L n wt cnt f c (row + 1) 0 A p else lN 0)
    else (List.range (n + 1 - lstF L c row col)).foldl (fun acc j => if 0 < A (lstF L c row col + j) then acc + sF L n wt cnt f (c ++ [lstF L c row col + j]) row (col + 1) (fun y => if y = lstF L c row col + j then A y - 1 else A y) (p * (wt (lstF L c row col + j)).toInt64) else acc) (lN 0)
/-- what stands behind, and what counts by it -/
def cntB (n : Nat) (L : List Nat) (ob : Option (Nat × List Nat)) (c : List Nat) : Bool := match ob with
  | none => true
  | some q => hiB (joinW L c q.2) 1 (n - 1)
def BhI (h : gH) (L : List Nat) (ob : Option (Nat × List Nat)) : Prop := match ob with
  | none => gR h 67 4 = none
  | some q => gR h 67 4 = some q.1 ∧ gR h 67 5 = some 46 ∧ ShL h q.1 ∧ ShI h q.1 q.2 ∧ (q.1 = 74 ∨ q.1 = 76 ∨ q.1 = 78) ∧ L.sum + q.2.sum ≤ 6
/-- the fillings' rows, the shape at s -/
def FlL (h : gH) (s : Nat) : Prop := gR h 67 0 = some 68 ∧ gR h 67 1 = some 69 ∧ gR h 67 2 = some 70 ∧ gR h 67 6 = some 71 ∧ TL h 71 ∧ ShL h s ∧ (s = 74 ∨ s = 76 ∨ s = 78)
def FlI (h : gH) (s n : Nat) (L : List Nat) (wt : Nat → Int32) (ob : Option (Nat × List Nat)) : Prop := ShI h s L ∧ gI h 67 3 = nI n ∧ (∀ x, 1 ≤ x → x ≤ 5 → gI h 69 x = wt x) ∧ BhI h L ob
def FrF (h h' : gH) : Prop := (∀ a, a ≠ 46 → a < 68 ∨ a = 69 ∨ 74 ≤ a → gI h' a = gI h a) ∧ gL h' = gL h ∧ gR h' = gR h
theorem FrF.rf {h : gH} : FrF h h := ⟨fun _ _ _ => rfl, rfl, rfl⟩
theorem FrF.tr {h h' h'' : gH} (a : FrF h h') (b : FrF h' h'') : FrF h h'' := ⟨fun q h1 h2 => (b.1 q h1 h2).trans (a.1 q h1 h2), b.2.1.trans a.2.1, b.2.2.trans a.2.2⟩
theorem Fr1.toF {h h' : gH} {lo hi : Nat} (a : Fr1 h h' lo hi) (hl : (46 ≤ lo ∧ hi ≤ 47) ∨ (68 ≤ lo ∧ hi ≤ 69) ∨ (70 ≤ lo ∧ hi ≤ 74)) : FrF h h' := ⟨fun q h1 h2 => a.1 q (by omega), a.2.1, a.2.2⟩
theorem FlL_fr {h h' : gH} {s : Nat} (a : FlL h s) (e : gR h' = gR h) : FlL h' s := by
  obtain ⟨a0, a1, a2, a4, a5, a6, a7⟩ := a
  exact ⟨by rw [e]; exact a0, by rw [e]; exact a1, by rw [e]; exact a2, by rw [e]; exact a4, TL_fr a5 e, ShL_fr a6 e, a7⟩
theorem ShI_frF {h h' : gH} {s : Nat} {L : List Nat} (a : ShI h s L) (f : FrF h h') (hs : 74 ≤ s) : ShI h' s L := by
  obtain ⟨a0, a1, a2, a3⟩ := a
  exact ⟨by rw [f.1 s (by omega) (by omega)]; exact a0, by rw [f.1 s (by omega) (by omega)]; exact a1, fun r hr => by rw [f.1 (s + 1) (by omega) (by omega)]; exact a2 r hr, a3⟩
theorem FlI_fr {h h' : gH} {s n : Nat} {L : List Nat} {wt : Nat → Int32} {ob : Option (Nat × List Nat)} (a : FlI h s n L wt ob) (f : FrF h h') (hs : 74 ≤ s) : FlI h' s n L wt ob := by
  obtain ⟨a0, a1, a2, a3⟩ := a
  refine ⟨ShI_frF a0 f hs, by rw [f.1 67 (by omega) (by omega)]; exact a1, fun x h1 h2 => by rw [f.1 69 (by omega) (by omega)]; exact a2 x h1 h2, ?_⟩
  match ob, a3 with
  | none, a3 => show gR h' 67 4 = none; rw [f.2.2]; exact a3
  | some q, ⟨b0, b1, b2, b3, b4, b5⟩ => exact ⟨by rw [f.2.2]; exact b0, by rw [f.2.2]; exact b1, ShL_fr b2 f.2.2, ShI_frF b3 f (by omega), b4, b5⟩
section C26
variable {Γ : gM} {d : Nat} {h : gH} {Q : Option Value → gH → Prop}
set_option maxRecDepth 100000 in
set_option maxHeartbeats 4000000 in
theorem c_counts {s n : Nat} {L c : List Nat} {wt : Nat → Int32} {ob : Option (Nat × List Nat)} (hd : 3 ≤ d) (hn : n ≤ 5) (hn1 : 1 ≤ n) (hF : FlL h s) (hI : FlI h s n L wt ob) (hc : L.sum ≤ c.length) (hc6 : c.length ≤ 6) (hcI : ∀ j, j < c.length → gI h 70 j = nI (c.getD j 0)) (hc9 : ∀ j, c.getD j 0 ≤ 9) (hQ : ∀ h', Fr2 h h' 46 47 71 74 → Q (some (.int (gBo (cntB n L ob c)))) h') : V Γ mX1_counts d 124 124 h 0 [some (.ref 67), some (.ref s)] [] Q := by
  obtain ⟨a0, a1, a2, a4, a5, a6, a7⟩ := id hF
  obtain ⟨b0, b1, b2, b3⟩ := id hI
  match ob, b3, hQ with
  | none, b3, hQ =>
    have b3 : gR h 67 4 = none := b3
    refine V_aloadn0 dX1_counts_0 ?_
    refine V_getN dX1_counts_1 fX1_56 rfl (by decide) b3 ?_
    refine V_ifnullN (tgt := 14) dX1_counts_4 (by decide) ?_
    refine V_iconst (v := nI 1) dX1_counts_14 (by decide) ?_
    refine V_iret dX1_counts_15 rfl (gBo_nar true) ?_
    exact hQ h Fr2.rf
  | some q, ⟨e0, e1, e2, e3, e4, e5⟩, hQ =>
    refine V_aloadn0 dX1_counts_0 ?_
    refine V_getR dX1_counts_1 fX1_56 (by first | assumption | rfl) (by first | decide | omega) (by first | assumption | rfl) ?_
    refine V_ifnullR dX1_counts_4 ?_
    refine V_aloadn0 dX1_counts_7 ?_
    refine V_getR dX1_counts_8 fX1_64 (by first | assumption | rfl) (by first | decide | omega) (by first | assumption | rfl) ?_
    refine V_ifnonnullR (tgt := 16) dX1_counts_11 (by decide) ?_
    refine V_aloadn0 dX1_counts_16 ?_
    refine V_aloadn1 dX1_counts_17 ?_
    refine V_aloadn0 dX1_counts_18 ?_
    refine V_getR dX1_counts_19 fX1_56 (by first | assumption | rfl) (by first | decide | omega) (by first | assumption | rfl) ?_
    refine V_callV2 (μ' := mX1_join) dX1_counts_22 okX1_join lX1_88 rfl (by first | assumption | rfl) (by first | decide | omega) (Nat.le_of_ble_eq_true rfl) (Nat.le_of_ble_eq_true rfl) (by omega) ?_
    refine c_join (by omega) a2 a4 a5 a6 b0 e2 e3 (by omega) (by omega) hc hc6 hcI hc9 e5 (fun h1 hT1 hF1 => ?_)
    have r6 : gR h1 67 5 = some 46 := by rw [hF1.2.2]; exact e1
    have r7 : gR h1 67 6 = some 71 := by rw [hF1.2.2]; exact a4
    have n4 : gI h1 67 3 = nI n := by rw [hF1.1 67 (by omega)]; exact b1
    dsimp only [gPush]
    refine V_aloadn0 dX1_counts_25 ?_
    refine V_getR dX1_counts_26 fX1_64 (by first | assumption | rfl) (by first | decide | omega) (by first | assumption | rfl) ?_
    refine V_aloadn0 dX1_counts_29 ?_
    refine V_getR dX1_counts_30 fX1_24 (by first | assumption | rfl) (by first | decide | omega) (by first | assumption | rfl) ?_
    refine V_aloadn0 dX1_counts_33 ?_
    refine V_getI dX1_counts_34 fX1_52 (Or.inl rfl) (by first | assumption | rfl) (by first | decide | omega) (by first | assumption | rfl) ?_
    refine V_callV2 (μ' := mX3_isHighest) dX1_counts_37 okX3_isHighest lX1_92 rfl (by first | assumption | rfl) (by first | decide | omega) (Nat.le_of_ble_eq_true rfl) (Nat.le_of_ble_eq_true rfl) (by omega) ?_
    refine c_isHighest (by omega) (TL_fr a5 hF1.2.2) hT1 (by omega) hn hn1 (fun h2 hF2 => ?_)
    dsimp only [gPush]
    refine V_iret dX1_counts_40 rfl (by first | exact gBo_nar _ | rfl | decide) ?_
    exact hQ h2 ((hF1.to2 (Or.inr ⟨by omega, by omega⟩)).tr (hF2.to2 (Or.inl ⟨by omega, by omega⟩)))
set_option maxRecDepth 100000 in
set_option maxHeartbeats 4000000 in
theorem c_leastLetter {s n row col : Nat} {L c : List Nat} {wt : Nat → Int32} {ob : Option (Nat × List Nat)} (hd : 1 ≤ d) (hF : FlL h s) (hI : FlI h s n L wt ob) (hr : row < L.length) (hcol : col < L.getD row 0) (hcl : c.length = psum L row + col) (hc6 : c.length ≤ 6) (hpar : 0 < row → L.getD row 0 ≤ L.getD (row - 1) 0) (hcI : ∀ j, j < c.length → gI h 70 j = nI (c.getD j 0)) (hc9 : ∀ j, c.getD j 0 ≤ 9) (hQ : Q (some (.int (nI (lstF L c row col)))) h) : V Γ mX1_leastLetter d 124 124 h 0 [some (.ref 67), some (.ref s), some (.int (nI c.length)), some (.int (nI row)), some (.int (nI col)), none] [] Q := by
  obtain ⟨a0, a1, a2, a4, a5, a6, a7⟩ := id hF
  obtain ⟨b0, b1, b2, b3⟩ := id hI
  have l5 := b0.2.2.2.1
  have ha := hc9 (c.length - 1)
  have hb := hc9 (c.length - L.getD (row - 1) 0)
  have hp1 : 0 < row → psum L row = psum L (row - 1) + L.getD (row - 1) 0 := fun q => by
    have := psum_succ (L := L) (r := row - 1) (by omega)
    rw [show row - 1 + 1 = row by omega] at this
    exact this
  have h6 := b0.2.2.2.2.2 (row - 1)
  have h6' := b0.2.2.2.2.2 row
  have ls0 := a6.1
  have e1 : 0 < row → lstF L c row col = max (if 0 < col then c.getD (c.length - 1) 0 else 1) (c.getD (c.length - L.getD (row - 1) 0) 0 + 1) := fun q => by unfold lstF; rw [if_pos q]
  have e2 : ¬ 0 < row → lstF L c row col = (if 0 < col then c.getD (c.length - 1) 0 else 1) := fun q => by unfold lstF; rw [if_neg q]
  refine V_iconst (v := nI 1) dX1_leastLetter_0 (by decide) ?_
  refine V_istorew5 dX1_leastLetter_1 (by decide) rfl ?_
  refine V_iloadw4 dX1_leastLetter_3 ?_
  first | refine U_if_le (tgt := 18) dX1_leastLetter_5 (by decide) (by with_reducible rfl) (by omega) (fun c5 => ?_) (fun c5 => ?_) | refine V_if_le (tgt := 18) dX1_leastLetter_5 (by decide) (fun c5 => ?_) (fun c5 => ?_)
  · skip
    have e3 : (if 0 < col then c.getD (c.length - 1) 0 else 1) = 1 := if_neg (by omega)
    rw [e3] at e1 e2
    refine V_iloadn3 dX1_leastLetter_18 ?_
    first | refine U_if_le (tgt := 45) dX1_leastLetter_19 (by decide) (by with_reducible rfl) (by omega) (fun c19 => ?_) (fun c19 => ?_) | refine V_if_le (tgt := 45) dX1_leastLetter_19 (by decide) (fun c19 => ?_) (fun c19 => ?_)
    · skip
      rw [e2 (by omega)] at hQ
      refine V_iloadw5 dX1_leastLetter_45 ?_
      refine V_iret dX1_leastLetter_47 rfl rfl ?_
      exact hQ
    · skip
      rw [e1 (by omega)] at hQ
      have hp1 := hp1 (by omega)
      refine V_iloadw5 dX1_leastLetter_22 ?_
      refine V_aloadn0 dX1_leastLetter_24 ?_
      refine V_getR dX1_leastLetter_25 fX1_18 (by first | assumption | rfl) (by first | decide | omega) (by first | assumption | exact hcI _ (by omega) | rfl) ?_
      refine V_iloadn2 dX1_leastLetter_28 ?_
      refine V_aloadn1 dX1_leastLetter_29 ?_
      refine V_iloadn3 dX1_leastLetter_30 ?_
      refine V_iconst (v := nI 1) dX1_leastLetter_31 (by decide) ?_
      first | refine U_isub dX1_leastLetter_32 (by with_reducible rfl) (by with_reducible rfl) (by omega) ?_ | refine V_isub dX1_leastLetter_32 ?_
      refine V_callV1 (μ' := mX4_lengthOf) dX1_leastLetter_33 okX4_lengthOf lX1_41 rfl (by first | assumption | rfl) (by first | decide | omega) (Nat.le_of_ble_eq_true rfl) (Nat.le_of_ble_eq_true rfl) (by omega) ?_
      refine c_lengthOf (by omega) a6 b0 ?_
      dsimp only [gPush]
      first | refine U_isub dX1_leastLetter_36 (by with_reducible rfl) (by with_reducible rfl) (by omega) ?_ | refine V_isub dX1_leastLetter_36 ?_
      refine U_iald dX1_leastLetter_37 (by with_reducible rfl) (by first | assumption | rfl) (by first | decide | omega) (by omega) (by first | assumption | exact hcI _ (by omega) | rfl) ?_
      refine V_iconst (v := nI 1) dX1_leastLetter_38 (by decide) ?_
      first | refine U_iadd dX1_leastLetter_39 (by with_reducible rfl) (by with_reducible rfl) ?_ | refine V_iadd dX1_leastLetter_39 ?_
      first | refine U_max dX1_leastLetter_40 (by with_reducible rfl) (by with_reducible rfl) lX1_82 (Nat.le_of_ble_eq_true rfl) (by omega) (by omega) (by omega) ?_ | refine V_max dX1_leastLetter_40 lX1_82 (Nat.le_of_ble_eq_true rfl) (by omega) ?_
      refine V_istorew5 dX1_leastLetter_43 (by decide) rfl ?_
      refine V_iloadw5 dX1_leastLetter_45 ?_
      refine V_iret dX1_leastLetter_47 rfl rfl ?_
      exact hQ
  · skip
    have e3 : (if 0 < col then c.getD (c.length - 1) 0 else 1) = c.getD (c.length - 1) 0 := if_pos (by omega)
    rw [e3] at e1 e2
    refine V_aloadn0 dX1_leastLetter_8 ?_
    refine V_getR dX1_leastLetter_9 fX1_18 (by first | assumption | rfl) (by first | decide | omega) (by first | assumption | exact hcI _ (by omega) | rfl) ?_
    refine V_iloadn2 dX1_leastLetter_12 ?_
    refine V_iconst (v := nI 1) dX1_leastLetter_13 (by decide) ?_
    first | refine U_isub dX1_leastLetter_14 (by with_reducible rfl) (by with_reducible rfl) (by omega) ?_ | refine V_isub dX1_leastLetter_14 ?_
    refine U_iald dX1_leastLetter_15 (by with_reducible rfl) (by first | assumption | rfl) (by first | decide | omega) (by omega) (by first | assumption | exact hcI _ (by omega) | rfl) ?_
    refine V_istorew5 dX1_leastLetter_16 (by decide) rfl ?_
    refine V_iloadn3 dX1_leastLetter_18 ?_
    first | refine U_if_le (tgt := 45) dX1_leastLetter_19 (by decide) (by with_reducible rfl) (by omega) (fun c19 => ?_) (fun c19 => ?_) | refine V_if_le (tgt := 45) dX1_leastLetter_19 (by decide) (fun c19 => ?_) (fun c19 => ?_)
    · skip
      rw [e2 (by omega)] at hQ
      refine V_iloadw5 dX1_leastLetter_45 ?_
      refine V_iret dX1_leastLetter_47 rfl rfl ?_
      exact hQ
    · skip
      rw [e1 (by omega)] at hQ
      have hp1 := hp1 (by omega)
      refine V_iloadw5 dX1_leastLetter_22 ?_
      refine V_aloadn0 dX1_leastLetter_24 ?_
      refine V_getR dX1_leastLetter_25 fX1_18 (by first | assumption | rfl) (by first | decide | omega) (by first | assumption | exact hcI _ (by omega) | rfl) ?_
      refine V_iloadn2 dX1_leastLetter_28 ?_
      refine V_aloadn1 dX1_leastLetter_29 ?_
      refine V_iloadn3 dX1_leastLetter_30 ?_
      refine V_iconst (v := nI 1) dX1_leastLetter_31 (by decide) ?_
      first | refine U_isub dX1_leastLetter_32 (by with_reducible rfl) (by with_reducible rfl) (by omega) ?_ | refine V_isub dX1_leastLetter_32 ?_
      refine V_callV1 (μ' := mX4_lengthOf) dX1_leastLetter_33 okX4_lengthOf lX1_41 rfl (by first | assumption | rfl) (by first | decide | omega) (Nat.le_of_ble_eq_true rfl) (Nat.le_of_ble_eq_true rfl) (by omega) ?_
      refine c_lengthOf (by omega) a6 b0 ?_
      dsimp only [gPush]
      first | refine U_isub dX1_leastLetter_36 (by with_reducible rfl) (by with_reducible rfl) (by omega) ?_ | refine V_isub dX1_leastLetter_36 ?_
      refine U_iald dX1_leastLetter_37 (by with_reducible rfl) (by first | assumption | rfl) (by first | decide | omega) (by omega) (by first | assumption | exact hcI _ (by omega) | rfl) ?_
      refine V_iconst (v := nI 1) dX1_leastLetter_38 (by decide) ?_
      first | refine U_iadd dX1_leastLetter_39 (by with_reducible rfl) (by with_reducible rfl) ?_ | refine V_iadd dX1_leastLetter_39 ?_
      first | refine U_max dX1_leastLetter_40 (by with_reducible rfl) (by with_reducible rfl) lX1_82 (Nat.le_of_ble_eq_true rfl) (by omega) (by omega) (by omega) ?_ | refine V_max dX1_leastLetter_40 lX1_82 (Nat.le_of_ble_eq_true rfl) (by omega) ?_
      refine V_istorew5 dX1_leastLetter_43 (by decide) rfl ?_
      refine V_iloadw5 dX1_leastLetter_45 ?_
      refine V_iret dX1_leastLetter_47 rfl rfl ?_
      exact hQ
end C26
