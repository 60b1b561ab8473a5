/-! ===== the class: grids ===== -/
def szL (P : List (List Nat)) : Nat := (P.map List.length).sum
def GLay (h : gH) (g : Nat) : Prop := lay g = some (.inr 2) ∧ lay (g + 1) = some (.inl (0, 6)) ∧ lay (g + 2) = some (.inl (0, 36)) ∧ lay (g + 3) = some (.inl (0, 36)) ∧ g + 3 < 124 ∧ gR h g 2 = some (g + 1) ∧ gR h g 3 = some (g + 2) ∧ gR h g 4 = some (g + 3)
theorem GLay_fr {h h' : gH} {g : Nat} (a : GLay h g) (e : gR h' = gR h) : GLay h' g := by
  obtain ⟨a0, a1, a2, a3, a4, a5, a6, a7⟩ := a
  exact ⟨a0, a1, a2, a3, a4, by rw [e]; exact a5, by rw [e]; exact a6, by rw [e]; exact a7⟩
/-- what a grid holds: rows of letters, and as which one each came -/
def GI (h : gH) (g : Nat) (P T : List (List Nat)) : Prop :=
  gI h g 0 = nI P.length ∧ gI h g 1 = nI (szL P) ∧ (∀ r, r < 6 → gI h (g + 1) r = nI (P.getD r []).length) ∧ (∀ r c, r < 6 → c < (P.getD r []).length → gI h (g + 2) (r * 6 + c) = nI ((P.getD r []).getD c 0)) ∧ (∀ r c, r < 6 → c < (P.getD r []).length → gI h (g + 3) (r * 6 + c) = nI ((T.getD r []).getD c 0)) ∧
  P.length ≤ 6 ∧ szL P ≤ 6 ∧ (∀ r, (P.getD r []).length ≤ 6) ∧ (∀ r c, (P.getD r []).getD c 0 ≤ 9) ∧ (∀ r c, (T.getD r []).getD c 0 ≤ 9)
theorem GI_fr {h h' : gH} {g lo hi : Nat} {P T : List (List Nat)} (a : GI h g P T) (f : Fr1 h h' lo hi) (hg : g + 4 ≤ lo ∨ hi ≤ g) : GI h' g P T := by
  obtain ⟨a0, a1, a2, a3, a4, a5⟩ := a
  have e0 := f.1 g (by omega)
  have e1 := f.1 (g + 1) (by omega)
  have e2 := f.1 (g + 2) (by omega)
  have e3 := f.1 (g + 3) (by omega)
  exact ⟨by rw [e0]; exact a0, by rw [e0]; exact a1, fun r hr => by rw [e1]; exact a2 r hr, fun r c hr hc => by rw [e2]; exact a3 r c hr hc, fun r c hr hc => by rw [e3]; exact a4 r c hr hc, a5⟩
def fg : List Nat → Nat → Nat
  | [], _ => 0
  | a :: l, x => if x < a then 0 else fg l x + 1
theorem fg_le : ∀ (l : List Nat) (x : Nat), fg l x ≤ l.length
  | [], _ => Nat.le_refl _
  | a :: l, x => by
    have := fg_le l x
    unfold fg
    rw [List.length_cons]
    split <;> omega
/-- a letter at the end of row r, which may be one more than there are -/
def isAdd (P P' : List (List Nat)) (r x : Nat) : Prop := (∀ q, P'.getD q [] = if q = r then P.getD r [] ++ [x] else P.getD q []) ∧ P'.length = max P.length (r + 1) ∧ szL P' = szL P + 1
theorem getD_app_last {l : List Nat} {x c : Nat} : (l ++ [x]).getD c 0 = if c = l.length then x else l.getD c 0 := by
  rw [List.getD_eq_getElem?_getD, List.getD_eq_getElem?_getD]
  by_cases h1 : c < l.length
  · rw [List.getElem?_append_left h1, if_neg (by omega)]
  · by_cases h2 : c = l.length
    · subst h2; simp
    · rw [if_neg h2, List.getElem?_append_right (by omega), List.getElem?_eq_none (by simp; omega), List.getElem?_eq_none (by omega)]
section C14
variable {Γ : gM} {d : Nat} {h : gH} {Q : Option Value → gH → Prop} {g : Nat}
set_option maxRecDepth 100000 in
set_option maxHeartbeats 4000000 in
theorem c_cellAt {P T : List (List Nat)} {r c : Nat} (hG : GLay h g) (hI : GI h g P T) (hr : r < 6) (hc : c < (P.getD r []).length) (hQ : Q (some (.int (nI ((P.getD r []).getD c 0)))) h) : V Γ mX2_cellAt d 124 124 h 0 [some (.ref g), some (.int (nI r)), some (.int (nI c))] [] Q := by
  obtain ⟨g0, g1, g2, g3, gN, q2, q3, q4⟩ := hG
  obtain ⟨a0, a1, a2, a3, a4, a5, a6, a7, a8, a9⟩ := hI
  have hb := a7 r
  refine V_aloadn0 dX2_cellAt_0 ?_
  refine V_getR dX2_cellAt_1 fX2_15 (by first | assumption | rfl) (by first | decide | omega) (by first | assumption | exact a3 _ _ hr hc | rfl) ?_
  refine V_iloadn1 dX2_cellAt_4 ?_
  refine V_bipush (v := nI 6) dX2_cellAt_5 (by decide) ?_
  first | refine U_imul dX2_cellAt_7 (by with_reducible rfl) (by with_reducible rfl) ?_ | refine V_imul dX2_cellAt_7 ?_
  refine V_iloadn2 dX2_cellAt_8 ?_
  first | refine U_iadd dX2_cellAt_9 (by with_reducible rfl) (by with_reducible rfl) ?_ | refine V_iadd dX2_cellAt_9 ?_
  refine U_iald dX2_cellAt_10 (by with_reducible rfl) (by first | assumption | rfl) (by first | decide | omega) (by omega) (by first | assumption | exact a3 _ _ hr hc | rfl) ?_
  refine V_iret dX2_cellAt_11 rfl rfl ?_
  exact hQ
set_option maxRecDepth 100000 in
set_option maxHeartbeats 4000000 in
theorem c_firstGreater {P T : List (List Nat)} {r x : Nat} (hd : 1 ≤ d) (hG : GLay h g) (hI : GI h g P T) (hr : r < 6) (hx : x ≤ 9) (hQ : Q (some (.int (nI (fg (P.getD r []) x)))) h) : V Γ mX2_firstGreater d 124 124 h 0 [some (.ref g), some (.int (nI r)), some (.int (nI x)), none] [] Q := by
  obtain ⟨g0, g1, g2, g3, gN, q2, q3, q4⟩ := id hG
  obtain ⟨a0, a1, a2, a3, a4, a5, a6, a7, a8, a9⟩ := id hI
  have hb := a7 r
  have loop : ∀ k i, (P.getD r []).length - i = k → i ≤ (P.getD r []).length → fg (P.getD r []) x = i + fg ((P.getD r []).drop i) x → V Γ mX2_firstGreater d 124 124 h 2 [some (.ref g), some (.int (nI r)), some (.int (nI x)), some (.int (nI i))] [] Q := by
    intro k
    induction k using Nat.strongRecOn with
    | _ k ih =>
      intro i hk hi hf
      have hb2 := a8 r i
      refine V_iloadn3 dX2_firstGreater_2 ?_
      refine V_aloadn0 dX2_firstGreater_3 ?_
      refine V_getR dX2_firstGreater_4 fX2_9 (by first | assumption | rfl) (by first | decide | omega) (by first | assumption | exact a2 _ hr | rfl) ?_
      refine V_iloadn1 dX2_firstGreater_7 ?_
      refine U_iald dX2_firstGreater_8 (by with_reducible rfl) (by first | assumption | rfl) (by first | decide | omega) (by omega) (by first | assumption | exact a2 _ hr | rfl) ?_
      first | refine U_icmp_ge (tgt := 30) dX2_firstGreater_9 (by decide) (by with_reducible rfl) (by with_reducible rfl) (by omega) (by omega) (fun c9 => ?_) (fun c9 => ?_) | refine V_icmp_ge (tgt := 30) dX2_firstGreater_9 (by decide) (fun c9 => ?_) (fun c9 => ?_)
      · skip
        have e : i = (P.getD r []).length := by omega
        rw [List.drop_eq_nil_of_le (by omega), fg] at hf
        rw [hf, Nat.add_zero, e] at hQ
        refine V_aloadn0 dX2_firstGreater_30 ?_
        refine V_getR dX2_firstGreater_31 fX2_9 (by first | assumption | rfl) (by first | decide | omega) (by first | assumption | exact a2 _ hr | rfl) ?_
        refine V_iloadn1 dX2_firstGreater_34 ?_
        refine U_iald dX2_firstGreater_35 (by with_reducible rfl) (by first | assumption | rfl) (by first | decide | omega) (by omega) (by first | assumption | exact a2 _ hr | rfl) ?_
        refine V_iret dX2_firstGreater_36 rfl rfl ?_
        exact hQ
      · skip
        have hdr : (P.getD r []).drop i = (P.getD r []).getD i 0 :: (P.getD r []).drop (i + 1) := by
          rw [List.drop_eq_getElem_cons (by omega), List.getD_eq_getElem?_getD (l := P.getD r []), List.getElem?_eq_getElem (by omega)]; rfl
        refine V_aloadn0 dX2_firstGreater_12 ?_
        refine V_iloadn1 dX2_firstGreater_13 ?_
        refine V_iloadn3 dX2_firstGreater_14 ?_
        refine V_callV2 (μ' := mX2_cellAt) dX2_firstGreater_15 okX2_cellAt lX2_34 rfl (by first | assumption | rfl) (by first | decide | omega) (Nat.le_of_ble_eq_true rfl) (Nat.le_of_ble_eq_true rfl) (by omega) ?_
        refine c_cellAt hG hI hr (by omega) ?_
        dsimp only [gPush]
        refine V_iloadn2 dX2_firstGreater_18 ?_
        first | refine U_icmp_le (tgt := 24) dX2_firstGreater_19 (by decide) (by with_reducible rfl) (by with_reducible rfl) (by omega) (by omega) (fun c19 => ?_) (fun c19 => ?_) | refine V_icmp_le (tgt := 24) dX2_firstGreater_19 (by decide) (fun c19 => ?_) (fun c19 => ?_)
        · skip
          refine V_iinc3 dX2_firstGreater_24 (by first | exact ginc1 _ | rfl) (by decide) rfl ?_
          refine V_goto (tgt := 2) dX2_firstGreater_27 (by decide) ?_
          refine ih ((P.getD r []).length - (i + 1)) (by omega) (i + 1) rfl (by omega) ?_
          rw [hf, hdr, fg, if_neg (by omega)]
          omega
        · skip
          rw [hdr, fg, if_pos (by omega), Nat.add_zero] at hf
          rw [hf] at hQ
          refine V_iloadn3 dX2_firstGreater_22 ?_
          refine V_iret dX2_firstGreater_23 rfl rfl ?_
          exact hQ
  refine V_iconst (v := nI 0) dX2_firstGreater_0 (by decide) ?_
  refine V_istoren3 dX2_firstGreater_1 (by decide) rfl ?_
  exact loop _ 0 rfl (by omega) (by rw [List.drop_zero, Nat.zero_add])
set_option maxRecDepth 100000 in
set_option maxHeartbeats 4000000 in
theorem c_clear (hd : 1 ≤ d) (hG : GLay h g) (hQ : ∀ h', GI h' g [] [] → Fr1 h h' g (g + 4) → Q none h') : V Γ mX2_clear d 124 124 h 0 [some (.ref g)] [] Q := by
  obtain ⟨g0, g1, g2, g3, gN, q2, q3, q4⟩ := hG
  refine V_aloadn0 dX2_clear_0 ?_
  refine V_iconst (v := nI 0) dX2_clear_1 (by decide) ?_
  refine V_putI dX2_clear_2 fX2_21 (by first | assumption | rfl) (by first | decide | omega) ?_
  refine V_aloadn0 dX2_clear_5 ?_
  refine V_iconst (v := nI 0) dX2_clear_6 (by decide) ?_
  refine V_putI dX2_clear_7 fX2_25 (by first | assumption | rfl) (by first | decide | omega) ?_
  refine V_aloadn0 dX2_clear_10 ?_
  refine V_getR dX2_clear_11 fX2_9 (by first | assumption | rfl) (by first | decide | omega) (by first | assumption | rfl) ?_
  refine V_iconst (v := nI 0) dX2_clear_14 (by decide) ?_
  refine V_callS2 (μ' := mJ7_fill_53178) dX2_clear_15 okJ7_fill_53178 lX2_28 (Nat.le_of_ble_eq_true rfl) (Nat.le_of_ble_eq_true rfl) (by omega) ?_
  refine c_fillI g1 (by omega) (fun h2 hk hF => ?_)
  dsimp only [gPush]
  refine V_ret dX2_clear_18 rfl ?_
  refine hQ h2 ⟨?_, ?_, fun r hr => by rw [hk r hr]; simp, fun r c hr hc => absurd hc (by simp), fun r c hr hc => absurd hc (by simp), by decide, by decide, fun r => by simp, fun r c => by simp, fun r c => by simp⟩ ((fr_sI (fr_sI Fr1.rf (by omega) (by omega)) (by omega) (by omega)).tr (hF.wd (by omega) (by omega)))
  · rw [hF.1 g (by omega)]; simp [gI_sI]
  · rw [hF.1 g (by omega)]; simp [gI_sI, szL]
set_option maxRecDepth 100000 in
set_option maxHeartbeats 4000000 in
theorem c_append {P T P' T' : List (List Nat)} {r x : Nat} (hd : 1 ≤ d) (hG : GLay h g) (hI : GI h g P T) (hr : r < 6) (hx : x ≤ 9) (hs : szL P < 6) (hl : (P.getD r []).length < 6) (hP : isAdd P P' r x) (hT : ∀ q, T'.getD q [] = if q = r then T.getD r [] ++ [szL P + 1] else T.getD q []) (hTl : (T.getD r []).length = (P.getD r []).length) (hQ : ∀ h', GI h' g P' T' → Fr1 h h' g (g + 4) → Q none h') : V Γ mX2_append d 124 124 h 0 [some (.ref g), some (.int (nI r)), some (.int (nI x)), none] [] Q := by
  obtain ⟨g0, g1, g2, g3, gN, q2, q3, q4⟩ := hG
  obtain ⟨a0, a1, a2, a3, a4, a5, a6, a7, a8, a9⟩ := hI
  obtain ⟨p1, p2, p3⟩ := hP
  generalize hlen : (P.getD r []).length = n at hl hTl
  have w1 := a2 r hr
  rw [hlen] at w1
  have w2 : gI (sI (sI h g 1 (nI (szL P + 1))) (g + 2) (r * 6 + n) (nI x)) g 1 = nI (szL P + 1) := by rw [gI_sI, if_neg (by omega), gI_sI, if_pos ⟨rfl, rfl⟩]
  have w3 : gI (sI (sI (sI h g 1 (nI (szL P + 1))) (g + 2) (r * 6 + n) (nI x)) (g + 3) (r * 6 + n) (nI (szL P + 1))) (g + 1) r = nI n := by rw [gI_sI, if_neg (by omega), gI_sI, if_neg (by omega), gI_sI, if_neg (by omega)]; exact w1
  have w4 : gI (sI (sI (sI (sI h g 1 (nI (szL P + 1))) (g + 2) (r * 6 + n) (nI x)) (g + 3) (r * 6 + n) (nI (szL P + 1))) (g + 1) r (nI (n + 1))) g 0 = nI P.length := by rw [gI_sI, if_neg (by omega), gI_sI, if_neg (by omega), gI_sI, if_neg (by omega), gI_sI, if_neg (by omega)]; exact a0
  refine V_iloadn1 dX2_append_0 ?_
  refine V_bipush (v := nI 6) dX2_append_1 (by decide) ?_
  first | refine U_imul dX2_append_3 (by with_reducible rfl) (by with_reducible rfl) ?_ | refine V_imul dX2_append_3 ?_
  refine V_aloadn0 dX2_append_4 ?_
  refine V_getR dX2_append_5 fX2_9 (by first | assumption | rfl) (by first | decide | omega) (by first | assumption | rfl) ?_
  refine V_iloadn1 dX2_append_8 ?_
  refine U_iald dX2_append_9 (by with_reducible rfl) (by first | assumption | rfl) (by first | decide | omega) (by omega) (by first | assumption | rfl) ?_
  first | refine U_iadd dX2_append_10 (by with_reducible rfl) (by with_reducible rfl) ?_ | refine V_iadd dX2_append_10 ?_
  refine V_istoren3 dX2_append_11 (by decide) rfl ?_
  refine V_aloadn0 dX2_append_12 ?_
  first | refine V_dupa dX2_append_13 ?_ | refine V_dupi dX2_append_13 ?_
  refine V_getI dX2_append_14 fX2_25 (Or.inl rfl) (by first | assumption | rfl) (by first | decide | omega) (by first | assumption | rfl) ?_
  refine V_iconst (v := nI 1) dX2_append_17 (by decide) ?_
  first | refine U_iadd dX2_append_18 (by with_reducible rfl) (by with_reducible rfl) ?_ | refine V_iadd dX2_append_18 ?_
  refine V_putI dX2_append_19 fX2_25 (by first | assumption | rfl) (by first | decide | omega) ?_
  refine V_aloadn0 dX2_append_22 ?_
  refine V_getR dX2_append_23 fX2_15 (by first | assumption | rfl) (by first | decide | omega) (by first | assumption | rfl) ?_
  refine V_iloadn3 dX2_append_26 ?_
  refine V_iloadn2 dX2_append_27 ?_
  refine U_iast dX2_append_28 (by with_reducible rfl) (by first | assumption | rfl) (by first | decide | omega) (by omega) ?_
  refine V_aloadn0 dX2_append_29 ?_
  refine V_getR dX2_append_30 fX2_18 (by first | assumption | rfl) (by first | decide | omega) (by first | assumption | rfl) ?_
  refine V_iloadn3 dX2_append_33 ?_
  refine V_aloadn0 dX2_append_34 ?_
  refine V_getI dX2_append_35 fX2_25 (Or.inl rfl) (by first | assumption | rfl) (by first | decide | omega) (by first | assumption | rfl) ?_
  refine U_iast dX2_append_38 (by with_reducible rfl) (by first | assumption | rfl) (by first | decide | omega) (by omega) ?_
  refine V_aloadn0 dX2_append_39 ?_
  refine V_getR dX2_append_40 fX2_9 (by first | assumption | rfl) (by first | decide | omega) (by first | assumption | rfl) ?_
  refine V_iloadn1 dX2_append_43 ?_
  refine V_dup2 dX2_append_44 ?_
  refine U_iald dX2_append_45 (by with_reducible rfl) (by first | assumption | rfl) (by first | decide | omega) (by omega) (by first | assumption | rfl) ?_
  refine V_iconst (v := nI 1) dX2_append_46 (by decide) ?_
  first | refine U_iadd dX2_append_47 (by with_reducible rfl) (by with_reducible rfl) ?_ | refine V_iadd dX2_append_47 ?_
  refine U_iast dX2_append_48 (by with_reducible rfl) (by first | assumption | rfl) (by first | decide | omega) (by omega) ?_
  refine V_aloadn0 dX2_append_49 ?_
  refine V_aloadn0 dX2_append_50 ?_
  refine V_getI dX2_append_51 fX2_21 (Or.inl rfl) (by first | assumption | rfl) (by first | decide | omega) (by first | assumption | rfl) ?_
  refine V_iloadn1 dX2_append_54 ?_
  refine V_iconst (v := nI 1) dX2_append_55 (by decide) ?_
  first | refine U_iadd dX2_append_56 (by with_reducible rfl) (by with_reducible rfl) ?_ | refine V_iadd dX2_append_56 ?_
  first | refine U_max dX2_append_57 (by with_reducible rfl) (by with_reducible rfl) lX2_38 (Nat.le_of_ble_eq_true rfl) (by omega) (by omega) (by omega) ?_ | refine V_max dX2_append_57 lX2_38 (Nat.le_of_ble_eq_true rfl) (by omega) ?_
  refine V_putI dX2_append_60 fX2_21 (by first | assumption | rfl) (by first | decide | omega) ?_
  refine V_ret dX2_append_63 rfl ?_
  skip
  generalize hh : sI (sI (sI (sI (sI h g 1 (nI (szL P + 1))) (g + 2) (r * 6 + n) (nI x)) (g + 3) (r * 6 + n) (nI (szL P + 1))) (g + 1) r (nI (n + 1))) g 0 (nI (max P.length (r + 1))) = h'
  have k0 : ∀ b, b ≠ 0 → b ≠ 1 → gI h' g b = gI h g b := fun b b0 b1 => by rw [← hh]; simp [gI_sI, b0, b1]
  have k00 : gI h' g 0 = nI (max P.length (r + 1)) := by rw [← hh, gI_sI, if_pos ⟨rfl, rfl⟩]
  have k01 : gI h' g 1 = nI (szL P + 1) := by rw [← hh, gI_sI, if_neg (by omega), gI_sI, if_neg (by omega), gI_sI, if_neg (by omega), gI_sI, if_neg (by omega), gI_sI, if_pos ⟨rfl, rfl⟩]
  have k1 : ∀ b, gI h' (g + 1) b = if b = r then nI (n + 1) else gI h (g + 1) b := fun b => by
    rw [← hh, gI_sI, if_neg (by omega), gI_sI]
    by_cases e : b = r
    · rw [if_pos ⟨rfl, e⟩, if_pos e]
    · rw [if_neg (fun q => e q.2), if_neg e, gI_sI, if_neg (by omega), gI_sI, if_neg (by omega), gI_sI, if_neg (by omega)]
  have k2 : ∀ b, gI h' (g + 2) b = if b = r * 6 + n then nI x else gI h (g + 2) b := fun b => by
    rw [← hh, gI_sI, if_neg (by omega), gI_sI, if_neg (by omega), gI_sI, if_neg (by omega), gI_sI]
    by_cases e : b = r * 6 + n
    · rw [if_pos ⟨rfl, e⟩, if_pos e]
    · rw [if_neg (fun q => e q.2), if_neg e, gI_sI, if_neg (by omega)]
  have k3 : ∀ b, gI h' (g + 3) b = if b = r * 6 + n then nI (szL P + 1) else gI h (g + 3) b := fun b => by
    rw [← hh, gI_sI, if_neg (by omega), gI_sI, if_neg (by omega), gI_sI]
    by_cases e : b = r * 6 + n
    · rw [if_pos ⟨rfl, e⟩, if_pos e]
    · rw [if_neg (fun q => e q.2), if_neg e, gI_sI, if_neg (by omega), gI_sI, if_neg (by omega)]
  have hF : Fr1 h h' g (g + 4) := by
    rw [← hh]
    exact fr_sI (fr_sI (fr_sI (fr_sI (fr_sI Fr1.rf (by omega) (by omega)) (by omega) (by omega)) (by omega) (by omega)) (by omega) (by omega)) (by omega) (by omega)
  refine hQ h' ⟨by rw [k00, p2], by rw [k01, p3], fun q hq => ?_, fun q c hq hc => ?_, fun q c hq hc => ?_, by rw [p2]; omega, by rw [p3]; omega, fun q => ?_, fun q c => ?_, fun q c => ?_⟩ hF
  · rw [k1, p1]
    by_cases e : q = r
    · rw [if_pos e, if_pos e, List.length_append, hlen]; rfl
    · rw [if_neg e, if_neg e]; exact a2 q hq
  · rw [p1] at hc ⊢
    rw [k2]
    by_cases e : q = r
    · subst e
      rw [if_pos rfl] at hc ⊢
      rw [List.length_append, hlen] at hc
      rw [getD_app_last, hlen]
      by_cases ec : c = n
      · rw [if_pos (by omega), if_pos ec]
      · rw [if_neg (by omega), if_neg ec]
        exact a3 q c hr (by rw [hlen]; simp at hc; omega)
    · rw [if_neg e] at hc ⊢
      have hq7 := a7 q
      rw [if_neg (by omega)]
      exact a3 q c hq hc
  · rw [p1] at hc
    rw [k3, hT]
    by_cases e : q = r
    · subst e
      rw [if_pos rfl] at hc ⊢
      rw [List.length_append, hlen] at hc
      rw [getD_app_last, hTl]
      by_cases ec : c = n
      · rw [if_pos (by omega), if_pos ec]
      · rw [if_neg (by omega), if_neg ec]
        exact a4 q c hr (by rw [hlen]; simp at hc; omega)
    · rw [if_neg e] at hc ⊢
      have hq7 := a7 q
      rw [if_neg (by omega)]
      exact a4 q c hq hc
  · rw [p1]
    by_cases e : q = r
    · rw [if_pos e, List.length_append, hlen]; simp; omega
    · rw [if_neg e]; exact a7 q
  · rw [p1]
    by_cases e : q = r
    · rw [if_pos e, getD_app_last]
      by_cases ec : c = (P.getD r []).length
      · rw [if_pos ec]; exact hx
      · rw [if_neg ec]; exact a8 r c
    · rw [if_neg e]; exact a8 q c
  · rw [hT]
    by_cases e : q = r
    · rw [if_pos e, getD_app_last]
      by_cases ec : c = (T.getD r []).length
      · rw [if_pos ec]; omega
      · rw [if_neg ec]; exact a9 r c
    · rw [if_neg e]; exact a9 q c
end C14
