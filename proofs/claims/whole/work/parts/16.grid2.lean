/-! ===== the class: grids written, asked ===== -/
def rdL (P : List (List Nat)) : List Nat := P.reverse.flatten
theorem rdL_cons (r : List Nat) (rs : List (List Nat)) : rdL (r :: rs) = rdL rs ++ r := by simp [rdL]
theorem rdL_len : ∀ P : List (List Nat), (rdL P).length = szL P
  | [] => rfl
  | r :: rs => by rw [rdL_cons, List.length_append, rdL_len rs, szL_cons]; omega
theorem getD_maplen (P : List (List Nat)) (r : Nat) : (P.map List.length).getD r 0 = (P.getD r []).length := by
  rw [List.getD_eq_getElem?_getD, List.getElem?_map, List.getD_eq_getElem?_getD]
  cases P[r]? <;> rfl
theorem szL_drop (P : List (List Nat)) (q : Nat) : szL (P.drop q) ≤ szL P := by
  have : szL P = szL (P.take q) + szL (P.drop q) := by rw [← szL_app, List.take_append_drop]
  omega
theorem drop_getD {P : List (List Nat)} {q : Nat} (hq : q < P.length) : P.drop q = P.getD q [] :: P.drop (q + 1) := by
  rw [List.drop_eq_getElem_cons hq, List.getD_eq_getElem?_getD, List.getElem?_eq_getElem hq]; rfl
theorem getD_app (a b : List Nat) (j : Nat) : (a ++ b).getD j 0 = if j < a.length then a.getD j 0 else b.getD (j - a.length) 0 := by
  rw [List.getD_eq_getElem?_getD]
  by_cases h1 : j < a.length
  · rw [if_pos h1, List.getElem?_append_left h1, List.getD_eq_getElem?_getD]
  · rw [if_neg h1, List.getElem?_append_right (by omega), List.getD_eq_getElem?_getD]
theorem rdL_le {P : List (List Nat)} {c : Nat} (h : ∀ r j, (P.getD r []).getD j 0 ≤ c) (j : Nat) : (rdL P).getD j 0 ≤ c := by
  induction P generalizing j with
  | nil => simp [rdL]
  | cons r rs ih =>
    rw [rdL_cons, getD_app]
    split
    · exact ih (fun q i => h (q + 1) i) j
    · exact h 0 _
section C16
variable {Γ : gM} {d : Nat} {h : gH} {Q : Option Value → gH → Prop} {g : Nat}
set_option maxRecDepth 100000 in
set_option maxHeartbeats 4000000 in
theorem c_writeTo {P T : List (List Nat)} {t : Nat} (hd : 1 ≤ d) (hG : GLay h g) (hI : GI h g P T) (hT : TL h t) (hgt : g + 4 ≤ t ∨ t + 3 ≤ g) (hQ : ∀ h', TI h' t 2 (rdL P) (P.map List.length) → Fr1 h h' t (t + 3) → Q none h') : V Γ mX2_writeTo d 124 124 h 0 [some (.ref g), some (.ref t), none, none] [] Q := by
  obtain ⟨g0, g1, g2, g3, gN, q2, q3, q4⟩ := id hG
  obtain ⟨l0, l1, l2, lt, r2, r4⟩ := id hT
  obtain ⟨a0, a1, a2, a3, a4, a5, a6, a7, a8, a9⟩ := id hI
  have loop : ∀ q h1, q ≤ P.length → gI h1 t 0 = nI 2 → gI h1 t 1 = nI (szL P) → gI h1 t 3 = nI P.length → (∀ r, r < P.length → gI h1 (t + 2) r = nI (P.getD r []).length) → (∀ j, j < (rdL (P.drop q)).length → gI h1 (t + 1) j = nI ((rdL (P.drop q)).getD j 0)) → Fr1 h h1 t (t + 3) → V Γ mX2_writeTo d 124 124 h1 47 [some (.ref g), some (.ref t), some (.int (nI (rdL (P.drop q)).length)), some (.int (nI q - nI 1))] [] Q := by
    intro q
    induction q with
    | zero =>
      intro h1 hq z0 z1 z3 zl zw hF
      rw [List.drop_zero] at zw ⊢
      refine V_iloadn3 dX2_writeTo_47 ?_
      refine V_if_lt (tgt := 88) dX2_writeTo_48 (by decide) (fun c48 => ?_) (fun c48 => ?_)
      · skip
        refine V_ret dX2_writeTo_88 rfl ?_
        refine hQ h1 ⟨z0, ?_, ?_, zw, fun r hr => ?_, ?_, ?_, fun j => rdL_le a8 j, fun r => ?_, by decide⟩ hF
        · rw [rdL_len]; exact z1
        · rw [List.length_map]; exact z3
        · rw [getD_maplen]; rw [List.length_map] at hr; exact zl r hr
        · rw [rdL_len]; exact a6
        · rw [List.length_map]; exact a5
        · rw [getD_maplen]; exact a7 r
      · skip
        exact absurd ((gdec_lt (by omega)).mpr rfl) c48
    | succ q ih =>
      intro h1 hq z0 z1 z3 zl zw hF
      have hG1 := GLay_fr hG hF.2.2
      obtain ⟨-, -, -, -, -, q2', q3', q4'⟩ := hG1
      have r2' : gR h1 t 2 = some (t + 1) := by rw [hF.2.2]; exact r2
      have hw : rdL (P.drop q) = rdL (P.drop (q + 1)) ++ P.getD q [] := by rw [drop_getD (by omega), rdL_cons]
      have hlen : (rdL (P.drop q)).length = (rdL (P.drop (q + 1))).length + (P.getD q []).length := by rw [hw, List.length_append]
      have hle : (rdL (P.drop q)).length ≤ 6 := by rw [rdL_len]; have := szL_drop P q; omega
      have h7 := a7 q
      have w1 : gI h1 (g + 1) q = nI (P.getD q []).length := by rw [hF.1 (g + 1) (by omega)]; exact a2 q (by omega)
      generalize hh2 : sIa h1 (t + 1) (va_cpy (gI h1 (g + 2)) (gI h1 (t + 1)) (q * 6) (rdL (P.drop (q + 1))).length (P.getD q []).length) = h2
      have e2 : ∀ a, a ≠ t + 1 → gI h2 a = gI h1 a := fun a ha => by rw [← hh2, gI_sIa, if_neg ha]
      have q2'' : gR h2 g 2 = some (g + 1) := by rw [← hh2]; exact q2'
      have w2 : gI h2 (g + 1) q = nI (P.getD q []).length := by rw [e2 _ (by omega)]; exact w1
      rw [gdecP]
      refine V_iloadn3 dX2_writeTo_47 ?_
      refine V_if_lt (tgt := 88) dX2_writeTo_48 (by decide) (fun c48 => ?_) (fun c48 => ?_)
      · skip
        exact absurd c48 (nI_pos (by omega))
      · skip
        refine V_aloadn0 dX2_writeTo_51 ?_
        refine V_getR dX2_writeTo_52 fX2_15 (by first | assumption | rfl) (by first | decide | omega) (by first | assumption | rfl) ?_
        refine V_iloadn3 dX2_writeTo_55 ?_
        refine V_bipush (v := nI 6) dX2_writeTo_56 (by decide) ?_
        first | refine U_imul dX2_writeTo_58 (by with_reducible rfl) (by with_reducible rfl) ?_ | refine V_imul dX2_writeTo_58 ?_
        refine V_aloadn1 dX2_writeTo_59 ?_
        refine V_getR dX2_writeTo_60 fX2_49 (by first | assumption | rfl) (by first | decide | omega) (by first | assumption | rfl) ?_
        refine V_iloadn2 dX2_writeTo_63 ?_
        refine V_aloadn0 dX2_writeTo_64 ?_
        refine V_getR dX2_writeTo_65 fX2_9 (by first | assumption | rfl) (by first | decide | omega) (by first | assumption | rfl) ?_
        refine V_iloadn3 dX2_writeTo_68 ?_
        refine U_iald dX2_writeTo_69 (by with_reducible rfl) (by first | assumption | rfl) (by first | decide | omega) (by omega) (by first | assumption | rfl) ?_
        first | refine U_copyI dX2_writeTo_70 (by with_reducible rfl) (by with_reducible rfl) (by with_reducible rfl) lX2_68 (by first | assumption | rfl) (by first | assumption | rfl) (by first | decide | omega) (by first | decide | omega) (by omega) (by omega) (Nat.le_of_ble_eq_true rfl) (by omega) ?_ | refine U_copyL dX2_writeTo_70 (by with_reducible rfl) (by with_reducible rfl) (by with_reducible rfl) lX2_68 (by first | assumption | rfl) (by first | assumption | rfl) (by first | decide | omega) (by first | decide | omega) (by omega) (by omega) (Nat.le_of_ble_eq_true rfl) (by omega) ?_
        rw [hh2]
        refine V_iloadn2 dX2_writeTo_73 ?_
        refine V_aloadn0 dX2_writeTo_74 ?_
        refine V_getR dX2_writeTo_75 fX2_9 (by first | assumption | rfl) (by first | decide | omega) (by first | assumption | rfl) ?_
        refine V_iloadn3 dX2_writeTo_78 ?_
        refine U_iald dX2_writeTo_79 (by with_reducible rfl) (by first | assumption | rfl) (by first | decide | omega) (by omega) (by first | assumption | rfl) ?_
        first | refine U_iadd dX2_writeTo_80 (by with_reducible rfl) (by with_reducible rfl) ?_ | refine V_iadd dX2_writeTo_80 ?_
        refine V_istoren2 dX2_writeTo_81 (by decide) rfl ?_
        refine V_iinc3 dX2_writeTo_82 (by first | exact gdecS _ | rfl) (by decide) rfl ?_
        refine V_goto (tgt := 47) dX2_writeTo_85 (by decide) ?_
        rw [← hlen]
        refine ih h2 (by omega) (by rw [e2 _ (by omega)]; exact z0) (by rw [e2 _ (by omega)]; exact z1) (by rw [e2 _ (by omega)]; exact z3) (fun r hr => by rw [e2 _ (by omega)]; exact zl r hr) (fun j hj => ?_) ⟨fun a ha => by rw [e2 a (by omega)]; exact hF.1 a ha, by rw [← hh2]; exact hF.2.1, by rw [← hh2]; exact hF.2.2⟩
        rw [← hh2, gI_sIa, if_pos rfl, hw, getD_app]
        by_cases e : j < (rdL (P.drop (q + 1))).length
        · rw [if_pos e, pk_cpy_out (Or.inl e)]; exact zw j e
        · rw [if_neg e, pk_cpy_in (by omega) (by omega), hF.1 (g + 2) (by omega)]; exact a3 q _ (by omega) (by omega)
  have e1 : gI (sI h t 0 (nI 2)) g 1 = nI (szL P) := by rw [gI_sI, if_neg (by omega)]; exact a1
  have e2 : gI (sI (sI h t 0 (nI 2)) t 1 (nI (szL P))) g 0 = nI P.length := by rw [gI_sI, if_neg (by omega), gI_sI, if_neg (by omega)]; exact a0
  have e3 : gI (sI (sI (sI h t 0 (nI 2)) t 1 (nI (szL P))) t 3 (nI P.length)) g 0 = nI P.length := by rw [gI_sI, if_neg (by omega)]; exact e2
  generalize hh1 : sI (sI (sI h t 0 (nI 2)) t 1 (nI (szL P))) t 3 (nI P.length) = h1 at e3
  have f1 : Fr1 h h1 t (t + 1) := by rw [← hh1]; exact fr_sI (fr_sI (fr_sI Fr1.rf (by omega) (by omega)) (by omega) (by omega)) (by omega) (by omega)
  have z : gI h1 t 0 = nI 2 ∧ gI h1 t 1 = nI (szL P) ∧ gI h1 t 3 = nI P.length := by rw [← hh1]; simp [gI_sI]
  have y1 : gR h1 g 2 = some (g + 1) ∧ gR h1 t 4 = some (t + 2) := by rw [f1.2.2]; exact ⟨q2, r4⟩
  obtain ⟨y1, y2⟩ := y1
  generalize hh2 : sIa h1 (t + 2) (va_cpy (gI h1 (g + 1)) (gI h1 (t + 2)) 0 0 P.length) = h2
  have f2 : Fr1 h1 h2 (t + 2) (t + 3) := by rw [← hh2]; exact ⟨fun a ha => by rw [gI_sIa, if_neg (by omega)], rfl, rfl⟩
  have y3 : gI h2 g 0 = nI P.length := by rw [f2.1 g (by omega)]; exact e3
  refine V_aloadn1 dX2_writeTo_0 ?_
  refine V_iconst (v := nI 2) dX2_writeTo_1 (by decide) ?_
  refine V_putI dX2_writeTo_2 fX2_63 (by first | assumption | rfl) (by first | decide | omega) ?_
  refine V_aloadn1 dX2_writeTo_5 ?_
  refine V_aloadn0 dX2_writeTo_6 ?_
  refine V_getI dX2_writeTo_7 fX2_25 (Or.inl rfl) (by first | assumption | rfl) (by first | decide | omega) (by first | assumption | rfl) ?_
  refine V_putI dX2_writeTo_10 fX2_46 (by first | assumption | rfl) (by first | decide | omega) ?_
  refine V_aloadn1 dX2_writeTo_13 ?_
  refine V_aloadn0 dX2_writeTo_14 ?_
  refine V_getI dX2_writeTo_15 fX2_21 (Or.inl rfl) (by first | assumption | rfl) (by first | decide | omega) (by first | assumption | rfl) ?_
  refine V_putI dX2_writeTo_18 fX2_66 (by first | assumption | rfl) (by first | decide | omega) ?_
  rw [hh1]
  refine V_aloadn0 dX2_writeTo_21 ?_
  refine V_getR dX2_writeTo_22 fX2_9 (by first | assumption | rfl) (by first | decide | omega) (by first | assumption | rfl) ?_
  refine V_iconst (v := nI 0) dX2_writeTo_25 (by decide) ?_
  refine V_aloadn1 dX2_writeTo_26 ?_
  refine V_getR dX2_writeTo_27 fX2_67 (by first | assumption | rfl) (by first | decide | omega) (by first | assumption | rfl) ?_
  refine V_iconst (v := nI 0) dX2_writeTo_30 (by decide) ?_
  refine V_aloadn0 dX2_writeTo_31 ?_
  refine V_getI dX2_writeTo_32 fX2_21 (Or.inl rfl) (by first | assumption | rfl) (by first | decide | omega) (by first | assumption | rfl) ?_
  first | refine U_copyI dX2_writeTo_35 (by with_reducible rfl) (by with_reducible rfl) (by with_reducible rfl) lX2_68 (by first | assumption | rfl) (by first | assumption | rfl) (by first | decide | omega) (by first | decide | omega) (by omega) (by omega) (Nat.le_of_ble_eq_true rfl) (by omega) ?_ | refine U_copyL dX2_writeTo_35 (by with_reducible rfl) (by with_reducible rfl) (by with_reducible rfl) lX2_68 (by first | assumption | rfl) (by first | assumption | rfl) (by first | decide | omega) (by first | decide | omega) (by omega) (by omega) (Nat.le_of_ble_eq_true rfl) (by omega) ?_
  rw [hh2]
  refine V_iconst (v := nI 0) dX2_writeTo_38 (by decide) ?_
  refine V_istoren2 dX2_writeTo_39 (by decide) rfl ?_
  refine V_aloadn0 dX2_writeTo_40 ?_
  refine V_getI dX2_writeTo_41 fX2_21 (Or.inl rfl) (by first | assumption | rfl) (by first | decide | omega) (by first | assumption | rfl) ?_
  refine V_iconst (v := nI 1) dX2_writeTo_44 (by decide) ?_
  first | refine U_isub dX2_writeTo_45 (by with_reducible rfl) (by with_reducible rfl) (by omega) ?_ | refine V_isub dX2_writeTo_45 ?_
  refine V_istoren3 dX2_writeTo_46 (by decide) rfl ?_
  have hl := loop P.length h2 (Nat.le_refl _) (by rw [f2.1 t (by omega)]; exact z.1) (by rw [f2.1 t (by omega)]; exact z.2.1) (by rw [f2.1 t (by omega)]; exact z.2.2) (fun r hr => by
    rw [← hh2, gI_sIa, if_pos rfl, pk_cpy_in (Nat.zero_le _) (by omega), f1.1 (g + 1) (by omega), show 0 + (r - 0) = r by omega]; exact a2 r (by omega)) (fun j hj => by
    rw [List.drop_eq_nil_of_le (Nat.le_refl _)] at hj; exact absurd hj (Nat.not_lt_zero _)) ((f1.wd (by omega) (by omega)).tr (f2.wd (by omega) (by omega)))
  rw [List.drop_eq_nil_of_le (Nat.le_refl _)] at hl
  exact hl
set_option maxRecDepth 100000 in
set_option maxHeartbeats 4000000 in
theorem c_turnsOfRow {P T : List (List Nat)} {r : Nat} (hG : GLay h g) (hI : GI h g P T) (hr : r < 6) (hQ : Q (some (.int (nI (numF (T.getD r []) 0 (P.getD r []).length)))) h) : V Γ mX2_turnsOfRow d 124 124 h 0 [some (.ref g), some (.int (nI r)), none, none] [] Q := by
  obtain ⟨g0, g1, g2, g3, gN, q2, q3, q4⟩ := hG
  obtain ⟨a0, a1, a2, a3, a4, a5, a6, a7, a8, a9⟩ := hI
  have h7 := a7 r
  have w1 := a2 r hr
  have loop : ∀ k i, (P.getD r []).length - i = k → i ≤ (P.getD r []).length → V Γ mX2_turnsOfRow d 124 124 h 4 [some (.ref g), some (.int (nI r)), some (.int (nI (numF (T.getD r []) 0 i))), some (.int (nI i))] [] Q := by
    intro k
    induction k using Nat.strongRecOn with
    | _ k ih =>
      intro i hk hi
      refine V_iloadn3 dX2_turnsOfRow_4 ?_
      refine V_aloadn0 dX2_turnsOfRow_5 ?_
      refine V_getR dX2_turnsOfRow_6 fX2_9 (by first | assumption | rfl) (by first | decide | omega) (by first | assumption | exact a4 _ _ hr (by omega) | rfl) ?_
      refine V_iloadn1 dX2_turnsOfRow_9 ?_
      refine U_iald dX2_turnsOfRow_10 (by with_reducible rfl) (by first | assumption | rfl) (by first | decide | omega) (by omega) (by first | assumption | exact a4 _ _ hr (by omega) | rfl) ?_
      first | refine U_icmp_ge (tgt := 37) dX2_turnsOfRow_11 (by decide) (by with_reducible rfl) (by with_reducible rfl) (by omega) (by omega) (fun c11 => ?_) (fun c11 => ?_) | refine V_icmp_ge (tgt := 37) dX2_turnsOfRow_11 (by decide) (fun c11 => ?_) (fun c11 => ?_)
      · skip
        have e : i = (P.getD r []).length := by omega
        rw [← e] at hQ
        refine V_iloadn2 dX2_turnsOfRow_37 ?_
        refine V_iret dX2_turnsOfRow_38 rfl rfl ?_
        exact hQ
      · skip
        refine V_iloadn2 dX2_turnsOfRow_14 ?_
        refine V_bipush (v := nI 10) dX2_turnsOfRow_15 (by decide) ?_
        first | refine U_imul dX2_turnsOfRow_17 (by with_reducible rfl) (by with_reducible rfl) ?_ | refine V_imul dX2_turnsOfRow_17 ?_
        refine V_aloadn0 dX2_turnsOfRow_18 ?_
        refine V_getR dX2_turnsOfRow_19 fX2_18 (by first | assumption | rfl) (by first | decide | omega) (by first | assumption | exact a4 _ _ hr (by omega) | rfl) ?_
        refine V_iloadn1 dX2_turnsOfRow_22 ?_
        refine V_bipush (v := nI 6) dX2_turnsOfRow_23 (by decide) ?_
        first | refine U_imul dX2_turnsOfRow_25 (by with_reducible rfl) (by with_reducible rfl) ?_ | refine V_imul dX2_turnsOfRow_25 ?_
        refine V_iloadn3 dX2_turnsOfRow_26 ?_
        first | refine U_iadd dX2_turnsOfRow_27 (by with_reducible rfl) (by with_reducible rfl) ?_ | refine V_iadd dX2_turnsOfRow_27 ?_
        refine U_iald dX2_turnsOfRow_28 (by with_reducible rfl) (by first | assumption | rfl) (by first | decide | omega) (by omega) (by first | assumption | exact a4 _ _ hr (by omega) | rfl) ?_
        first | refine U_iadd dX2_turnsOfRow_29 (by with_reducible rfl) (by with_reducible rfl) ?_ | refine V_iadd dX2_turnsOfRow_29 ?_
        refine V_istoren2 dX2_turnsOfRow_30 (by decide) rfl ?_
        refine V_iinc3 dX2_turnsOfRow_31 (by first | exact ginc1 _ | rfl) (by decide) rfl ?_
        refine V_goto (tgt := 4) dX2_turnsOfRow_34 (by decide) ?_
        have e0 : numF (T.getD r []) 0 (i + 1) = numF (T.getD r []) 0 i * 10 + (T.getD r []).getD i 0 := by rw [numF, Nat.zero_add]
        rw [← e0]
        exact ih _ (by omega) (i + 1) rfl (by omega)
  refine V_iconst (v := nI 0) dX2_turnsOfRow_0 (by decide) ?_
  refine V_istoren2 dX2_turnsOfRow_1 (by decide) rfl ?_
  refine V_iconst (v := nI 0) dX2_turnsOfRow_2 (by decide) ?_
  refine V_istoren3 dX2_turnsOfRow_3 (by decide) rfl ?_
  exact loop _ 0 rfl (by omega)
set_option maxRecDepth 100000 in
set_option maxHeartbeats 4000000 in
theorem c_hasRow {P T : List (List Nat)} {r : Nat} (hG : GLay h g) (hI : GI h g P T) (hr : r < 100) (hQ : Q (some (.int (gBo (decide (r < P.length))))) h) : V Γ mX2_hasRow d 124 124 h 0 [some (.ref g), some (.int (nI r))] [] Q := by
  obtain ⟨g0, g1, g2, g3, gN, q2, q3, q4⟩ := hG
  obtain ⟨a0, a1, a2, a3, a4, a5, a6, a7, a8, a9⟩ := hI
  refine V_iloadn1 dX2_hasRow_0 ?_
  refine V_aloadn0 dX2_hasRow_1 ?_
  refine V_getI dX2_hasRow_2 fX2_21 (Or.inl rfl) (by first | assumption | rfl) (by first | decide | omega) (by first | assumption | rfl) ?_
  first | refine U_icmp_ge (tgt := 12) dX2_hasRow_5 (by decide) (by with_reducible rfl) (by with_reducible rfl) (by omega) (by omega) (fun c5 => ?_) (fun c5 => ?_) | refine V_icmp_ge (tgt := 12) dX2_hasRow_5 (by decide) (fun c5 => ?_) (fun c5 => ?_)
  · skip
    rw [decide_eq_false (by omega), gBo_f] at hQ
    refine V_iconst (v := nI 0) dX2_hasRow_12 (by decide) ?_
    refine V_iret dX2_hasRow_13 rfl (by first | exact gBo_nar _ | rfl | decide) ?_
    exact hQ
  · skip
    rw [decide_eq_true (by omega), gBo_t] at hQ
    refine V_iconst (v := nI 1) dX2_hasRow_8 (by decide) ?_
    refine V_goto (tgt := 13) dX2_hasRow_9 (by decide) ?_
    refine V_iret dX2_hasRow_13 rfl (by first | exact gBo_nar _ | rfl | decide) ?_
    exact hQ
/-- whether a letter can stand at the end of row r -/
def tkB (P : List (List Nat)) (r x : Nat) : Bool :=
  decide (szL P < 6 ∧ r < 6) && ((decide ((P.getD r []).length = 0) || decide ((P.getD r []).getD ((P.getD r []).length - 1) 0 ≤ x)) && (decide (r = 0) || (decide ((P.getD r []).length < (P.getD (r - 1) []).length) && decide ((P.getD (r - 1) []).getD (P.getD r []).length 0 < x))))
set_option maxRecDepth 100000 in
set_option maxHeartbeats 4000000 in
theorem c_takes {P T : List (List Nat)} {r x : Nat} (hd : 1 ≤ d) (hG : GLay h g) (hI : GI h g P T) (hr : r < 100) (hx : x ≤ 9) (hQ : Q (some (.int (gBo (tkB P r x)))) h) : V Γ mX2_takes d 124 124 h 0 [some (.ref g), some (.int (nI r)), some (.int (nI x)), none] [] Q := by
  obtain ⟨g0, g1, g2, g3, gN, q2, q3, q4⟩ := id hG
  obtain ⟨a0, a1, a2, a3, a4, a5, a6, a7, a8, a9⟩ := id hI
  have h7 := a7 r
  have h7' := a7 (r - 1)
  have h8 := a8 r ((P.getD r []).length - 1)
  have h8' := a8 (r - 1) (P.getD r []).length
  have T1 : szL P < 6 → r < 6 → (P.getD r []).length = 0 ∨ (P.getD r []).getD ((P.getD r []).length - 1) 0 ≤ x → (decide (r = 0) || (decide ((P.getD r []).length < (P.getD (r - 1) []).length) && decide ((P.getD (r - 1) []).getD (P.getD r []).length 0 < x))) = tkB P r x := fun b1 b2 b3 => by
    unfold tkB
    rw [decide_eq_true (p := szL P < 6 ∧ r < 6) ⟨b1, b2⟩, Bool.true_and]
    rcases b3 with b3 | b3
    · rw [decide_eq_true (p := (P.getD r []).length = 0) b3, Bool.true_or, Bool.true_and]
    · rw [decide_eq_true (p := (P.getD r []).getD ((P.getD r []).length - 1) 0 ≤ x) b3, Bool.or_true, Bool.true_and]
  refine V_aloadn0 dX2_takes_0 ?_
  refine V_getI dX2_takes_1 fX2_25 (Or.inl rfl) (by first | assumption | rfl) (by first | decide | omega) (by first | assumption | exact a2 _ (by omega) | rfl) ?_
  refine V_bipush (v := nI 6) dX2_takes_4 (by decide) ?_
  first | refine U_icmp_ge (tgt := 15) dX2_takes_6 (by decide) (by with_reducible rfl) (by with_reducible rfl) (by omega) (by omega) (fun c6 => ?_) (fun c6 => ?_) | refine V_icmp_ge (tgt := 15) dX2_takes_6 (by decide) (fun c6 => ?_) (fun c6 => ?_)
  · skip
    have e : tkB P r x = false := by unfold tkB; rw [decide_eq_false (by omega), Bool.false_and]
    rw [e, gBo_f] at hQ
    refine V_iconst (v := nI 0) dX2_takes_15 (by decide) ?_
    refine V_iret dX2_takes_16 rfl (by first | exact gBo_nar _ | rfl | decide) ?_
    exact hQ
  · skip
    refine V_iloadn1 dX2_takes_9 ?_
    refine V_bipush (v := nI 6) dX2_takes_10 (by decide) ?_
    first | refine U_icmp_lt (tgt := 17) dX2_takes_12 (by decide) (by with_reducible rfl) (by with_reducible rfl) (by omega) (by omega) (fun c12 => ?_) (fun c12 => ?_) | refine V_icmp_lt (tgt := 17) dX2_takes_12 (by decide) (fun c12 => ?_) (fun c12 => ?_)
    · skip
      refine V_aloadn0 dX2_takes_17 ?_
      refine V_getR dX2_takes_18 fX2_9 (by first | assumption | rfl) (by first | decide | omega) (by first | assumption | exact a2 _ (by omega) | rfl) ?_
      refine V_iloadn1 dX2_takes_21 ?_
      refine U_iald dX2_takes_22 (by with_reducible rfl) (by first | assumption | rfl) (by first | decide | omega) (by omega) (by first | assumption | exact a2 _ (by omega) | rfl) ?_
      refine V_istoren3 dX2_takes_23 (by decide) rfl ?_
      refine V_iloadn3 dX2_takes_24 ?_
      first | refine U_if_le (tgt := 42) dX2_takes_25 (by decide) (by with_reducible rfl) (by omega) (fun c25 => ?_) (fun c25 => ?_) | refine V_if_le (tgt := 42) dX2_takes_25 (by decide) (fun c25 => ?_) (fun c25 => ?_)
      · skip
        rw [← T1 (by omega) (by omega) (Or.inl c25)] at hQ
        refine V_iloadn1 dX2_takes_42 ?_
        first | refine U_ifB_eq (tgt := 70) dX2_takes_43 (by decide) (by with_reducible rfl) (fun c43 => ?_) (fun c43 => ?_) | refine U_if_eq (tgt := 70) dX2_takes_43 (by decide) (by with_reducible rfl) (by omega) (fun c43 => ?_) (fun c43 => ?_) | refine V_if_eq (tgt := 70) dX2_takes_43 (by decide) (fun c43 => ?_) (fun c43 => ?_)
        · skip
          rw [decide_eq_true c43, Bool.true_or, gBo_t] at hQ
          refine V_iconst (v := nI 1) dX2_takes_70 (by decide) ?_
          refine V_goto (tgt := 75) dX2_takes_71 (by decide) ?_
          refine V_iret dX2_takes_75 rfl (by first | exact gBo_nar _ | rfl | decide) ?_
          exact hQ
        · skip
          rw [decide_eq_false c43, Bool.false_or] at hQ
          refine V_iloadn3 dX2_takes_46 ?_
          refine V_aloadn0 dX2_takes_47 ?_
          refine V_getR dX2_takes_48 fX2_9 (by first | assumption | rfl) (by first | decide | omega) (by first | assumption | exact a2 _ (by omega) | rfl) ?_
          refine V_iloadn1 dX2_takes_51 ?_
          refine V_iconst (v := nI 1) dX2_takes_52 (by decide) ?_
          first | refine U_isub dX2_takes_53 (by with_reducible rfl) (by with_reducible rfl) (by omega) ?_ | refine V_isub dX2_takes_53 ?_
          refine U_iald dX2_takes_54 (by with_reducible rfl) (by first | assumption | rfl) (by first | decide | omega) (by omega) (by first | assumption | exact a2 _ (by omega) | rfl) ?_
          first | refine U_icmp_ge (tgt := 74) dX2_takes_55 (by decide) (by with_reducible rfl) (by with_reducible rfl) (by omega) (by omega) (fun c55 => ?_) (fun c55 => ?_) | refine V_icmp_ge (tgt := 74) dX2_takes_55 (by decide) (fun c55 => ?_) (fun c55 => ?_)
          · skip
            rw [decide_eq_false (by omega), Bool.false_and, gBo_f] at hQ
            refine V_iconst (v := nI 0) dX2_takes_74 (by decide) ?_
            refine V_iret dX2_takes_75 rfl (by first | exact gBo_nar _ | rfl | decide) ?_
            exact hQ
          · skip
            rw [decide_eq_true (by omega), Bool.true_and] at hQ
            refine V_iloadn2 dX2_takes_58 ?_
            refine V_aloadn0 dX2_takes_59 ?_
            refine V_iloadn1 dX2_takes_60 ?_
            refine V_iconst (v := nI 1) dX2_takes_61 (by decide) ?_
            first | refine U_isub dX2_takes_62 (by with_reducible rfl) (by with_reducible rfl) (by omega) ?_ | refine V_isub dX2_takes_62 ?_
            refine V_iloadn3 dX2_takes_63 ?_
            refine V_callV2 (μ' := mX2_cellAt) dX2_takes_64 okX2_cellAt lX2_34 rfl (by first | assumption | rfl) (by first | decide | omega) (Nat.le_of_ble_eq_true rfl) (Nat.le_of_ble_eq_true rfl) (by omega) ?_
            refine c_cellAt hG hI (by omega) (by omega) ?_
            dsimp only [gPush]
            first | refine U_icmp_le (tgt := 74) dX2_takes_67 (by decide) (by with_reducible rfl) (by with_reducible rfl) (by omega) (by omega) (fun c67 => ?_) (fun c67 => ?_) | refine V_icmp_le (tgt := 74) dX2_takes_67 (by decide) (fun c67 => ?_) (fun c67 => ?_)
            · skip
              rw [decide_eq_false (by omega), gBo_f] at hQ
              refine V_iconst (v := nI 0) dX2_takes_74 (by decide) ?_
              refine V_iret dX2_takes_75 rfl (by first | exact gBo_nar _ | rfl | decide) ?_
              exact hQ
            · skip
              rw [decide_eq_true (by omega), gBo_t] at hQ
              refine V_iconst (v := nI 1) dX2_takes_70 (by decide) ?_
              refine V_goto (tgt := 75) dX2_takes_71 (by decide) ?_
              refine V_iret dX2_takes_75 rfl (by first | exact gBo_nar _ | rfl | decide) ?_
              exact hQ
      · skip
        refine V_iloadn2 dX2_takes_28 ?_
        refine V_aloadn0 dX2_takes_29 ?_
        refine V_iloadn1 dX2_takes_30 ?_
        refine V_iloadn3 dX2_takes_31 ?_
        refine V_iconst (v := nI 1) dX2_takes_32 (by decide) ?_
        first | refine U_isub dX2_takes_33 (by with_reducible rfl) (by with_reducible rfl) (by omega) ?_ | refine V_isub dX2_takes_33 ?_
        refine V_callV2 (μ' := mX2_cellAt) dX2_takes_34 okX2_cellAt lX2_34 rfl (by first | assumption | rfl) (by first | decide | omega) (Nat.le_of_ble_eq_true rfl) (Nat.le_of_ble_eq_true rfl) (by omega) ?_
        refine c_cellAt hG hI (by omega) (by omega) ?_
        dsimp only [gPush]
        first | refine U_icmp_ge (tgt := 42) dX2_takes_37 (by decide) (by with_reducible rfl) (by with_reducible rfl) (by omega) (by omega) (fun c37 => ?_) (fun c37 => ?_) | refine V_icmp_ge (tgt := 42) dX2_takes_37 (by decide) (fun c37 => ?_) (fun c37 => ?_)
        · skip
          rw [← T1 (by omega) (by omega) (Or.inr (by omega))] at hQ
          refine V_iloadn1 dX2_takes_42 ?_
          first | refine U_ifB_eq (tgt := 70) dX2_takes_43 (by decide) (by with_reducible rfl) (fun c43 => ?_) (fun c43 => ?_) | refine U_if_eq (tgt := 70) dX2_takes_43 (by decide) (by with_reducible rfl) (by omega) (fun c43 => ?_) (fun c43 => ?_) | refine V_if_eq (tgt := 70) dX2_takes_43 (by decide) (fun c43 => ?_) (fun c43 => ?_)
          · skip
            rw [decide_eq_true c43, Bool.true_or, gBo_t] at hQ
            refine V_iconst (v := nI 1) dX2_takes_70 (by decide) ?_
            refine V_goto (tgt := 75) dX2_takes_71 (by decide) ?_
            refine V_iret dX2_takes_75 rfl (by first | exact gBo_nar _ | rfl | decide) ?_
            exact hQ
          · skip
            rw [decide_eq_false c43, Bool.false_or] at hQ
            refine V_iloadn3 dX2_takes_46 ?_
            refine V_aloadn0 dX2_takes_47 ?_
            refine V_getR dX2_takes_48 fX2_9 (by first | assumption | rfl) (by first | decide | omega) (by first | assumption | exact a2 _ (by omega) | rfl) ?_
            refine V_iloadn1 dX2_takes_51 ?_
            refine V_iconst (v := nI 1) dX2_takes_52 (by decide) ?_
            first | refine U_isub dX2_takes_53 (by with_reducible rfl) (by with_reducible rfl) (by omega) ?_ | refine V_isub dX2_takes_53 ?_
            refine U_iald dX2_takes_54 (by with_reducible rfl) (by first | assumption | rfl) (by first | decide | omega) (by omega) (by first | assumption | exact a2 _ (by omega) | rfl) ?_
            first | refine U_icmp_ge (tgt := 74) dX2_takes_55 (by decide) (by with_reducible rfl) (by with_reducible rfl) (by omega) (by omega) (fun c55 => ?_) (fun c55 => ?_) | refine V_icmp_ge (tgt := 74) dX2_takes_55 (by decide) (fun c55 => ?_) (fun c55 => ?_)
            · skip
              rw [decide_eq_false (by omega), Bool.false_and, gBo_f] at hQ
              refine V_iconst (v := nI 0) dX2_takes_74 (by decide) ?_
              refine V_iret dX2_takes_75 rfl (by first | exact gBo_nar _ | rfl | decide) ?_
              exact hQ
            · skip
              rw [decide_eq_true (by omega), Bool.true_and] at hQ
              refine V_iloadn2 dX2_takes_58 ?_
              refine V_aloadn0 dX2_takes_59 ?_
              refine V_iloadn1 dX2_takes_60 ?_
              refine V_iconst (v := nI 1) dX2_takes_61 (by decide) ?_
              first | refine U_isub dX2_takes_62 (by with_reducible rfl) (by with_reducible rfl) (by omega) ?_ | refine V_isub dX2_takes_62 ?_
              refine V_iloadn3 dX2_takes_63 ?_
              refine V_callV2 (μ' := mX2_cellAt) dX2_takes_64 okX2_cellAt lX2_34 rfl (by first | assumption | rfl) (by first | decide | omega) (Nat.le_of_ble_eq_true rfl) (Nat.le_of_ble_eq_true rfl) (by omega) ?_
              refine c_cellAt hG hI (by omega) (by omega) ?_
              dsimp only [gPush]
              first | refine U_icmp_le (tgt := 74) dX2_takes_67 (by decide) (by with_reducible rfl) (by with_reducible rfl) (by omega) (by omega) (fun c67 => ?_) (fun c67 => ?_) | refine V_icmp_le (tgt := 74) dX2_takes_67 (by decide) (fun c67 => ?_) (fun c67 => ?_)
              · skip
                rw [decide_eq_false (by omega), gBo_f] at hQ
                refine V_iconst (v := nI 0) dX2_takes_74 (by decide) ?_
                refine V_iret dX2_takes_75 rfl (by first | exact gBo_nar _ | rfl | decide) ?_
                exact hQ
              · skip
                rw [decide_eq_true (by omega), gBo_t] at hQ
                refine V_iconst (v := nI 1) dX2_takes_70 (by decide) ?_
                refine V_goto (tgt := 75) dX2_takes_71 (by decide) ?_
                refine V_iret dX2_takes_75 rfl (by first | exact gBo_nar _ | rfl | decide) ?_
                exact hQ
        · skip
          have e : tkB P r x = false := by unfold tkB; rw [decide_eq_false (p := (P.getD r []).length = 0) (by omega), decide_eq_false (p := (P.getD r []).getD ((P.getD r []).length - 1) 0 ≤ x) (by omega), Bool.or_false, Bool.false_and, Bool.and_false]
          rw [e, gBo_f] at hQ
          refine V_iconst (v := nI 0) dX2_takes_40 (by decide) ?_
          refine V_iret dX2_takes_41 rfl (by first | exact gBo_nar _ | rfl | decide) ?_
          exact hQ
    · skip
      have e : tkB P r x = false := by unfold tkB; rw [decide_eq_false (by omega), Bool.false_and]
      rw [e, gBo_f] at hQ
      refine V_iconst (v := nI 0) dX2_takes_15 (by decide) ?_
      refine V_iret dX2_takes_16 rfl (by first | exact gBo_nar _ | rfl | decide) ?_
      exact hQ
end C16
