/-! ===== the class: what raises and lowers ===== -/
/-- from the left: open ones, low ones, behind the last low one -/
def lkF (w : List Nat) (i : Nat) : Nat → Nat × Nat × Nat
  | 0 => (0, 0, 0)
  | p + 1 => if w.getD p 0 = i + 1 then ((lkF w i p).1 + 1, (lkF w i p).2.1, (lkF w i p).2.2) else if w.getD p 0 = i ∧ 0 < (lkF w i p).1 then ((lkF w i p).1 - 1, (lkF w i p).2.1, (lkF w i p).2.2) else if w.getD p 0 = i then ((lkF w i p).1, (lkF w i p).2.1 + 1, p + 1) else lkF w i p
/-- from the right: open ones, high ones, behind the first high one -/
def rkF (w : List Nat) (i n : Nat) : Nat → Nat × Nat × Nat
  | 0 => (0, 0, 0)
  | q + 1 => if w.getD (n - 1 - q) 0 = i then ((rkF w i n q).1 + 1, (rkF w i n q).2.1, (rkF w i n q).2.2) else if w.getD (n - 1 - q) 0 = i + 1 ∧ 0 < (rkF w i n q).1 then ((rkF w i n q).1 - 1, (rkF w i n q).2.1, (rkF w i n q).2.2) else if w.getD (n - 1 - q) 0 = i + 1 then ((rkF w i n q).1, (rkF w i n q).2.1 + 1, n - 1 - q + 1) else rkF w i n q
def lowC (w : List Nat) (i : Nat) : Nat := (lkF w i w.length).2.1
def llC (w : List Nat) (i : Nat) : Nat := (lkF w i w.length).2.2
def highC (w : List Nat) (i : Nat) : Nat := (rkF w i w.length w.length).2.1
def fhC (w : List Nat) (i : Nat) : Nat := (rkF w i w.length w.length).2.2
theorem lkF_ok (w : List Nat) (i : Nat) : ∀ p, (lkF w i p).1 ≤ p ∧ (lkF w i p).2.1 ≤ p ∧ (lkF w i p).2.2 ≤ p ∧ ((lkF w i p).2.1 = 0 ↔ (lkF w i p).2.2 = 0)
  | 0 => by simp [lkF]
  | p + 1 => by
    have h := lkF_ok w i p
    unfold lkF
    split
    · simp only; omega
    · split
      · simp only; omega
      · split
        · simp only; omega
        · omega
theorem rkF_ok (w : List Nat) (i n : Nat) : ∀ q, q ≤ n → (rkF w i n q).1 ≤ q ∧ (rkF w i n q).2.1 ≤ q ∧ (rkF w i n q).2.2 ≤ n ∧ ((rkF w i n q).2.1 = 0 ↔ (rkF w i n q).2.2 = 0)
  | 0, _ => by simp [rkF]
  | q + 1, hq => by
    have h := rkF_ok w i n q (by omega)
    unfold rkF
    split
    · simp only; omega
    · split
      · simp only; omega
      · split
        · simp only; omega
        · omega
section C17
variable {Γ : gM} {d : Nat} {h : gH} {Q : Option Value → gH → Prop} {t : Nat}
set_option maxRecDepth 100000 in
set_option maxHeartbeats 4000000 in
theorem c_lookLeft {kd i : Nat} {w L : List Nat} (hT : TL h t) (hI : TI h t kd w L) (hi : i ≤ 9) (ht : t + 3 ≤ 46 ∨ 47 ≤ t) (hQ : ∀ h', gI h' 46 0 = nI (lowC w i) → gI h' 46 2 = nI (llC w i) - nI 1 → gI h' 46 1 = gI h 46 1 → gI h' 46 3 = gI h 46 3 → Fr1 h h' 46 47 → Q none h') : V Γ mX3_lookFromLeft d 124 124 h 0 [some (.ref 46), some (.ref t), some (.int (nI i)), none, none, none] [] Q := by
  obtain ⟨l0, l1, l2, lt, r2, r4⟩ := id hT
  have loop : ∀ k p h1 o l x a5, w.length - p = k → p ≤ w.length → lkF w i p = (o, l, x) → gI h1 46 0 = nI l → gI h1 46 2 = nI x - nI 1 → gI h1 46 1 = gI h 46 1 → gI h1 46 3 = gI h 46 3 → Fr1 h h1 46 47 → V Γ mX3_lookFromLeft d 124 124 h1 15 [some (.ref 46), some (.ref t), some (.int (nI i)), some (.int (nI o)), some (.int (nI p)), a5] [] Q := by
    intro k
    induction k using Nat.strongRecOn with
    | _ k ih =>
      intro p h1 o l x a5 hk hp hS y0 y2 y1 y3 f2
      obtain ⟨i0, i1, i3, iw, iL, iwl, iLl, iwb, iLb, ik⟩ := TI_fr hI f2 (by omega)
      have r2' : gR h1 t 2 = some (t + 1) := by rw [f2.2.2]; exact r2
      have hb := iwb p
      have ok := lkF_ok w i p
      rw [hS] at ok
      simp only at ok
      refine V_iloadw4 dX3_lookFromLeft_15 ?_
      refine V_aloadn1 dX3_lookFromLeft_17 ?_
      refine V_getI dX3_lookFromLeft_18 fX3_39 (Or.inl rfl) (by first | assumption | rfl) (by first | decide | omega) (by first | assumption | exact iw _ (by omega) | rfl) ?_
      first | refine U_icmp_ge (tgt := 91) dX3_lookFromLeft_21 (by decide) (by with_reducible rfl) (by with_reducible rfl) (by omega) (by omega) (fun c21 => ?_) (fun c21 => ?_) | refine V_icmp_ge (tgt := 91) dX3_lookFromLeft_21 (by decide) (fun c21 => ?_) (fun c21 => ?_)
      · skip
        have e : p = w.length := by omega
        subst e
        refine V_ret dX3_lookFromLeft_91 rfl ?_
        refine hQ h1 ?_ ?_ y1 y3 f2
        · unfold lowC; rw [hS]; exact y0
        · unfold llC; rw [hS]; exact y2
      · skip
        refine V_aloadn1 dX3_lookFromLeft_24 ?_
        refine V_getR dX3_lookFromLeft_25 fX3_42 (by first | assumption | rfl) (by first | decide | omega) (by first | assumption | exact iw _ (by omega) | rfl) ?_
        refine V_iloadw4 dX3_lookFromLeft_28 ?_
        refine U_iald dX3_lookFromLeft_30 (by with_reducible rfl) (by first | assumption | rfl) (by first | decide | omega) (by omega) (by first | assumption | exact iw _ (by omega) | rfl) ?_
        refine V_istorew5 dX3_lookFromLeft_31 (by decide) rfl ?_
        refine V_iloadw5 dX3_lookFromLeft_33 ?_
        refine V_iloadn2 dX3_lookFromLeft_35 ?_
        refine V_iconst (v := nI 1) dX3_lookFromLeft_36 (by decide) ?_
        first | refine U_iadd dX3_lookFromLeft_37 (by with_reducible rfl) (by with_reducible rfl) ?_ | refine V_iadd dX3_lookFromLeft_37 ?_
        first | refine U_icmp_ne (tgt := 47) dX3_lookFromLeft_38 (by decide) (by with_reducible rfl) (by with_reducible rfl) (by omega) (by omega) (fun c38 => ?_) (fun c38 => ?_) | refine V_icmp_ne (tgt := 47) dX3_lookFromLeft_38 (by decide) (fun c38 => ?_) (fun c38 => ?_)
        · skip
          refine V_iloadw5 dX3_lookFromLeft_47 ?_
          refine V_iloadn2 dX3_lookFromLeft_49 ?_
          first | refine U_icmp_ne (tgt := 63) dX3_lookFromLeft_50 (by decide) (by with_reducible rfl) (by with_reducible rfl) (by omega) (by omega) (fun c50 => ?_) (fun c50 => ?_) | refine V_icmp_ne (tgt := 63) dX3_lookFromLeft_50 (by decide) (fun c50 => ?_) (fun c50 => ?_)
          · skip
            have c54' : ¬ (w.getD p 0 = i ∧ 0 < o) := fun q => c50 q.1
            refine V_iloadw5 dX3_lookFromLeft_63 ?_
            refine V_iloadn2 dX3_lookFromLeft_65 ?_
            first | refine U_icmp_ne (tgt := 85) dX3_lookFromLeft_66 (by decide) (by with_reducible rfl) (by with_reducible rfl) (by omega) (by omega) (fun c66 => ?_) (fun c66 => ?_) | refine V_icmp_ne (tgt := 85) dX3_lookFromLeft_66 (by decide) (fun c66 => ?_) (fun c66 => ?_)
            · skip
              have hs : lkF w i (p + 1) = (o, l, x) := by rw [lkF, if_neg c38, if_neg (by rw [hS]; exact c54'), if_neg c66, hS]
              refine V_iinc4 dX3_lookFromLeft_85 (by first | exact ginc1 _ | rfl) (by decide) rfl ?_
              refine V_goto (tgt := 15) dX3_lookFromLeft_88 (by decide) ?_
              first | exact ih (w.length - (p + 1)) (by omega) (p + 1) _ _ _ _ _ rfl (by omega) hs y0 y2 y1 y3 f2 | exact ih (w.length - (p + 1)) (by omega) (p + 1) _ _ _ _ _ rfl (by omega) hs (by simp [gI_sI]) (by rw [gdecP]; simp [gI_sI]) (by rw [← y1]; simp [gI_sI]) (by rw [← y3]; simp [gI_sI]) (fr_sI (fr_sI f2 (by omega) (by omega)) (by omega) (by omega))
            · skip
              have hs : lkF w i (p + 1) = (o, l + 1, p + 1) := by rw [lkF, if_neg c38, if_neg (by rw [hS]; exact c54'), if_pos c66, hS]
              refine V_aloadn0 dX3_lookFromLeft_69 ?_
              first | refine V_dupa dX3_lookFromLeft_70 ?_ | refine V_dupi dX3_lookFromLeft_70 ?_
              refine V_getI dX3_lookFromLeft_71 fX3_32 (Or.inl rfl) (by first | assumption | rfl) (by first | decide | omega) (by first | assumption | exact iw _ (by omega) | rfl) ?_
              refine V_iconst (v := nI 1) dX3_lookFromLeft_74 (by decide) ?_
              first | refine U_iadd dX3_lookFromLeft_75 (by with_reducible rfl) (by with_reducible rfl) ?_ | refine V_iadd dX3_lookFromLeft_75 ?_
              refine V_putI dX3_lookFromLeft_76 fX3_32 (by first | assumption | rfl) (by first | decide | omega) ?_
              refine V_aloadn0 dX3_lookFromLeft_79 ?_
              refine V_iloadw4 dX3_lookFromLeft_80 ?_
              refine V_putI dX3_lookFromLeft_82 fX3_36 (by first | assumption | rfl) (by first | decide | omega) ?_
              refine V_iinc4 dX3_lookFromLeft_85 (by first | exact ginc1 _ | rfl) (by decide) rfl ?_
              refine V_goto (tgt := 15) dX3_lookFromLeft_88 (by decide) ?_
              first | exact ih (w.length - (p + 1)) (by omega) (p + 1) _ _ _ _ _ rfl (by omega) hs y0 y2 y1 y3 f2 | exact ih (w.length - (p + 1)) (by omega) (p + 1) _ _ _ _ _ rfl (by omega) hs (by simp [gI_sI]) (by rw [gdecP]; simp [gI_sI]) (by rw [← y1]; simp [gI_sI]) (by rw [← y3]; simp [gI_sI]) (fr_sI (fr_sI f2 (by omega) (by omega)) (by omega) (by omega))
          · skip
            refine V_iloadn3 dX3_lookFromLeft_53 ?_
            first | refine U_if_le (tgt := 63) dX3_lookFromLeft_54 (by decide) (by with_reducible rfl) (by omega) (fun c54 => ?_) (fun c54 => ?_) | refine V_if_le (tgt := 63) dX3_lookFromLeft_54 (by decide) (fun c54 => ?_) (fun c54 => ?_)
            · skip
              have c54' : ¬ (w.getD p 0 = i ∧ 0 < o) := fun q => by omega
              refine V_iloadw5 dX3_lookFromLeft_63 ?_
              refine V_iloadn2 dX3_lookFromLeft_65 ?_
              first | refine U_icmp_ne (tgt := 85) dX3_lookFromLeft_66 (by decide) (by with_reducible rfl) (by with_reducible rfl) (by omega) (by omega) (fun c66 => ?_) (fun c66 => ?_) | refine V_icmp_ne (tgt := 85) dX3_lookFromLeft_66 (by decide) (fun c66 => ?_) (fun c66 => ?_)
              · skip
                have hs : lkF w i (p + 1) = (o, l, x) := by rw [lkF, if_neg c38, if_neg (by rw [hS]; exact c54'), if_neg c66, hS]
                refine V_iinc4 dX3_lookFromLeft_85 (by first | exact ginc1 _ | rfl) (by decide) rfl ?_
                refine V_goto (tgt := 15) dX3_lookFromLeft_88 (by decide) ?_
                first | exact ih (w.length - (p + 1)) (by omega) (p + 1) _ _ _ _ _ rfl (by omega) hs y0 y2 y1 y3 f2 | exact ih (w.length - (p + 1)) (by omega) (p + 1) _ _ _ _ _ rfl (by omega) hs (by simp [gI_sI]) (by rw [gdecP]; simp [gI_sI]) (by rw [← y1]; simp [gI_sI]) (by rw [← y3]; simp [gI_sI]) (fr_sI (fr_sI f2 (by omega) (by omega)) (by omega) (by omega))
              · skip
                have hs : lkF w i (p + 1) = (o, l + 1, p + 1) := by rw [lkF, if_neg c38, if_neg (by rw [hS]; exact c54'), if_pos c66, hS]
                refine V_aloadn0 dX3_lookFromLeft_69 ?_
                first | refine V_dupa dX3_lookFromLeft_70 ?_ | refine V_dupi dX3_lookFromLeft_70 ?_
                refine V_getI dX3_lookFromLeft_71 fX3_32 (Or.inl rfl) (by first | assumption | rfl) (by first | decide | omega) (by first | assumption | exact iw _ (by omega) | rfl) ?_
                refine V_iconst (v := nI 1) dX3_lookFromLeft_74 (by decide) ?_
                first | refine U_iadd dX3_lookFromLeft_75 (by with_reducible rfl) (by with_reducible rfl) ?_ | refine V_iadd dX3_lookFromLeft_75 ?_
                refine V_putI dX3_lookFromLeft_76 fX3_32 (by first | assumption | rfl) (by first | decide | omega) ?_
                refine V_aloadn0 dX3_lookFromLeft_79 ?_
                refine V_iloadw4 dX3_lookFromLeft_80 ?_
                refine V_putI dX3_lookFromLeft_82 fX3_36 (by first | assumption | rfl) (by first | decide | omega) ?_
                refine V_iinc4 dX3_lookFromLeft_85 (by first | exact ginc1 _ | rfl) (by decide) rfl ?_
                refine V_goto (tgt := 15) dX3_lookFromLeft_88 (by decide) ?_
                first | exact ih (w.length - (p + 1)) (by omega) (p + 1) _ _ _ _ _ rfl (by omega) hs y0 y2 y1 y3 f2 | exact ih (w.length - (p + 1)) (by omega) (p + 1) _ _ _ _ _ rfl (by omega) hs (by simp [gI_sI]) (by rw [gdecP]; simp [gI_sI]) (by rw [← y1]; simp [gI_sI]) (by rw [← y3]; simp [gI_sI]) (fr_sI (fr_sI f2 (by omega) (by omega)) (by omega) (by omega))
            · skip
              have hs : lkF w i (p + 1) = (o - 1, l, x) := by rw [lkF, if_neg c38, if_pos ⟨c50, by rw [hS]; simp only; omega⟩, hS]
              obtain ⟨o', rfl⟩ : ∃ o', o = o' + 1 := ⟨o - 1, by omega⟩
              refine V_iinc3 dX3_lookFromLeft_57 (by exact gdec1 _) (by decide) rfl ?_
              refine V_goto (tgt := 85) dX3_lookFromLeft_60 (by decide) ?_
              refine V_iinc4 dX3_lookFromLeft_85 (by first | exact ginc1 _ | rfl) (by decide) rfl ?_
              refine V_goto (tgt := 15) dX3_lookFromLeft_88 (by decide) ?_
              first | exact ih (w.length - (p + 1)) (by omega) (p + 1) _ _ _ _ _ rfl (by omega) hs y0 y2 y1 y3 f2 | exact ih (w.length - (p + 1)) (by omega) (p + 1) _ _ _ _ _ rfl (by omega) hs (by simp [gI_sI]) (by rw [gdecP]; simp [gI_sI]) (by rw [← y1]; simp [gI_sI]) (by rw [← y3]; simp [gI_sI]) (fr_sI (fr_sI f2 (by omega) (by omega)) (by omega) (by omega))
        · skip
          have hs : lkF w i (p + 1) = (o + 1, l, x) := by rw [lkF, if_pos c38, hS]
          refine V_iinc3 dX3_lookFromLeft_41 (by first | exact ginc1 _ | rfl) (by decide) rfl ?_
          refine V_goto (tgt := 85) dX3_lookFromLeft_44 (by decide) ?_
          refine V_iinc4 dX3_lookFromLeft_85 (by first | exact ginc1 _ | rfl) (by decide) rfl ?_
          refine V_goto (tgt := 15) dX3_lookFromLeft_88 (by decide) ?_
          first | exact ih (w.length - (p + 1)) (by omega) (p + 1) _ _ _ _ _ rfl (by omega) hs y0 y2 y1 y3 f2 | exact ih (w.length - (p + 1)) (by omega) (p + 1) _ _ _ _ _ rfl (by omega) hs (by simp [gI_sI]) (by rw [gdecP]; simp [gI_sI]) (by rw [← y1]; simp [gI_sI]) (by rw [← y3]; simp [gI_sI]) (fr_sI (fr_sI f2 (by omega) (by omega)) (by omega) (by omega))
  refine V_aloadn0 dX3_lookFromLeft_0 ?_
  refine V_iconst (v := nI 0) dX3_lookFromLeft_1 (by decide) ?_
  refine V_putI dX3_lookFromLeft_2 fX3_32 (by first | assumption | rfl) (by first | decide | omega) ?_
  refine V_aloadn0 dX3_lookFromLeft_5 ?_
  refine V_iconst (v := -1) dX3_lookFromLeft_6 (by decide) ?_
  refine V_putI dX3_lookFromLeft_7 fX3_36 (by first | assumption | rfl) (by first | decide | omega) ?_
  refine V_iconst (v := nI 0) dX3_lookFromLeft_10 (by decide) ?_
  refine V_istoren3 dX3_lookFromLeft_11 (by decide) rfl ?_
  refine V_iconst (v := nI 0) dX3_lookFromLeft_12 (by decide) ?_
  refine V_istorew4 dX3_lookFromLeft_13 (by decide) rfl ?_
  exact loop _ 0 _ 0 0 0 _ rfl (by omega) rfl (by simp [gI_sI]) (by rw [gI_sI, if_pos ⟨rfl, rfl⟩]; decide) (by simp [gI_sI]) (by simp [gI_sI]) (fr_sI (fr_sI Fr1.rf (by omega) (by omega)) (by omega) (by omega))
set_option maxRecDepth 100000 in
set_option maxHeartbeats 4000000 in
theorem c_lookRight {kd i : Nat} {w L : List Nat} (hT : TL h t) (hI : TI h t kd w L) (hi : i ≤ 9) (ht : t + 3 ≤ 46 ∨ 47 ≤ t) (hQ : ∀ h', gI h' 46 1 = nI (highC w i) → gI h' 46 3 = nI (fhC w i) - nI 1 → gI h' 46 0 = gI h 46 0 → gI h' 46 2 = gI h 46 2 → Fr1 h h' 46 47 → Q none h') : V Γ mX3_lookFromRight d 124 124 h 0 [some (.ref 46), some (.ref t), some (.int (nI i)), none, none, none] [] Q := by
  obtain ⟨l0, l1, l2, lt, r2, r4⟩ := id hT
  have loop : ∀ m q h1 o l x a5, q + m = w.length → rkF w i w.length q = (o, l, x) → gI h1 46 1 = nI l → gI h1 46 3 = nI x - nI 1 → gI h1 46 0 = gI h 46 0 → gI h1 46 2 = gI h 46 2 → Fr1 h h1 46 47 → V Γ mX3_lookFromRight d 124 124 h1 20 [some (.ref 46), some (.ref t), some (.int (nI i)), some (.int (nI o)), some (.int (nI m - nI 1)), a5] [] Q := by
    intro m
    induction m with
    | zero =>
      intro q h1 o l x a5 hq hS y0 y2 y1 y3 f2
      rw [Nat.add_zero] at hq
      refine V_iloadw4 dX3_lookFromRight_20 ?_
      refine V_if_lt (tgt := 94) dX3_lookFromRight_22 (by decide) (fun c22 => ?_) (fun c22 => ?_)
      · skip
        refine V_ret dX3_lookFromRight_94 rfl ?_
        refine hQ h1 ?_ ?_ y1 y3 f2
        · unfold highC; rw [hq] at hS; rw [hS]; exact y0
        · unfold fhC; rw [hq] at hS; rw [hS]; exact y2
      · skip
        exact absurd ((gdec_lt (by omega)).mpr rfl) c22
    | succ m ih =>
      intro q h1 o l x a5 hq hS y0 y2 y1 y3 f2
      obtain ⟨i0, i1, i3, iw, iL, iwl, iLl, iwb, iLb, ik⟩ := TI_fr hI f2 (by omega)
      have r2' : gR h1 t 2 = some (t + 1) := by rw [f2.2.2]; exact r2
      have hb := iwb m
      have ok := rkF_ok w i w.length q (by omega)
      rw [hS] at ok
      simp only at ok
      have hpos : w.length - 1 - q = m := by omega
      rw [gdecP]
      refine V_iloadw4 dX3_lookFromRight_20 ?_
      refine V_if_lt (tgt := 94) dX3_lookFromRight_22 (by decide) (fun c22 => ?_) (fun c22 => ?_)
      · skip
        exact absurd c22 (nI_pos (by omega))
      · skip
        refine V_aloadn1 dX3_lookFromRight_25 ?_
        refine V_getR dX3_lookFromRight_26 fX3_42 (by first | assumption | rfl) (by first | decide | omega) (by first | assumption | exact iw _ (by omega) | rfl) ?_
        refine V_iloadw4 dX3_lookFromRight_29 ?_
        refine U_iald dX3_lookFromRight_31 (by with_reducible rfl) (by first | assumption | rfl) (by first | decide | omega) (by omega) (by first | assumption | exact iw _ (by omega) | rfl) ?_
        refine V_istorew5 dX3_lookFromRight_32 (by decide) rfl ?_
        refine V_iloadw5 dX3_lookFromRight_34 ?_
        refine V_iloadn2 dX3_lookFromRight_36 ?_
        first | refine U_icmp_ne (tgt := 46) dX3_lookFromRight_37 (by decide) (by with_reducible rfl) (by with_reducible rfl) (by omega) (by omega) (fun c37 => ?_) (fun c37 => ?_) | refine V_icmp_ne (tgt := 46) dX3_lookFromRight_37 (by decide) (fun c37 => ?_) (fun c37 => ?_)
        · skip
          refine V_iloadw5 dX3_lookFromRight_46 ?_
          refine V_iloadn2 dX3_lookFromRight_48 ?_
          refine V_iconst (v := nI 1) dX3_lookFromRight_49 (by decide) ?_
          first | refine U_iadd dX3_lookFromRight_50 (by with_reducible rfl) (by with_reducible rfl) ?_ | refine V_iadd dX3_lookFromRight_50 ?_
          first | refine U_icmp_ne (tgt := 64) dX3_lookFromRight_51 (by decide) (by with_reducible rfl) (by with_reducible rfl) (by omega) (by omega) (fun c51 => ?_) (fun c51 => ?_) | refine V_icmp_ne (tgt := 64) dX3_lookFromRight_51 (by decide) (fun c51 => ?_) (fun c51 => ?_)
          · skip
            have c54' : ¬ (w.getD m 0 = i + 1 ∧ 0 < o) := fun q => c51 q.1
            refine V_iloadw5 dX3_lookFromRight_64 ?_
            refine V_iloadn2 dX3_lookFromRight_66 ?_
            refine V_iconst (v := nI 1) dX3_lookFromRight_67 (by decide) ?_
            first | refine U_iadd dX3_lookFromRight_68 (by with_reducible rfl) (by with_reducible rfl) ?_ | refine V_iadd dX3_lookFromRight_68 ?_
            first | refine U_icmp_ne (tgt := 88) dX3_lookFromRight_69 (by decide) (by with_reducible rfl) (by with_reducible rfl) (by omega) (by omega) (fun c69 => ?_) (fun c69 => ?_) | refine V_icmp_ne (tgt := 88) dX3_lookFromRight_69 (by decide) (fun c69 => ?_) (fun c69 => ?_)
            · skip
              have hs : rkF w i w.length (q + 1) = (o, l, x) := by rw [rkF, hpos, if_neg c37, if_neg (by rw [hS]; exact c54'), if_neg c69, hS]
              refine V_iinc4 dX3_lookFromRight_88 (by first | exact gdecS _ | rfl) (by decide) rfl ?_
              refine V_goto (tgt := 20) dX3_lookFromRight_91 (by decide) ?_
              first | exact ih (q + 1) _ _ _ _ _ (by omega) hs y0 y2 y1 y3 f2 | exact ih (q + 1) _ _ _ _ _ (by omega) hs (by simp [gI_sI]) (by rw [gdecP]; simp [gI_sI]) (by rw [← y1]; simp [gI_sI]) (by rw [← y3]; simp [gI_sI]) (fr_sI (fr_sI f2 (by omega) (by omega)) (by omega) (by omega))
            · skip
              have hs : rkF w i w.length (q + 1) = (o, l + 1, m + 1) := by rw [rkF, hpos, if_neg c37, if_neg (by rw [hS]; exact c54'), if_pos c69, hS]
              refine V_aloadn0 dX3_lookFromRight_72 ?_
              first | refine V_dupa dX3_lookFromRight_73 ?_ | refine V_dupi dX3_lookFromRight_73 ?_
              refine V_getI dX3_lookFromRight_74 fX3_46 (Or.inl rfl) (by first | assumption | rfl) (by first | decide | omega) (by first | assumption | exact iw _ (by omega) | rfl) ?_
              refine V_iconst (v := nI 1) dX3_lookFromRight_77 (by decide) ?_
              first | refine U_iadd dX3_lookFromRight_78 (by with_reducible rfl) (by with_reducible rfl) ?_ | refine V_iadd dX3_lookFromRight_78 ?_
              refine V_putI dX3_lookFromRight_79 fX3_46 (by first | assumption | rfl) (by first | decide | omega) ?_
              refine V_aloadn0 dX3_lookFromRight_82 ?_
              refine V_iloadw4 dX3_lookFromRight_83 ?_
              refine V_putI dX3_lookFromRight_85 fX3_49 (by first | assumption | rfl) (by first | decide | omega) ?_
              refine V_iinc4 dX3_lookFromRight_88 (by first | exact gdecS _ | rfl) (by decide) rfl ?_
              refine V_goto (tgt := 20) dX3_lookFromRight_91 (by decide) ?_
              first | exact ih (q + 1) _ _ _ _ _ (by omega) hs y0 y2 y1 y3 f2 | exact ih (q + 1) _ _ _ _ _ (by omega) hs (by simp [gI_sI]) (by rw [gdecP]; simp [gI_sI]) (by rw [← y1]; simp [gI_sI]) (by rw [← y3]; simp [gI_sI]) (fr_sI (fr_sI f2 (by omega) (by omega)) (by omega) (by omega))
          · skip
            refine V_iloadn3 dX3_lookFromRight_54 ?_
            first | refine U_if_le (tgt := 64) dX3_lookFromRight_55 (by decide) (by with_reducible rfl) (by omega) (fun c55 => ?_) (fun c55 => ?_) | refine V_if_le (tgt := 64) dX3_lookFromRight_55 (by decide) (fun c55 => ?_) (fun c55 => ?_)
            · skip
              have c54' : ¬ (w.getD m 0 = i + 1 ∧ 0 < o) := fun q => by omega
              refine V_iloadw5 dX3_lookFromRight_64 ?_
              refine V_iloadn2 dX3_lookFromRight_66 ?_
              refine V_iconst (v := nI 1) dX3_lookFromRight_67 (by decide) ?_
              first | refine U_iadd dX3_lookFromRight_68 (by with_reducible rfl) (by with_reducible rfl) ?_ | refine V_iadd dX3_lookFromRight_68 ?_
              first | refine U_icmp_ne (tgt := 88) dX3_lookFromRight_69 (by decide) (by with_reducible rfl) (by with_reducible rfl) (by omega) (by omega) (fun c69 => ?_) (fun c69 => ?_) | refine V_icmp_ne (tgt := 88) dX3_lookFromRight_69 (by decide) (fun c69 => ?_) (fun c69 => ?_)
              · skip
                have hs : rkF w i w.length (q + 1) = (o, l, x) := by rw [rkF, hpos, if_neg c37, if_neg (by rw [hS]; exact c54'), if_neg c69, hS]
                refine V_iinc4 dX3_lookFromRight_88 (by first | exact gdecS _ | rfl) (by decide) rfl ?_
                refine V_goto (tgt := 20) dX3_lookFromRight_91 (by decide) ?_
                first | exact ih (q + 1) _ _ _ _ _ (by omega) hs y0 y2 y1 y3 f2 | exact ih (q + 1) _ _ _ _ _ (by omega) hs (by simp [gI_sI]) (by rw [gdecP]; simp [gI_sI]) (by rw [← y1]; simp [gI_sI]) (by rw [← y3]; simp [gI_sI]) (fr_sI (fr_sI f2 (by omega) (by omega)) (by omega) (by omega))
              · skip
                have hs : rkF w i w.length (q + 1) = (o, l + 1, m + 1) := by rw [rkF, hpos, if_neg c37, if_neg (by rw [hS]; exact c54'), if_pos c69, hS]
                refine V_aloadn0 dX3_lookFromRight_72 ?_
                first | refine V_dupa dX3_lookFromRight_73 ?_ | refine V_dupi dX3_lookFromRight_73 ?_
                refine V_getI dX3_lookFromRight_74 fX3_46 (Or.inl rfl) (by first | assumption | rfl) (by first | decide | omega) (by first | assumption | exact iw _ (by omega) | rfl) ?_
                refine V_iconst (v := nI 1) dX3_lookFromRight_77 (by decide) ?_
                first | refine U_iadd dX3_lookFromRight_78 (by with_reducible rfl) (by with_reducible rfl) ?_ | refine V_iadd dX3_lookFromRight_78 ?_
                refine V_putI dX3_lookFromRight_79 fX3_46 (by first | assumption | rfl) (by first | decide | omega) ?_
                refine V_aloadn0 dX3_lookFromRight_82 ?_
                refine V_iloadw4 dX3_lookFromRight_83 ?_
                refine V_putI dX3_lookFromRight_85 fX3_49 (by first | assumption | rfl) (by first | decide | omega) ?_
                refine V_iinc4 dX3_lookFromRight_88 (by first | exact gdecS _ | rfl) (by decide) rfl ?_
                refine V_goto (tgt := 20) dX3_lookFromRight_91 (by decide) ?_
                first | exact ih (q + 1) _ _ _ _ _ (by omega) hs y0 y2 y1 y3 f2 | exact ih (q + 1) _ _ _ _ _ (by omega) hs (by simp [gI_sI]) (by rw [gdecP]; simp [gI_sI]) (by rw [← y1]; simp [gI_sI]) (by rw [← y3]; simp [gI_sI]) (fr_sI (fr_sI f2 (by omega) (by omega)) (by omega) (by omega))
            · skip
              have hs : rkF w i w.length (q + 1) = (o - 1, l, x) := by rw [rkF, hpos, if_neg c37, if_pos ⟨c51, by rw [hS]; simp only; omega⟩, hS]
              obtain ⟨o', rfl⟩ : ∃ o', o = o' + 1 := ⟨o - 1, by omega⟩
              refine V_iinc3 dX3_lookFromRight_58 (by exact gdec1 _) (by decide) rfl ?_
              refine V_goto (tgt := 88) dX3_lookFromRight_61 (by decide) ?_
              refine V_iinc4 dX3_lookFromRight_88 (by first | exact gdecS _ | rfl) (by decide) rfl ?_
              refine V_goto (tgt := 20) dX3_lookFromRight_91 (by decide) ?_
              first | exact ih (q + 1) _ _ _ _ _ (by omega) hs y0 y2 y1 y3 f2 | exact ih (q + 1) _ _ _ _ _ (by omega) hs (by simp [gI_sI]) (by rw [gdecP]; simp [gI_sI]) (by rw [← y1]; simp [gI_sI]) (by rw [← y3]; simp [gI_sI]) (fr_sI (fr_sI f2 (by omega) (by omega)) (by omega) (by omega))
        · skip
          have hs : rkF w i w.length (q + 1) = (o + 1, l, x) := by rw [rkF, hpos, if_pos c37, hS]
          refine V_iinc3 dX3_lookFromRight_40 (by first | exact ginc1 _ | rfl) (by decide) rfl ?_
          refine V_goto (tgt := 88) dX3_lookFromRight_43 (by decide) ?_
          refine V_iinc4 dX3_lookFromRight_88 (by first | exact gdecS _ | rfl) (by decide) rfl ?_
          refine V_goto (tgt := 20) dX3_lookFromRight_91 (by decide) ?_
          first | exact ih (q + 1) _ _ _ _ _ (by omega) hs y0 y2 y1 y3 f2 | exact ih (q + 1) _ _ _ _ _ (by omega) hs (by simp [gI_sI]) (by rw [gdecP]; simp [gI_sI]) (by rw [← y1]; simp [gI_sI]) (by rw [← y3]; simp [gI_sI]) (fr_sI (fr_sI f2 (by omega) (by omega)) (by omega) (by omega))
  obtain ⟨i0, i1, i3, iw, iL, iwl, iLl, iwb, iLb, ik⟩ := id hI
  have e1 : gI (sI (sI h 46 1 (nI 0)) 46 3 (-1)) t 1 = nI w.length := by rw [gI_sI, if_neg (by omega), gI_sI, if_neg (by omega)]; exact i1
  refine V_aloadn0 dX3_lookFromRight_0 ?_
  refine V_iconst (v := nI 0) dX3_lookFromRight_1 (by decide) ?_
  refine V_putI dX3_lookFromRight_2 fX3_46 (by first | assumption | rfl) (by first | decide | omega) ?_
  refine V_aloadn0 dX3_lookFromRight_5 ?_
  refine V_iconst (v := -1) dX3_lookFromRight_6 (by decide) ?_
  refine V_putI dX3_lookFromRight_7 fX3_49 (by first | assumption | rfl) (by first | decide | omega) ?_
  refine V_iconst (v := nI 0) dX3_lookFromRight_10 (by decide) ?_
  refine V_istoren3 dX3_lookFromRight_11 (by decide) rfl ?_
  refine V_aloadn1 dX3_lookFromRight_12 ?_
  refine V_getI dX3_lookFromRight_13 fX3_39 (Or.inl rfl) (by first | assumption | rfl) (by first | decide | omega) (by first | assumption | rfl) ?_
  refine V_iconst (v := nI 1) dX3_lookFromRight_16 (by decide) ?_
  first | refine U_isub dX3_lookFromRight_17 (by with_reducible rfl) (by with_reducible rfl) (by omega) ?_ | refine V_isub dX3_lookFromRight_17 ?_
  refine V_istorew4 dX3_lookFromRight_18 (by decide) rfl ?_
  exact loop w.length 0 _ 0 0 0 _ (by omega) rfl (by simp [gI_sI]) (by rw [gI_sI, if_pos ⟨rfl, rfl⟩]; decide) (by simp [gI_sI]) (by simp [gI_sI]) (fr_sI (fr_sI Fr1.rf (by omega) (by omega)) (by omega) (by omega))
end C17
