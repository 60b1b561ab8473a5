/-! ===== the class: acts performed; up to the highest, down to the lowest ===== -/
def pfW (act kd : Nat) (w L : List Nat) (i n : Nat) : List Nat × List Nat := if act = 0 then (raiseW w i, L) else if act = 1 then (lowerW w i, L) else if act = 5 then turnW kd w L n else (mvW act w i, L)
def pfB (act kd : Nat) (w L : List Nat) (i n : Nat) : Bool := if act = 0 then decide (fhC w i ≠ 0) else if act = 1 then decide (llC w i ≠ 0) else !decide (kd = kd ∧ (pfW act kd w L i n).1 = w ∧ (pfW act kd w L i n).2 = L)
def rLF (w : List Nat) : Nat → Nat → Option (List Nat)
  | _, 0 => none
  | i, k + 1 => if fhC w i ≠ 0 then some (raiseW w i) else rLF w (i + 1) k
def lLF (w : List Nat) : Nat → Nat → Option (List Nat)
  | _, 0 => none
  | i, k + 1 => if llC w i ≠ 0 then some (lowerW w i) else lLF w (i + 1) k
def toTop (n : Nat) : Nat → List Nat → Nat × List Nat
  | 0, w => (0, w)
  | f + 1, w => match rLF w 1 (n - 1) with
    | none => (0, w)
    | some w' => ((toTop n f w').1 + 1, (toTop n f w').2)
def toFoot (n : Nat) : Nat → List Nat → Nat × List Nat
  | 0, w => (0, w)
  | f + 1, w => match lLF w 1 (n - 1) with
    | none => (0, w)
    | some w' => ((toFoot n f w').1 + 1, (toFoot n f w').2)
def hiB (w : List Nat) : Nat → Nat → Bool
  | _, 0 => true
  | i, k + 1 => if fhC w i ≠ 0 then false else hiB w (i + 1) k
section C19
variable {Γ : gM} {d : Nat} {h : gH} {Q : Option Value → gH → Prop} {t : Nat}
set_option maxRecDepth 100000 in
set_option maxHeartbeats 4000000 in
theorem c_perform {kd act i n : Nat} {x : Int32} {w L : List Nat} (hd : 5 ≤ d) (hM : ML h) (hT : TL h t) (hI : TI h t kd w L) (ht : t + 3 ≤ 46 ∨ 54 ≤ t) (hact : act ≤ 5) (hx : act ≠ 5 → x = nI i) (hi : i ≤ 8) (hn : n ≤ 5) (hw : ∀ p, p < w.length → w.getD p 0 ≤ n) (hQ : ∀ h', TI h' t kd (pfW act kd w L i n).1 (pfW act kd w L i n).2 → FrP h h' t → Q (some (.int (gBo (pfB act kd w L i n)))) h') : V Γ mX3_perform d 124 124 h 0 [some (.ref 46), some (.int (nI act)), some (.ref t), some (.int x), some (.int (nI n))] [] Q := by
  obtain ⟨m4, m5, mT, mG⟩ := id hM
  obtain ⟨l0, l1, l2, lt, r2, r4⟩ := id hT
  refine V_iloadn1 dX3_perform_0 ?_
  first | refine U_ifB_ne (tgt := 11) dX3_perform_1 (by decide) (by with_reducible rfl) (fun c1 => ?_) (fun c1 => ?_) | refine U_if_ne (tgt := 11) dX3_perform_1 (by decide) (by with_reducible rfl) (by omega) (fun c1 => ?_) (fun c1 => ?_) | refine V_if_ne (tgt := 11) dX3_perform_1 (by decide) (fun c1 => ?_) (fun c1 => ?_)
  · skip
    refine V_iloadn1 dX3_perform_11 ?_
    refine V_iconst (v := nI 1) dX3_perform_12 (by decide) ?_
    first | refine U_icmp_ne (tgt := 23) dX3_perform_13 (by decide) (by with_reducible rfl) (by with_reducible rfl) (by omega) (by omega) (fun c13 => ?_) (fun c13 => ?_) | refine V_icmp_ne (tgt := 23) dX3_perform_13 (by decide) (fun c13 => ?_) (fun c13 => ?_)
    · skip
      have e2 : pfB act kd w L i n = !decide (kd = kd ∧ (pfW act kd w L i n).1 = w ∧ (pfW act kd w L i n).2 = L) := by unfold pfB; rw [if_neg c1, if_neg c13]
      rw [e2] at hQ
      refine V_aloadn0 dX3_perform_23 ?_
      refine V_getR dX3_perform_24 fX3_12 (by first | assumption | rfl) (by first | decide | omega) (by first | assumption | rfl) ?_
      refine V_aloadn2 dX3_perform_27 ?_
      refine V_callV1 (μ' := mX8_becomeLike) dX3_perform_28 okX8_becomeLike lX3_59 rfl (by first | assumption | rfl) (by first | decide | omega) (Nat.le_of_ble_eq_true rfl) (Nat.le_of_ble_eq_true rfl) (by omega) ?_
      refine c_becomeLike (by omega) mT hT hI (by omega) (fun h1 hB1 hF1 => ?_)
      have hM1 := ML_fr hM hF1.2.2
      have hT1 := TL_fr hT hF1.2.2
      have hI1 := TI_fr hI hF1 (by omega)
      dsimp only [gPush]
      refine V_iloadn1 dX3_perform_31 ?_
      refine V_iconst (v := nI 5) dX3_perform_32 (by decide) ?_
      first | refine U_icmp_ne (tgt := 46) dX3_perform_33 (by decide) (by with_reducible rfl) (by with_reducible rfl) (by omega) (by omega) (fun c33 => ?_) (fun c33 => ?_) | refine V_icmp_ne (tgt := 46) dX3_perform_33 (by decide) (fun c33 => ?_) (fun c33 => ?_)
      · skip
        have hx := hx c33
        subst hx
        have e1 : pfW act kd w L i n = (mvW act w i, L) := by unfold pfW; rw [if_neg c1, if_neg c13, if_neg c33]
        refine V_aloadn0 dX3_perform_46 ?_
        refine V_iloadn1 dX3_perform_47 ?_
        refine V_aloadn2 dX3_perform_48 ?_
        refine V_iloadn3 dX3_perform_49 ?_
        refine V_callV3 (μ' := mX3_moveAlong) dX3_perform_50 okX3_moveAlong lX3_66 rfl (by first | assumption | rfl) (by first | decide | omega) (Nat.le_of_ble_eq_true rfl) (Nat.le_of_ble_eq_true rfl) (by omega) ?_
        refine c_moveAlong (by omega) hT1 hI1 hi ht (by omega) (fun h2 hI2 hF2' => ?_)
        have hB2 := TI_frM hB1 hF2' (by omega) (by omega)
        have hF2 := hF2'.toP
        have hI2 : TI h2 t kd (pfW act kd w L i n).1 (pfW act kd w L i n).2 := by rw [e1]; exact hI2
        dsimp only [gPush]
        have hM2 := ML_fr hM1 hF2.2.2
        have m4'' := hM2.1
        have hF9 := (hF1.toP (t := t) (Or.inl ⟨by omega, by omega⟩)).tr hF2
        refine V_aloadn2 dX3_perform_53 ?_
        refine V_aloadn0 dX3_perform_54 ?_
        refine V_getR dX3_perform_55 fX3_12 (by first | assumption | rfl) (by first | decide | omega) (by first | assumption | rfl) ?_
        refine V_callV1 (μ' := mX8_isSameAs) dX3_perform_58 okX8_isSameAs lX3_70 rfl (by first | assumption | rfl) (by first | decide | omega) (Nat.le_of_ble_eq_true rfl) (Nat.le_of_ble_eq_true rfl) (by omega) ?_
        refine c_isSameAs (TL_fr hT1 hF2.2.2) hM2.2.2.1 hI2 hB2 ?_
        dsimp only [gPush]
        first | refine U_ifB_ne (tgt := 68) dX3_perform_61 (by decide) (by with_reducible rfl) (fun c61 => ?_) (fun c61 => ?_) | refine U_if_ne (tgt := 68) dX3_perform_61 (by decide) (by with_reducible rfl) (by omega) (fun c61 => ?_) (fun c61 => ?_) | refine V_if_ne (tgt := 68) dX3_perform_61 (by decide) (fun c61 => ?_) (fun c61 => ?_)
        · skip
          have hI9 := hQ _ hI2 hF9
          rw [c61, Bool.not_true, gBo_f] at hI9
          refine V_iconst (v := nI 0) dX3_perform_68 (by decide) ?_
          refine V_iret dX3_perform_69 rfl (by first | exact gBo_nar _ | rfl | decide) ?_
          exact hI9
        · skip
          have hI9 := hQ _ hI2 hF9
          rw [c61, Bool.not_false, gBo_t] at hI9
          refine V_iconst (v := nI 1) dX3_perform_64 (by decide) ?_
          refine V_goto (tgt := 69) dX3_perform_65 (by decide) ?_
          refine V_iret dX3_perform_69 rfl (by first | exact gBo_nar _ | rfl | decide) ?_
          exact hI9
      · skip
        have e1 : pfW act kd w L i n = turnW kd w L n := by unfold pfW; rw [if_neg c1, if_neg c13, if_pos c33]
        refine V_aloadn0 dX3_perform_36 ?_
        refine V_aloadn2 dX3_perform_37 ?_
        refine V_iloadw4 dX3_perform_38 ?_
        refine V_callV2 (μ' := mX3_turn) dX3_perform_40 okX3_turn lX3_63 rfl (by first | assumption | rfl) (by first | decide | omega) (Nat.le_of_ble_eq_true rfl) (Nat.le_of_ble_eq_true rfl) (by omega) ?_
        refine c_turn (by omega) hM1 hT1 hI1 hB1 ht hn hw (fun h2 hI2 hB2 hF2 => ?_)
        rw [← e1] at hI2
        dsimp only [gPush]
        refine V_goto (tgt := 53) dX3_perform_43 (by decide) ?_
        have hM2 := ML_fr hM1 hF2.2.2
        have m4'' := hM2.1
        have hF9 := (hF1.toP (t := t) (Or.inl ⟨by omega, by omega⟩)).tr hF2
        refine V_aloadn2 dX3_perform_53 ?_
        refine V_aloadn0 dX3_perform_54 ?_
        refine V_getR dX3_perform_55 fX3_12 (by first | assumption | rfl) (by first | decide | omega) (by first | assumption | rfl) ?_
        refine V_callV1 (μ' := mX8_isSameAs) dX3_perform_58 okX8_isSameAs lX3_70 rfl (by first | assumption | rfl) (by first | decide | omega) (Nat.le_of_ble_eq_true rfl) (Nat.le_of_ble_eq_true rfl) (by omega) ?_
        refine c_isSameAs (TL_fr hT1 hF2.2.2) hM2.2.2.1 hI2 hB2 ?_
        dsimp only [gPush]
        first | refine U_ifB_ne (tgt := 68) dX3_perform_61 (by decide) (by with_reducible rfl) (fun c61 => ?_) (fun c61 => ?_) | refine U_if_ne (tgt := 68) dX3_perform_61 (by decide) (by with_reducible rfl) (by omega) (fun c61 => ?_) (fun c61 => ?_) | refine V_if_ne (tgt := 68) dX3_perform_61 (by decide) (fun c61 => ?_) (fun c61 => ?_)
        · skip
          have hI9 := hQ _ hI2 hF9
          rw [c61, Bool.not_true, gBo_f] at hI9
          refine V_iconst (v := nI 0) dX3_perform_68 (by decide) ?_
          refine V_iret dX3_perform_69 rfl (by first | exact gBo_nar _ | rfl | decide) ?_
          exact hI9
        · skip
          have hI9 := hQ _ hI2 hF9
          rw [c61, Bool.not_false, gBo_t] at hI9
          refine V_iconst (v := nI 1) dX3_perform_64 (by decide) ?_
          refine V_goto (tgt := 69) dX3_perform_65 (by decide) ?_
          refine V_iret dX3_perform_69 rfl (by first | exact gBo_nar _ | rfl | decide) ?_
          exact hI9
    · skip
      have hx := hx (by omega)
      subst hx
      have e1 : pfW act kd w L i n = (lowerW w i, L) := by unfold pfW; rw [if_neg c1, if_pos c13]
      have e2 : pfB act kd w L i n = decide (llC w i ≠ 0) := by unfold pfB; rw [if_neg c1, if_pos c13]
      rw [e1, e2] at hQ
      refine V_aloadn0 dX3_perform_16 ?_
      refine V_aloadn2 dX3_perform_17 ?_
      refine V_iloadn3 dX3_perform_18 ?_
      refine V_callV2 (μ' := mX3_lowerOnce) dX3_perform_19 okX3_lowerOnce lX3_56 rfl (by first | assumption | rfl) (by first | decide | omega) (Nat.le_of_ble_eq_true rfl) (Nat.le_of_ble_eq_true rfl) (by omega) ?_
      refine c_lowerOnce (by omega) hT hI hi ht (fun h1 hI1 hF1 => ?_)
      have hI9 := hQ h1 hI1 hF1.toP
      dsimp only [gPush]
      refine V_iret dX3_perform_22 rfl (by first | exact gBo_nar _ | rfl | decide) ?_
      exact hI9
  · skip
    have hx := hx (by omega)
    subst hx
    have e1 : pfW act kd w L i n = (raiseW w i, L) := by unfold pfW; rw [if_pos c1]
    have e2 : pfB act kd w L i n = decide (fhC w i ≠ 0) := by unfold pfB; rw [if_pos c1]
    rw [e1, e2] at hQ
    refine V_aloadn0 dX3_perform_4 ?_
    refine V_aloadn2 dX3_perform_5 ?_
    refine V_iloadn3 dX3_perform_6 ?_
    refine V_callV2 (μ' := mX3_raiseOnce) dX3_perform_7 okX3_raiseOnce lX3_52 rfl (by first | assumption | rfl) (by first | decide | omega) (Nat.le_of_ble_eq_true rfl) (Nat.le_of_ble_eq_true rfl) (by omega) ?_
    refine c_raiseOnce (by omega) hT hI hi ht (fun h1 hI1 hF1 => ?_)
    have hI9 := hQ h1 hI1 hF1.toP
    dsimp only [gPush]
    refine V_iret dX3_perform_10 rfl (by first | exact gBo_nar _ | rfl | decide) ?_
    exact hI9
set_option maxRecDepth 100000 in
set_option maxHeartbeats 4000000 in
theorem c_raisesForLeast {kd n : Nat} {w L : List Nat} (hd : 2 ≤ d) (hT : TL h t) (hI : TI h t kd w L) (ht : t + 3 ≤ 46 ∨ 54 ≤ t) (hn : n ≤ 5) (hn1 : 1 ≤ n) (hQ : ∀ h', TI h' t kd ((rLF w 1 (n - 1)).getD w) L → FrM h h' t → Q (some (.int (gBo (rLF w 1 (n - 1)).isSome))) h') : V Γ mX3_raisesForLeast d 124 124 h 0 [some (.ref 46), some (.ref t), some (.int (nI n)), none] [] Q := by
  have loop : ∀ k i h1, n - i = k → i ≤ n → rLF w 1 (n - 1) = rLF w i k → TI h1 t kd w L → FrM h h1 t → V Γ mX3_raisesForLeast d 124 124 h1 2 [some (.ref 46), some (.ref t), some (.int (nI n)), some (.int (nI i))] [] Q := by
    intro k
    induction k with
    | zero =>
      intro i h1 hk hi he hI1 hF1
      rw [rLF] at he
      rw [he] at hQ
      refine V_iloadn3 dX3_raisesForLeast_2 ?_
      refine V_iloadn2 dX3_raisesForLeast_3 ?_
      first | refine U_icmp_ge (tgt := 24) dX3_raisesForLeast_4 (by decide) (by with_reducible rfl) (by with_reducible rfl) (by omega) (by omega) (fun c4 => ?_) (fun c4 => ?_) | refine V_icmp_ge (tgt := 24) dX3_raisesForLeast_4 (by decide) (fun c4 => ?_) (fun c4 => ?_)
      · skip
        refine V_iconst (v := nI 0) dX3_raisesForLeast_24 (by decide) ?_
        refine V_iret dX3_raisesForLeast_25 rfl (by first | exact gBo_nar _ | rfl | decide) ?_
        exact hQ h1 hI1 hF1
      · skip
        omega
    | succ k ih =>
      intro i h1 hk hi he hI1 hF1
      rw [rLF] at he
      refine V_iloadn3 dX3_raisesForLeast_2 ?_
      refine V_iloadn2 dX3_raisesForLeast_3 ?_
      first | refine U_icmp_ge (tgt := 24) dX3_raisesForLeast_4 (by decide) (by with_reducible rfl) (by with_reducible rfl) (by omega) (by omega) (fun c4 => ?_) (fun c4 => ?_) | refine V_icmp_ge (tgt := 24) dX3_raisesForLeast_4 (by decide) (fun c4 => ?_) (fun c4 => ?_)
      · skip
        omega
      · skip
        refine V_aloadn0 dX3_raisesForLeast_7 ?_
        refine V_aloadn1 dX3_raisesForLeast_8 ?_
        refine V_iloadn3 dX3_raisesForLeast_9 ?_
        refine V_callV2 (μ' := mX3_raiseOnce) dX3_raisesForLeast_10 okX3_raiseOnce lX3_52 rfl (by first | assumption | rfl) (by first | decide | omega) (Nat.le_of_ble_eq_true rfl) (Nat.le_of_ble_eq_true rfl) (by omega) ?_
        refine c_raiseOnce (by omega) (TL_fr hT hF1.2.2) hI1 (by omega) ht (fun h2 hI2 hF2 => ?_)
        dsimp only [gPush]
        first | refine U_ifB_eq (tgt := 18) dX3_raisesForLeast_13 (by decide) (by with_reducible rfl) (fun c13 => ?_) (fun c13 => ?_) | refine U_if_eq (tgt := 18) dX3_raisesForLeast_13 (by decide) (by with_reducible rfl) (by omega) (fun c13 => ?_) (fun c13 => ?_) | refine V_if_eq (tgt := 18) dX3_raisesForLeast_13 (by decide) (fun c13 => ?_) (fun c13 => ?_)
        · skip
          have c : ¬ fhC w i ≠ 0 := of_decide_eq_false c13
          rw [if_neg c] at he
          have hI2 : TI h2 t kd w L := by unfold raiseW at hI2; rw [if_pos (Decidable.not_not.mp c)] at hI2; exact hI2
          refine V_iinc3 dX3_raisesForLeast_18 (by first | exact ginc1 _ | rfl) (by decide) rfl ?_
          refine V_goto (tgt := 2) dX3_raisesForLeast_21 (by decide) ?_
          exact ih (i + 1) h2 (by omega) (by omega) he hI2 (hF1.tr hF2)
        · skip
          have c : fhC w i ≠ 0 := of_decide_eq_true c13
          rw [if_pos c] at he
          rw [he] at hQ
          refine V_iconst (v := nI 1) dX3_raisesForLeast_16 (by decide) ?_
          refine V_iret dX3_raisesForLeast_17 rfl (by first | exact gBo_nar _ | rfl | decide) ?_
          exact hQ h2 hI2 (hF1.tr hF2)
  refine V_iconst (v := nI 1) dX3_raisesForLeast_0 (by decide) ?_
  refine V_istoren3 dX3_raisesForLeast_1 (by decide) rfl ?_
  exact loop (n - 1) 1 h rfl (by omega) rfl hI FrM.rf
set_option maxRecDepth 100000 in
set_option maxHeartbeats 4000000 in
theorem c_lowersForLeast {kd n : Nat} {w L : List Nat} (hd : 2 ≤ d) (hT : TL h t) (hI : TI h t kd w L) (ht : t + 3 ≤ 46 ∨ 54 ≤ t) (hn : n ≤ 5) (hn1 : 1 ≤ n) (hQ : ∀ h', TI h' t kd ((lLF w 1 (n - 1)).getD w) L → FrM h h' t → Q (some (.int (gBo (lLF w 1 (n - 1)).isSome))) h') : V Γ mX3_lowersForLeast d 124 124 h 0 [some (.ref 46), some (.ref t), some (.int (nI n)), none] [] Q := by
  have loop : ∀ k i h1, n - i = k → i ≤ n → lLF w 1 (n - 1) = lLF w i k → TI h1 t kd w L → FrM h h1 t → V Γ mX3_lowersForLeast d 124 124 h1 2 [some (.ref 46), some (.ref t), some (.int (nI n)), some (.int (nI i))] [] Q := by
    intro k
    induction k with
    | zero =>
      intro i h1 hk hi he hI1 hF1
      rw [lLF] at he
      rw [he] at hQ
      refine V_iloadn3 dX3_lowersForLeast_2 ?_
      refine V_iloadn2 dX3_lowersForLeast_3 ?_
      first | refine U_icmp_ge (tgt := 24) dX3_lowersForLeast_4 (by decide) (by with_reducible rfl) (by with_reducible rfl) (by omega) (by omega) (fun c4 => ?_) (fun c4 => ?_) | refine V_icmp_ge (tgt := 24) dX3_lowersForLeast_4 (by decide) (fun c4 => ?_) (fun c4 => ?_)
      · skip
        refine V_iconst (v := nI 0) dX3_lowersForLeast_24 (by decide) ?_
        refine V_iret dX3_lowersForLeast_25 rfl (by first | exact gBo_nar _ | rfl | decide) ?_
        exact hQ h1 hI1 hF1
      · skip
        omega
    | succ k ih =>
      intro i h1 hk hi he hI1 hF1
      rw [lLF] at he
      refine V_iloadn3 dX3_lowersForLeast_2 ?_
      refine V_iloadn2 dX3_lowersForLeast_3 ?_
      first | refine U_icmp_ge (tgt := 24) dX3_lowersForLeast_4 (by decide) (by with_reducible rfl) (by with_reducible rfl) (by omega) (by omega) (fun c4 => ?_) (fun c4 => ?_) | refine V_icmp_ge (tgt := 24) dX3_lowersForLeast_4 (by decide) (fun c4 => ?_) (fun c4 => ?_)
      · skip
        omega
      · skip
        refine V_aloadn0 dX3_lowersForLeast_7 ?_
        refine V_aloadn1 dX3_lowersForLeast_8 ?_
        refine V_iloadn3 dX3_lowersForLeast_9 ?_
        refine V_callV2 (μ' := mX3_lowerOnce) dX3_lowersForLeast_10 okX3_lowerOnce lX3_56 rfl (by first | assumption | rfl) (by first | decide | omega) (Nat.le_of_ble_eq_true rfl) (Nat.le_of_ble_eq_true rfl) (by omega) ?_
        refine c_lowerOnce (by omega) (TL_fr hT hF1.2.2) hI1 (by omega) ht (fun h2 hI2 hF2 => ?_)
        dsimp only [gPush]
        first | refine U_ifB_eq (tgt := 18) dX3_lowersForLeast_13 (by decide) (by with_reducible rfl) (fun c13 => ?_) (fun c13 => ?_) | refine U_if_eq (tgt := 18) dX3_lowersForLeast_13 (by decide) (by with_reducible rfl) (by omega) (fun c13 => ?_) (fun c13 => ?_) | refine V_if_eq (tgt := 18) dX3_lowersForLeast_13 (by decide) (fun c13 => ?_) (fun c13 => ?_)
        · skip
          have c : ¬ llC w i ≠ 0 := of_decide_eq_false c13
          rw [if_neg c] at he
          have hI2 : TI h2 t kd w L := by unfold lowerW at hI2; rw [if_pos (Decidable.not_not.mp c)] at hI2; exact hI2
          refine V_iinc3 dX3_lowersForLeast_18 (by first | exact ginc1 _ | rfl) (by decide) rfl ?_
          refine V_goto (tgt := 2) dX3_lowersForLeast_21 (by decide) ?_
          exact ih (i + 1) h2 (by omega) (by omega) he hI2 (hF1.tr hF2)
        · skip
          have c : llC w i ≠ 0 := of_decide_eq_true c13
          rw [if_pos c] at he
          rw [he] at hQ
          refine V_iconst (v := nI 1) dX3_lowersForLeast_16 (by decide) ?_
          refine V_iret dX3_lowersForLeast_17 rfl (by first | exact gBo_nar _ | rfl | decide) ?_
          exact hQ h2 hI2 (hF1.tr hF2)
  refine V_iconst (v := nI 1) dX3_lowersForLeast_0 (by decide) ?_
  refine V_istoren3 dX3_lowersForLeast_1 (by decide) rfl ?_
  exact loop (n - 1) 1 h rfl (by omega) rfl hI FrM.rf
set_option maxRecDepth 100000 in
set_option maxHeartbeats 4000000 in
theorem c_isHighest {kd n : Nat} {w L : List Nat} (hd : 2 ≤ d) (hT : TL h t) (hI : TI h t kd w L) (ht : t + 3 ≤ 46 ∨ 47 ≤ t) (hn : n ≤ 5) (hn1 : 1 ≤ n) (hQ : ∀ h', Fr1 h h' 46 47 → Q (some (.int (gBo (hiB w 1 (n - 1))))) h') : V Γ mX3_isHighest d 124 124 h 0 [some (.ref 46), some (.ref t), some (.int (nI n)), none] [] Q := by
  have loop : ∀ k i h1, n - i = k → i ≤ n → hiB w 1 (n - 1) = hiB w i k → Fr1 h h1 46 47 → V Γ mX3_isHighest d 124 124 h1 2 [some (.ref 46), some (.ref t), some (.int (nI n)), some (.int (nI i))] [] Q := by
    intro k
    induction k with
    | zero =>
      intro i h1 hk hi he hF1
      rw [hiB] at he
      rw [he] at hQ
      refine V_iloadn3 dX3_isHighest_2 ?_
      refine V_iloadn2 dX3_isHighest_3 ?_
      first | refine U_icmp_ge (tgt := 24) dX3_isHighest_4 (by decide) (by with_reducible rfl) (by with_reducible rfl) (by omega) (by omega) (fun c4 => ?_) (fun c4 => ?_) | refine V_icmp_ge (tgt := 24) dX3_isHighest_4 (by decide) (fun c4 => ?_) (fun c4 => ?_)
      · skip
        refine V_iconst (v := nI 1) dX3_isHighest_24 (by decide) ?_
        refine V_iret dX3_isHighest_25 rfl (by first | exact gBo_nar _ | rfl | decide) ?_
        exact hQ h1 hF1
      · skip
        omega
    | succ k ih =>
      intro i h1 hk hi he hF1
      rw [hiB] at he
      refine V_iloadn3 dX3_isHighest_2 ?_
      refine V_iloadn2 dX3_isHighest_3 ?_
      first | refine U_icmp_ge (tgt := 24) dX3_isHighest_4 (by decide) (by with_reducible rfl) (by with_reducible rfl) (by omega) (by omega) (fun c4 => ?_) (fun c4 => ?_) | refine V_icmp_ge (tgt := 24) dX3_isHighest_4 (by decide) (fun c4 => ?_) (fun c4 => ?_)
      · skip
        omega
      · skip
        refine V_aloadn0 dX3_isHighest_7 ?_
        refine V_aloadn1 dX3_isHighest_8 ?_
        refine V_iloadn3 dX3_isHighest_9 ?_
        refine V_callV2 (μ' := mX3_canRaise) dX3_isHighest_10 okX3_canRaise lX3_99 rfl (by first | assumption | rfl) (by first | decide | omega) (Nat.le_of_ble_eq_true rfl) (Nat.le_of_ble_eq_true rfl) (by omega) ?_
        refine c_canRaise (by omega) (TL_fr hT hF1.2.2) (TI_fr hI hF1 (by omega)) (by omega) ht (fun h2 hF2 => ?_)
        dsimp only [gPush]
        first | refine U_ifB_eq (tgt := 18) dX3_isHighest_13 (by decide) (by with_reducible rfl) (fun c13 => ?_) (fun c13 => ?_) | refine U_if_eq (tgt := 18) dX3_isHighest_13 (by decide) (by with_reducible rfl) (by omega) (fun c13 => ?_) (fun c13 => ?_) | refine V_if_eq (tgt := 18) dX3_isHighest_13 (by decide) (fun c13 => ?_) (fun c13 => ?_)
        · skip
          rw [if_neg (of_decide_eq_false c13)] at he
          refine V_iinc3 dX3_isHighest_18 (by first | exact ginc1 _ | rfl) (by decide) rfl ?_
          refine V_goto (tgt := 2) dX3_isHighest_21 (by decide) ?_
          exact ih (i + 1) h2 (by omega) (by omega) he (hF1.tr hF2)
        · skip
          rw [if_pos (of_decide_eq_true c13)] at he
          rw [he] at hQ
          refine V_iconst (v := nI 0) dX3_isHighest_16 (by decide) ?_
          refine V_iret dX3_isHighest_17 rfl (by first | exact gBo_nar _ | rfl | decide) ?_
          exact hQ h2 (hF1.tr hF2)
  refine V_iconst (v := nI 1) dX3_isHighest_0 (by decide) ?_
  refine V_istoren3 dX3_isHighest_1 (by decide) rfl ?_
  exact loop (n - 1) 1 h rfl (by omega) rfl Fr1.rf
theorem toTop_le (n : Nat) : ∀ f w, (toTop n f w).1 ≤ f
  | 0, w => Nat.le_refl _
  | f + 1, w => by
    unfold toTop
    split
    · exact Nat.zero_le _
    · have := toTop_le n f (by assumption); simp only; omega
set_option maxRecDepth 100000 in
set_option maxHeartbeats 4000000 in
theorem c_raiseToHighest {kd n : Nat} {w L : List Nat} (hd : 3 ≤ d) (hT : TL h t) (hI : TI h t kd w L) (ht : t + 3 ≤ 46 ∨ 54 ≤ t) (hn : n ≤ 5) (hn1 : 1 ≤ n) (hQ : ∀ h', TI h' t kd (toTop n 30 w).2 L → FrM h h' t → Q (some (.int (nI (toTop n 30 w).1))) h') : V Γ mX3_raiseToHighest d 124 124 h 0 [some (.ref 46), some (.ref t), some (.int (nI n)), none] [] Q := by
  generalize hR : toTop n 30 w = R at hQ
  have loop : ∀ f m h1 w1, m + f = 30 → R.1 = m + (toTop n f w1).1 → R.2 = (toTop n f w1).2 → TI h1 t kd w1 L → FrM h h1 t → V Γ mX3_raiseToHighest d 124 124 h1 2 [some (.ref 46), some (.ref t), some (.int (nI n)), some (.int (nI m))] [] Q := by
    intro f
    induction f with
    | zero =>
      intro m h1 w1 hm e1 e2 hI1 hF1
      have hm : m = 30 := by omega
      subst hm
      rw [toTop] at e1 e2
      rw [e1, e2] at hQ
      refine V_iloadn3 dX3_raiseToHighest_2 ?_
      refine V_bipush (v := nI 30) dX3_raiseToHighest_3 (by decide) ?_
      first | refine U_icmp_ge (tgt := 25) dX3_raiseToHighest_5 (by decide) (by with_reducible rfl) (by with_reducible rfl) (by omega) (by omega) (fun c5 => ?_) (fun c5 => ?_) | refine V_icmp_ge (tgt := 25) dX3_raiseToHighest_5 (by decide) (fun c5 => ?_) (fun c5 => ?_)
      · skip
        refine V_bipush (v := nI 30) dX3_raiseToHighest_25 (by decide) ?_
        refine V_iret dX3_raiseToHighest_27 rfl rfl ?_
        exact hQ h1 hI1 hF1
      · skip
        omega
    | succ f ih =>
      intro m h1 w1 hm e1 e2 hI1 hF1
      rw [toTop] at e1 e2
      refine V_iloadn3 dX3_raiseToHighest_2 ?_
      refine V_bipush (v := nI 30) dX3_raiseToHighest_3 (by decide) ?_
      first | refine U_icmp_ge (tgt := 25) dX3_raiseToHighest_5 (by decide) (by with_reducible rfl) (by with_reducible rfl) (by omega) (by omega) (fun c5 => ?_) (fun c5 => ?_) | refine V_icmp_ge (tgt := 25) dX3_raiseToHighest_5 (by decide) (fun c5 => ?_) (fun c5 => ?_)
      · skip
        omega
      · skip
        refine V_aloadn0 dX3_raiseToHighest_8 ?_
        refine V_aloadn1 dX3_raiseToHighest_9 ?_
        refine V_iloadn2 dX3_raiseToHighest_10 ?_
        refine V_callV2 (μ' := mX3_raisesForLeast) dX3_raiseToHighest_11 okX3_raisesForLeast lX3_93 rfl (by first | assumption | rfl) (by first | decide | omega) (Nat.le_of_ble_eq_true rfl) (Nat.le_of_ble_eq_true rfl) (by omega) ?_
        refine c_raisesForLeast (by omega) (TL_fr hT hF1.2.2) hI1 ht hn hn1 (fun h2 hI2 hF2 => ?_)
        dsimp only [gPush]
        first | refine U_ifB_ne (tgt := 19) dX3_raiseToHighest_14 (by decide) (by with_reducible rfl) (fun c14 => ?_) (fun c14 => ?_) | refine U_if_ne (tgt := 19) dX3_raiseToHighest_14 (by decide) (by with_reducible rfl) (by omega) (fun c14 => ?_) (fun c14 => ?_) | refine V_if_ne (tgt := 19) dX3_raiseToHighest_14 (by decide) (fun c14 => ?_) (fun c14 => ?_)
        · skip
          obtain ⟨v, c⟩ : ∃ v, rLF w1 1 (n - 1) = some v := by cases hr : rLF w1 1 (n - 1) with
            | none => rw [hr] at c14; cases c14
            | some v => exact ⟨v, rfl⟩
          rw [c] at e1 e2 hI2
          refine V_iinc3 dX3_raiseToHighest_19 (by first | exact ginc1 _ | rfl) (by decide) rfl ?_
          refine V_goto (tgt := 2) dX3_raiseToHighest_22 (by decide) ?_
          exact ih (m + 1) h2 v (by omega) (by rw [e1]; simp only; omega) e2 hI2 (hF1.tr hF2)
        · skip
          have c : rLF w1 1 (n - 1) = none := by cases hr : rLF w1 1 (n - 1) with
            | none => rfl
            | some v => rw [hr] at c14; cases c14
          rw [c] at e1 e2 hI2
          rw [e1, e2] at hQ
          refine V_iloadn3 dX3_raiseToHighest_17 ?_
          refine V_iret dX3_raiseToHighest_18 rfl rfl ?_
          exact hQ h2 hI2 (hF1.tr hF2)
  refine V_iconst (v := nI 0) dX3_raiseToHighest_0 (by decide) ?_
  refine V_istoren3 dX3_raiseToHighest_1 (by decide) rfl ?_
  exact loop 30 0 h w rfl (by rw [hR]; omega) (by rw [hR]) hI FrM.rf
set_option maxRecDepth 100000 in
set_option maxHeartbeats 4000000 in
theorem c_lowerToLowest {kd n : Nat} {w L : List Nat} (hd : 3 ≤ d) (hT : TL h t) (hI : TI h t kd w L) (ht : t + 3 ≤ 46 ∨ 54 ≤ t) (hn : n ≤ 5) (hn1 : 1 ≤ n) (hQ : ∀ h', TI h' t kd (toFoot n 30 w).2 L → FrM h h' t → Q (some (.int (nI (toFoot n 30 w).1))) h') : V Γ mX3_lowerToLowest d 124 124 h 0 [some (.ref 46), some (.ref t), some (.int (nI n)), none] [] Q := by
  generalize hR : toFoot n 30 w = R at hQ
  have loop : ∀ f m h1 w1, m + f = 30 → R.1 = m + (toFoot n f w1).1 → R.2 = (toFoot n f w1).2 → TI h1 t kd w1 L → FrM h h1 t → V Γ mX3_lowerToLowest d 124 124 h1 2 [some (.ref 46), some (.ref t), some (.int (nI n)), some (.int (nI m))] [] Q := by
    intro f
    induction f with
    | zero =>
      intro m h1 w1 hm e1 e2 hI1 hF1
      have hm : m = 30 := by omega
      subst hm
      rw [toFoot] at e1 e2
      rw [e1, e2] at hQ
      refine V_iloadn3 dX3_lowerToLowest_2 ?_
      refine V_bipush (v := nI 30) dX3_lowerToLowest_3 (by decide) ?_
      first | refine U_icmp_ge (tgt := 25) dX3_lowerToLowest_5 (by decide) (by with_reducible rfl) (by with_reducible rfl) (by omega) (by omega) (fun c5 => ?_) (fun c5 => ?_) | refine V_icmp_ge (tgt := 25) dX3_lowerToLowest_5 (by decide) (fun c5 => ?_) (fun c5 => ?_)
      · skip
        refine V_bipush (v := nI 30) dX3_lowerToLowest_25 (by decide) ?_
        refine V_iret dX3_lowerToLowest_27 rfl rfl ?_
        exact hQ h1 hI1 hF1
      · skip
        omega
    | succ f ih =>
      intro m h1 w1 hm e1 e2 hI1 hF1
      rw [toFoot] at e1 e2
      refine V_iloadn3 dX3_lowerToLowest_2 ?_
      refine V_bipush (v := nI 30) dX3_lowerToLowest_3 (by decide) ?_
      first | refine U_icmp_ge (tgt := 25) dX3_lowerToLowest_5 (by decide) (by with_reducible rfl) (by with_reducible rfl) (by omega) (by omega) (fun c5 => ?_) (fun c5 => ?_) | refine V_icmp_ge (tgt := 25) dX3_lowerToLowest_5 (by decide) (fun c5 => ?_) (fun c5 => ?_)
      · skip
        omega
      · skip
        refine V_aloadn0 dX3_lowerToLowest_8 ?_
        refine V_aloadn1 dX3_lowerToLowest_9 ?_
        refine V_iloadn2 dX3_lowerToLowest_10 ?_
        refine V_callV2 (μ' := mX3_lowersForLeast) dX3_lowerToLowest_11 okX3_lowersForLeast lX3_96 rfl (by first | assumption | rfl) (by first | decide | omega) (Nat.le_of_ble_eq_true rfl) (Nat.le_of_ble_eq_true rfl) (by omega) ?_
        refine c_lowersForLeast (by omega) (TL_fr hT hF1.2.2) hI1 ht hn hn1 (fun h2 hI2 hF2 => ?_)
        dsimp only [gPush]
        first | refine U_ifB_ne (tgt := 19) dX3_lowerToLowest_14 (by decide) (by with_reducible rfl) (fun c14 => ?_) (fun c14 => ?_) | refine U_if_ne (tgt := 19) dX3_lowerToLowest_14 (by decide) (by with_reducible rfl) (by omega) (fun c14 => ?_) (fun c14 => ?_) | refine V_if_ne (tgt := 19) dX3_lowerToLowest_14 (by decide) (fun c14 => ?_) (fun c14 => ?_)
        · skip
          obtain ⟨v, c⟩ : ∃ v, lLF w1 1 (n - 1) = some v := by cases hr : lLF w1 1 (n - 1) with
            | none => rw [hr] at c14; cases c14
            | some v => exact ⟨v, rfl⟩
          rw [c] at e1 e2 hI2
          refine V_iinc3 dX3_lowerToLowest_19 (by first | exact ginc1 _ | rfl) (by decide) rfl ?_
          refine V_goto (tgt := 2) dX3_lowerToLowest_22 (by decide) ?_
          exact ih (m + 1) h2 v (by omega) (by rw [e1]; simp only; omega) e2 hI2 (hF1.tr hF2)
        · skip
          have c : lLF w1 1 (n - 1) = none := by cases hr : lLF w1 1 (n - 1) with
            | none => rfl
            | some v => rw [hr] at c14; cases c14
          rw [c] at e1 e2 hI2
          rw [e1, e2] at hQ
          refine V_iloadn3 dX3_lowerToLowest_17 ?_
          refine V_iret dX3_lowerToLowest_18 rfl rfl ?_
          exact hQ h2 hI2 (hF1.tr hF2)
  refine V_iconst (v := nI 0) dX3_lowerToLowest_0 (by decide) ?_
  refine V_istoren3 dX3_lowerToLowest_1 (by decide) rfl ?_
  exact loop 30 0 h w rfl (by rw [hR]; omega) (by rw [hR]) hI FrM.rf
end C19
