/-! ===== the class: moves ===== -/
/-- nothing has changed but ints of the moves' cells and of the thing at t -/
def FrM (h h' : gH) (t : Nat) : Prop := (∀ a, a < 46 ∨ 47 ≤ a → a < t ∨ t + 3 ≤ a → gI h' a = gI h a) ∧ gL h' = gL h ∧ gR h' = gR h
theorem FrM.rf {h : gH} {t : Nat} : FrM h h t := ⟨fun _ _ _ => rfl, rfl, rfl⟩
theorem FrM.tr {h h' h'' : gH} {t : Nat} (a : FrM h h' t) (b : FrM h' h'' t) : FrM h h'' t := ⟨fun q h1 h2 => (b.1 q h1 h2).trans (a.1 q h1 h2), b.2.1.trans a.2.1, b.2.2.trans a.2.2⟩
theorem Fr1.toM {h h' : gH} {t lo hi : Nat} (a : Fr1 h h' lo hi) (hl : (46 ≤ lo ∧ hi ≤ 47) ∨ (t ≤ lo ∧ hi ≤ t + 3)) : FrM h h' t := ⟨fun q h1 h2 => a.1 q (by omega), a.2.1, a.2.2⟩
def raiseW (w : List Nat) (i : Nat) : List Nat := if fhC w i = 0 then w else w.set (fhC w i - 1) i
def lowerW (w : List Nat) (i : Nat) : List Nat := if llC w i = 0 then w else w.set (llC w i - 1) (i + 1)
theorem raiseW_len (w : List Nat) (i : Nat) : (raiseW w i).length = w.length := by unfold raiseW; split <;> simp
theorem lowerW_len (w : List Nat) (i : Nat) : (lowerW w i).length = w.length := by unfold lowerW; split <;> simp
theorem fhC_le (w : List Nat) (i : Nat) : fhC w i ≤ w.length := (rkF_ok w i w.length w.length (Nat.le_refl _)).2.2.1
theorem llC_le (w : List Nat) (i : Nat) : llC w i ≤ w.length := (lkF_ok w i w.length).2.2.1
theorem fhC_z (w : List Nat) (i : Nat) : highC w i = 0 ↔ fhC w i = 0 := (rkF_ok w i w.length w.length (Nat.le_refl _)).2.2.2
theorem llC_z (w : List Nat) (i : Nat) : lowC w i = 0 ↔ llC w i = 0 := (lkF_ok w i w.length).2.2.2
theorem highC_le (w : List Nat) (i : Nat) : highC w i ≤ w.length := (rkF_ok w i w.length w.length (Nat.le_refl _)).2.1
theorem lowC_le (w : List Nat) (i : Nat) : lowC w i ≤ w.length := (lkF_ok w i w.length).2.1
theorem TI_set {h : gH} {t kd p x : Nat} {w L : List Nat} (hI : TI h t kd w L) (hp : p < w.length) (hx : x ≤ 9) : TI (sI h (t + 1) p (nI x)) t kd (w.set p x) L := by
  obtain ⟨i0, i1, i3, iw, iL, iwl, iLl, iwb, iLb, ik⟩ := hI
  refine ⟨?_, ?_, ?_, fun j hj => ?_, fun r hr => ?_, by rw [List.length_set]; exact iwl, iLl, fun j => ?_, iLb, ik⟩
  · rw [gI_sI, if_neg (by omega)]; exact i0
  · rw [gI_sI, if_neg (by omega), List.length_set]; exact i1
  · rw [gI_sI, if_neg (by omega)]; exact i3
  · rw [List.length_set] at hj
    rw [gI_sI, getD_set_nat hp]
    by_cases e : j = p
    · rw [if_pos ⟨rfl, e⟩, if_pos e]
    · rw [if_neg (fun q => e q.2), if_neg e]; exact iw j hj
  · rw [gI_sI, if_neg (by omega)]; exact iL r hr
  · rw [getD_set_nat hp]
    split
    · exact hx
    · exact iwb j
def rIt (w : List Nat) (i : Nat) : Nat → List Nat
  | 0 => w
  | n + 1 => raiseW (rIt w i n) i
def lIt (w : List Nat) (i : Nat) : Nat → List Nat
  | 0 => w
  | n + 1 => lowerW (lIt w i n) i
def mvW (act : Nat) (w : List Nat) (i : Nat) : List Nat := if act = 3 then rIt w i (highC w i) else if act = 4 then lIt w i (lowC w i) else if act = 2 then rIt (lIt w i (lowC w i - highC w i)) i (highC w i - lowC w i) else w
def twF (w : List Nat) (n : Nat) : List Nat := (List.range w.length).map (fun p => n + 1 - w.getD (w.length - 1 - p) 0)
theorem twF_len (w : List Nat) (n : Nat) : (twF w n).length = w.length := by simp [twF]
theorem twF_get {w : List Nat} {n p : Nat} (hp : p < w.length) : (twF w n).getD p 0 = n + 1 - w.getD (w.length - 1 - p) 0 := by
  rw [List.getD_eq_getElem?_getD]
  simp [twF, hp]
/-- a thing turned: its letters, its lengths -/
def turnW (kd : Nat) (w L : List Nat) (n : Nat) : List Nat × List Nat := if kd = 2 then (rdL (insW (twF w n) w.length), (insW (twF w n) w.length).map List.length) else (twF w n, L)
section C18
variable {Γ : gM} {d : Nat} {h : gH} {Q : Option Value → gH → Prop} {t : Nat}
set_option maxRecDepth 100000 in
set_option maxHeartbeats 4000000 in
theorem c_look {kd i : Nat} {w L : List Nat} (hd : 1 ≤ d) (hT : TL h t) (hI : TI h t kd w L) (hi : i ≤ 8) (ht : t + 3 ≤ 46 ∨ 47 ≤ t) (hQ : ∀ h', gI h' 46 0 = nI (lowC w i) → gI h' 46 1 = nI (highC w i) → Fr1 h h' 46 47 → Q none h') : V Γ mX3_look d 124 124 h 0 [some (.ref 46), some (.ref t), some (.int (nI i))] [] Q := by
  refine V_aloadn0 dX3_look_0 ?_
  refine V_aloadn1 dX3_look_1 ?_
  refine V_iloadn2 dX3_look_2 ?_
  refine V_callV2 (μ' := mX3_lookFromLeft) dX3_look_3 okX3_lookFromLeft lX3_25 rfl (by first | assumption | rfl) (by first | decide | omega) (Nat.le_of_ble_eq_true rfl) (Nat.le_of_ble_eq_true rfl) (by omega) ?_
  refine c_lookLeft hT hI (by omega) ht (fun h1 z0 z2 z1 z3 f1 => ?_)
  dsimp only [gPush]
  refine V_aloadn0 dX3_look_6 ?_
  refine V_aloadn1 dX3_look_7 ?_
  refine V_iloadn2 dX3_look_8 ?_
  refine V_callV2 (μ' := mX3_lookFromRight) dX3_look_9 okX3_lookFromRight lX3_29 rfl (by first | assumption | rfl) (by first | decide | omega) (Nat.le_of_ble_eq_true rfl) (Nat.le_of_ble_eq_true rfl) (by omega) ?_
  refine c_lookRight (TL_fr hT f1.2.2) (TI_fr hI f1 (by omega)) (by omega) ht (fun h2 y1 y3 y0 y2 f2 => ?_)
  dsimp only [gPush]
  refine V_ret dX3_look_12 rfl ?_
  exact hQ h2 (by rw [y0]; exact z0) y1 (f1.tr f2)
set_option maxRecDepth 100000 in
set_option maxHeartbeats 4000000 in
theorem c_canRaise {kd i : Nat} {w L : List Nat} (hd : 1 ≤ d) (hT : TL h t) (hI : TI h t kd w L) (hi : i ≤ 8) (ht : t + 3 ≤ 46 ∨ 47 ≤ t) (hQ : ∀ h', Fr1 h h' 46 47 → Q (some (.int (gBo (decide (fhC w i ≠ 0))))) h') : V Γ mX3_canRaise d 124 124 h 0 [some (.ref 46), some (.ref t), some (.int (nI i))] [] Q := by
  have hz := fhC_z w i
  have hl := highC_le w i
  have hw6 := hI.2.2.2.2.2.1
  refine V_aloadn0 dX3_canRaise_0 ?_
  refine V_aloadn1 dX3_canRaise_1 ?_
  refine V_iloadn2 dX3_canRaise_2 ?_
  refine V_callV2 (μ' := mX3_lookFromRight) dX3_canRaise_3 okX3_lookFromRight lX3_29 rfl (by first | assumption | rfl) (by first | decide | omega) (Nat.le_of_ble_eq_true rfl) (Nat.le_of_ble_eq_true rfl) (by omega) ?_
  refine c_lookRight hT hI (by omega) ht (fun h2 y1 y3 y0 y2 f2 => ?_)
  dsimp only [gPush]
  refine V_aloadn0 dX3_canRaise_6 ?_
  refine V_getI dX3_canRaise_7 fX3_46 (Or.inl rfl) (by first | assumption | rfl) (by first | decide | omega) (by first | assumption | rfl) ?_
  first | refine U_if_le (tgt := 17) dX3_canRaise_10 (by decide) (by with_reducible rfl) (by omega) (fun c10 => ?_) (fun c10 => ?_) | refine V_if_le (tgt := 17) dX3_canRaise_10 (by decide) (fun c10 => ?_) (fun c10 => ?_)
  · skip
    have hQ := hQ h2 f2
    rw [decide_eq_false (fun q => q (hz.mp c10)), gBo_f] at hQ
    refine V_iconst (v := nI 0) dX3_canRaise_17 (by decide) ?_
    refine V_iret dX3_canRaise_18 rfl (by first | exact gBo_nar _ | rfl | decide) ?_
    exact hQ
  · skip
    have hQ := hQ h2 f2
    rw [decide_eq_true (p := fhC w i ≠ 0) (fun q => c10 (hz.mpr q)), gBo_t] at hQ
    refine V_iconst (v := nI 1) dX3_canRaise_13 (by decide) ?_
    refine V_goto (tgt := 18) dX3_canRaise_14 (by decide) ?_
    refine V_iret dX3_canRaise_18 rfl (by first | exact gBo_nar _ | rfl | decide) ?_
    exact hQ
set_option maxRecDepth 100000 in
set_option maxHeartbeats 4000000 in
theorem c_raiseOnce {kd i : Nat} {w L : List Nat} (hd : 1 ≤ d) (hT : TL h t) (hI : TI h t kd w L) (hi : i ≤ 8) (ht : t + 3 ≤ 46 ∨ 54 ≤ t) (hQ : ∀ h', TI h' t kd (raiseW w i) L → FrM h h' t → Q (some (.int (gBo (decide (fhC w i ≠ 0))))) h') : V Γ mX3_raiseOnce d 124 124 h 0 [some (.ref 46), some (.ref t), some (.int (nI i))] [] Q := by
  have hl := fhC_le w i
  have hw6 := hI.2.2.2.2.2.1
  obtain ⟨l0, l1, l2, lt, r2, r4⟩ := id hT
  refine V_aloadn0 dX3_raiseOnce_0 ?_
  refine V_aloadn1 dX3_raiseOnce_1 ?_
  refine V_iloadn2 dX3_raiseOnce_2 ?_
  refine V_callV2 (μ' := mX3_lookFromRight) dX3_raiseOnce_3 okX3_lookFromRight lX3_29 rfl (by first | assumption | rfl) (by first | decide | omega) (Nat.le_of_ble_eq_true rfl) (Nat.le_of_ble_eq_true rfl) (by omega) ?_
  refine c_lookRight hT hI (by omega) (by omega) (fun h2 y1 y3 y0 y2 f2 => ?_)
  have r2' : gR h2 t 2 = some (t + 1) := by rw [f2.2.2]; exact r2
  dsimp only [gPush]
  refine V_aloadn0 dX3_raiseOnce_6 ?_
  refine V_getI dX3_raiseOnce_7 fX3_49 (Or.inl rfl) (by first | assumption | rfl) (by first | decide | omega) (by first | assumption | rfl) ?_
  refine V_if_ge (tgt := 15) dX3_raiseOnce_10 (by decide) (fun c10 => ?_) (fun c10 => ?_)
  · skip
    have e0 : ¬ fhC w i = 0 := fun q => absurd ((gdec_lt (by omega)).mpr q) (Int32.not_lt.mpr c10)
    have e1 : nI (fhC w i) - nI 1 = nI (fhC w i - 1) := pk_sub (by omega)
    rw [e1] at y3
    have hQ := hQ (sI h2 (t + 1) (fhC w i - 1) (nI i)) (by unfold raiseW; rw [if_neg e0]; exact TI_set (TI_fr hI f2 (by omega)) (by omega) (by omega)) ((f2.toM (Or.inl ⟨by omega, by omega⟩)).tr ((fr_sI (lo := t) (hi := t + 3) Fr1.rf (by omega) (by omega)).toM (Or.inr ⟨by omega, by omega⟩)))
    rw [decide_eq_true e0, gBo_t] at hQ
    refine V_aloadn1 dX3_raiseOnce_15 ?_
    refine V_getR dX3_raiseOnce_16 fX3_42 (by first | assumption | rfl) (by first | decide | omega) (by first | assumption | rfl) ?_
    refine V_aloadn0 dX3_raiseOnce_19 ?_
    refine V_getI dX3_raiseOnce_20 fX3_49 (Or.inl rfl) (by first | assumption | rfl) (by first | decide | omega) (by first | assumption | rfl) ?_
    refine V_iloadn2 dX3_raiseOnce_23 ?_
    refine U_iast dX3_raiseOnce_24 (by with_reducible rfl) (by first | assumption | rfl) (by first | decide | omega) (by omega) ?_
    refine V_iconst (v := nI 1) dX3_raiseOnce_25 (by decide) ?_
    refine V_iret dX3_raiseOnce_26 rfl (by first | exact gBo_nar _ | rfl | decide) ?_
    exact hQ
  · skip
    have e0 : fhC w i = 0 := (gdec_lt (by omega)).mp (Int32.not_le.mp c10)
    have hQ := hQ h2 (by unfold raiseW; rw [if_pos e0]; exact TI_fr hI f2 (by omega)) (f2.toM (Or.inl ⟨by omega, by omega⟩))
    rw [decide_eq_false (fun q => q e0), gBo_f] at hQ
    refine V_iconst (v := nI 0) dX3_raiseOnce_13 (by decide) ?_
    refine V_iret dX3_raiseOnce_14 rfl (by first | exact gBo_nar _ | rfl | decide) ?_
    exact hQ
set_option maxRecDepth 100000 in
set_option maxHeartbeats 4000000 in
theorem c_lowerOnce {kd i : Nat} {w L : List Nat} (hd : 1 ≤ d) (hT : TL h t) (hI : TI h t kd w L) (hi : i ≤ 8) (ht : t + 3 ≤ 46 ∨ 54 ≤ t) (hQ : ∀ h', TI h' t kd (lowerW w i) L → FrM h h' t → Q (some (.int (gBo (decide (llC w i ≠ 0))))) h') : V Γ mX3_lowerOnce d 124 124 h 0 [some (.ref 46), some (.ref t), some (.int (nI i))] [] Q := by
  have hl := llC_le w i
  have hw6 := hI.2.2.2.2.2.1
  obtain ⟨l0, l1, l2, lt, r2, r4⟩ := id hT
  refine V_aloadn0 dX3_lowerOnce_0 ?_
  refine V_aloadn1 dX3_lowerOnce_1 ?_
  refine V_iloadn2 dX3_lowerOnce_2 ?_
  refine V_callV2 (μ' := mX3_lookFromLeft) dX3_lowerOnce_3 okX3_lookFromLeft lX3_25 rfl (by first | assumption | rfl) (by first | decide | omega) (Nat.le_of_ble_eq_true rfl) (Nat.le_of_ble_eq_true rfl) (by omega) ?_
  refine c_lookLeft hT hI (by omega) (by omega) (fun h2 y1 y3 y0 y2 f2 => ?_)
  have r2' : gR h2 t 2 = some (t + 1) := by rw [f2.2.2]; exact r2
  dsimp only [gPush]
  refine V_aloadn0 dX3_lowerOnce_6 ?_
  refine V_getI dX3_lowerOnce_7 fX3_36 (Or.inl rfl) (by first | assumption | rfl) (by first | decide | omega) (by first | assumption | rfl) ?_
  refine V_if_ge (tgt := 15) dX3_lowerOnce_10 (by decide) (fun c10 => ?_) (fun c10 => ?_)
  · skip
    have e0 : ¬ llC w i = 0 := fun q => absurd ((gdec_lt (by omega)).mpr q) (Int32.not_lt.mpr c10)
    have e1 : nI (llC w i) - nI 1 = nI (llC w i - 1) := pk_sub (by omega)
    rw [e1] at y3
    have hQ := hQ (sI h2 (t + 1) (llC w i - 1) (nI (i + 1))) (by unfold lowerW; rw [if_neg e0]; exact TI_set (TI_fr hI f2 (by omega)) (by omega) (by omega)) ((f2.toM (Or.inl ⟨by omega, by omega⟩)).tr ((fr_sI (lo := t) (hi := t + 3) Fr1.rf (by omega) (by omega)).toM (Or.inr ⟨by omega, by omega⟩)))
    rw [decide_eq_true e0, gBo_t] at hQ
    refine V_aloadn1 dX3_lowerOnce_15 ?_
    refine V_getR dX3_lowerOnce_16 fX3_42 (by first | assumption | rfl) (by first | decide | omega) (by first | assumption | rfl) ?_
    refine V_aloadn0 dX3_lowerOnce_19 ?_
    refine V_getI dX3_lowerOnce_20 fX3_36 (Or.inl rfl) (by first | assumption | rfl) (by first | decide | omega) (by first | assumption | rfl) ?_
    refine V_iloadn2 dX3_lowerOnce_23 ?_
    refine V_iconst (v := nI 1) dX3_lowerOnce_24 (by decide) ?_
    first | refine U_iadd dX3_lowerOnce_25 (by with_reducible rfl) (by with_reducible rfl) ?_ | refine V_iadd dX3_lowerOnce_25 ?_
    refine U_iast dX3_lowerOnce_26 (by with_reducible rfl) (by first | assumption | rfl) (by first | decide | omega) (by omega) ?_
    refine V_iconst (v := nI 1) dX3_lowerOnce_27 (by decide) ?_
    refine V_iret dX3_lowerOnce_28 rfl (by first | exact gBo_nar _ | rfl | decide) ?_
    exact hQ
  · skip
    have e0 : llC w i = 0 := (gdec_lt (by omega)).mp (Int32.not_le.mp c10)
    have hQ := hQ h2 (by unfold lowerW; rw [if_pos e0]; exact TI_fr hI f2 (by omega)) (f2.toM (Or.inl ⟨by omega, by omega⟩))
    rw [decide_eq_false (fun q => q e0), gBo_f] at hQ
    refine V_iconst (v := nI 0) dX3_lowerOnce_13 (by decide) ?_
    refine V_iret dX3_lowerOnce_14 rfl (by first | exact gBo_nar _ | rfl | decide) ?_
    exact hQ
theorem timesN {x : Int32} {n k : Nat} (hx : x = nI n ∨ (x ≤ 0 ∧ n = 0)) (hn : n < 2 ^ 31) (hk : k ≤ n) : x ≤ nI k ↔ n ≤ k := by
  rcases hx with rfl | ⟨h1, rfl⟩
  · exact nI_leI hn (by omega)
  · refine ⟨fun _ => Nat.zero_le _, fun _ => ?_⟩
    have : k = 0 := by omega
    subst this
    exact h1
set_option maxRecDepth 100000 in
set_option maxHeartbeats 4000000 in
theorem c_raiseTimes {kd i n : Nat} {x : Int32} {w L : List Nat} (hd : 2 ≤ d) (hT : TL h t) (hI : TI h t kd w L) (hi : i ≤ 8) (ht : t + 3 ≤ 46 ∨ 54 ≤ t) (hx : x = nI n ∨ (x ≤ 0 ∧ n = 0)) (hn : n < 100) (hQ : ∀ h', TI h' t kd (rIt w i n) L → FrM h h' t → Q none h') : V Γ mX3_raiseTimes d 124 124 h 0 [some (.ref 46), some (.ref t), some (.int (nI i)), some (.int x), none] [] Q := by
  have loop : ∀ k m h1, n - m = k → m ≤ n → TI h1 t kd (rIt w i m) L → FrM h h1 t → V Γ mX3_raiseTimes d 124 124 h1 3 [some (.ref 46), some (.ref t), some (.int (nI i)), some (.int x), some (.int (nI m))] [] Q := by
    intro k
    induction k using Nat.strongRecOn with
    | _ k ih =>
      intro m h1 hk hm hI1 hF1
      have hc := timesN hx (by omega) hm
      refine V_iloadw4 dX3_raiseTimes_3 ?_
      refine V_iloadn3 dX3_raiseTimes_5 ?_
      refine V_icmp_ge (tgt := 22) dX3_raiseTimes_6 (by decide) (fun c6 => ?_) (fun c6 => ?_)
      · skip
        have e : m = n := by have := hc.mp c6; omega
        subst e
        refine V_ret dX3_raiseTimes_22 rfl ?_
        exact hQ h1 hI1 hF1
      have c6' : m < n := Nat.not_le.mp (fun q => c6 (hc.mpr q))
      refine V_aloadn0 dX3_raiseTimes_9 ?_
      refine V_aloadn1 dX3_raiseTimes_10 ?_
      refine V_iloadn2 dX3_raiseTimes_11 ?_
      refine V_callV2 (μ' := mX3_raiseOnce) dX3_raiseTimes_12 okX3_raiseOnce lX3_52 rfl (by first | assumption | rfl) (by first | decide | omega) (Nat.le_of_ble_eq_true rfl) (Nat.le_of_ble_eq_true rfl) (by omega) ?_
      refine c_raiseOnce (by omega) (TL_fr hT hF1.2.2) hI1 hi ht (fun h2 hI2 hF2 => ?_)
      dsimp only [gPush]
      refine V_popi dX3_raiseTimes_15 ?_
      refine V_iinc4 dX3_raiseTimes_16 (by first | exact ginc1 _ | rfl) (by decide) rfl ?_
      refine V_goto (tgt := 3) dX3_raiseTimes_19 (by decide) ?_
      exact ih (n - (m + 1)) (by omega) (m + 1) h2 rfl (by omega) hI2 (hF1.tr hF2)
  refine V_iconst (v := nI 0) dX3_raiseTimes_0 (by decide) ?_
  refine V_istorew4 dX3_raiseTimes_1 (by decide) rfl ?_
  exact loop _ 0 h rfl (by omega) hI FrM.rf
set_option maxRecDepth 100000 in
set_option maxHeartbeats 4000000 in
theorem c_lowerTimes {kd i n : Nat} {x : Int32} {w L : List Nat} (hd : 2 ≤ d) (hT : TL h t) (hI : TI h t kd w L) (hi : i ≤ 8) (ht : t + 3 ≤ 46 ∨ 54 ≤ t) (hx : x = nI n ∨ (x ≤ 0 ∧ n = 0)) (hn : n < 100) (hQ : ∀ h', TI h' t kd (lIt w i n) L → FrM h h' t → Q none h') : V Γ mX3_lowerTimes d 124 124 h 0 [some (.ref 46), some (.ref t), some (.int (nI i)), some (.int x), none] [] Q := by
  have loop : ∀ k m h1, n - m = k → m ≤ n → TI h1 t kd (lIt w i m) L → FrM h h1 t → V Γ mX3_lowerTimes d 124 124 h1 3 [some (.ref 46), some (.ref t), some (.int (nI i)), some (.int x), some (.int (nI m))] [] Q := by
    intro k
    induction k using Nat.strongRecOn with
    | _ k ih =>
      intro m h1 hk hm hI1 hF1
      have hc := timesN hx (by omega) hm
      refine V_iloadw4 dX3_lowerTimes_3 ?_
      refine V_iloadn3 dX3_lowerTimes_5 ?_
      refine V_icmp_ge (tgt := 22) dX3_lowerTimes_6 (by decide) (fun c6 => ?_) (fun c6 => ?_)
      · skip
        have e : m = n := by have := hc.mp c6; omega
        subst e
        refine V_ret dX3_lowerTimes_22 rfl ?_
        exact hQ h1 hI1 hF1
      have c6' : m < n := Nat.not_le.mp (fun q => c6 (hc.mpr q))
      refine V_aloadn0 dX3_lowerTimes_9 ?_
      refine V_aloadn1 dX3_lowerTimes_10 ?_
      refine V_iloadn2 dX3_lowerTimes_11 ?_
      refine V_callV2 (μ' := mX3_lowerOnce) dX3_lowerTimes_12 okX3_lowerOnce lX3_56 rfl (by first | assumption | rfl) (by first | decide | omega) (Nat.le_of_ble_eq_true rfl) (Nat.le_of_ble_eq_true rfl) (by omega) ?_
      refine c_lowerOnce (by omega) (TL_fr hT hF1.2.2) hI1 hi ht (fun h2 hI2 hF2 => ?_)
      dsimp only [gPush]
      refine V_popi dX3_lowerTimes_15 ?_
      refine V_iinc4 dX3_lowerTimes_16 (by first | exact ginc1 _ | rfl) (by decide) rfl ?_
      refine V_goto (tgt := 3) dX3_lowerTimes_19 (by decide) ?_
      exact ih (n - (m + 1)) (by omega) (m + 1) h2 rfl (by omega) hI2 (hF1.tr hF2)
  refine V_iconst (v := nI 0) dX3_lowerTimes_0 (by decide) ?_
  refine V_istorew4 dX3_lowerTimes_1 (by decide) rfl ?_
  exact loop _ 0 h rfl (by omega) hI FrM.rf
theorem subN {a b : Nat} (ha : a ≤ 6) (hb : b ≤ 6) : nI a - nI b = nI (a - b) ∨ (nI a - nI b ≤ 0 ∧ a - b = 0) := by
  rcases Nat.lt_or_ge a b with hlt | hge
  · exact Or.inr ⟨Int32.le_of_lt (pk_sneg (by omega) hlt), by omega⟩
  · exact Or.inl (pk_sub hge)
set_option maxRecDepth 100000 in
set_option maxHeartbeats 4000000 in
theorem c_moveAlong {kd i act : Nat} {w L : List Nat} (hd : 3 ≤ d) (hT : TL h t) (hI : TI h t kd w L) (hi : i ≤ 8) (ht : t + 3 ≤ 46 ∨ 54 ≤ t) (hact : act ≤ 9) (hQ : ∀ h', TI h' t kd (mvW act w i) L → FrM h h' t → Q none h') : V Γ mX3_moveAlong d 124 124 h 0 [some (.ref 46), some (.int (nI act)), some (.ref t), some (.int (nI i)), none, none] [] Q := by
  have hw6 := hI.2.2.2.2.2.1
  have b1 := lowC_le w i
  have b2 := highC_le w i
  refine V_aloadn0 dX3_moveAlong_0 ?_
  refine V_aloadn2 dX3_moveAlong_1 ?_
  refine V_iloadn3 dX3_moveAlong_2 ?_
  refine V_callV2 (μ' := mX3_look) dX3_moveAlong_3 okX3_look lX3_74 rfl (by first | assumption | rfl) (by first | decide | omega) (Nat.le_of_ble_eq_true rfl) (Nat.le_of_ble_eq_true rfl) (by omega) ?_
  refine c_look (by omega) hT hI hi (by omega) (fun h1 y0 y1 f1 => ?_)
  have hT1 := TL_fr hT f1.2.2
  have hI1 := TI_fr hI f1 (by omega)
  have m1 : FrM h h1 t := f1.toM (Or.inl ⟨by omega, by omega⟩)
  dsimp only [gPush]
  refine V_aloadn0 dX3_moveAlong_6 ?_
  refine V_getI dX3_moveAlong_7 fX3_32 (Or.inl rfl) (by first | assumption | rfl) (by first | decide | omega) (by first | assumption | rfl) ?_
  refine V_istorew4 dX3_moveAlong_10 (by decide) rfl ?_
  refine V_aloadn0 dX3_moveAlong_12 ?_
  refine V_getI dX3_moveAlong_13 fX3_46 (Or.inl rfl) (by first | assumption | rfl) (by first | decide | omega) (by first | assumption | rfl) ?_
  refine V_istorew5 dX3_moveAlong_16 (by decide) rfl ?_
  refine V_iloadn1 dX3_moveAlong_18 ?_
  refine V_iconst (v := nI 3) dX3_moveAlong_19 (by decide) ?_
  first | refine U_icmp_ne (tgt := 34) dX3_moveAlong_20 (by decide) (by with_reducible rfl) (by with_reducible rfl) (by omega) (by omega) (fun c20 => ?_) (fun c20 => ?_) | refine V_icmp_ne (tgt := 34) dX3_moveAlong_20 (by decide) (fun c20 => ?_) (fun c20 => ?_)
  · skip
    refine V_iloadn1 dX3_moveAlong_34 ?_
    refine V_iconst (v := nI 4) dX3_moveAlong_35 (by decide) ?_
    first | refine U_icmp_ne (tgt := 50) dX3_moveAlong_36 (by decide) (by with_reducible rfl) (by with_reducible rfl) (by omega) (by omega) (fun c36 => ?_) (fun c36 => ?_) | refine V_icmp_ne (tgt := 50) dX3_moveAlong_36 (by decide) (fun c36 => ?_) (fun c36 => ?_)
    · skip
      refine V_iloadn1 dX3_moveAlong_50 ?_
      refine V_iconst (v := nI 2) dX3_moveAlong_51 (by decide) ?_
      first | refine U_icmp_ne (tgt := 77) dX3_moveAlong_52 (by decide) (by with_reducible rfl) (by with_reducible rfl) (by omega) (by omega) (fun c52 => ?_) (fun c52 => ?_) | refine V_icmp_ne (tgt := 77) dX3_moveAlong_52 (by decide) (fun c52 => ?_) (fun c52 => ?_)
      · skip
        have e : mvW act w i = w := by unfold mvW; rw [if_neg c20, if_neg c36, if_neg c52]
        rw [e] at hQ
        have hI2 := hI1
        have hF2 : FrM h1 h1 t := FrM.rf
        refine V_ret dX3_moveAlong_77 rfl ?_
        exact hQ _ hI2 (m1.tr hF2)
      · skip
        have e : mvW act w i = rIt (lIt w i (lowC w i - highC w i)) i (highC w i - lowC w i) := by unfold mvW; rw [if_neg c20, if_neg c36, if_pos c52]
        rw [e] at hQ
        refine V_aloadn0 dX3_moveAlong_55 ?_
        refine V_aloadn2 dX3_moveAlong_56 ?_
        refine V_iloadn3 dX3_moveAlong_57 ?_
        refine V_iloadw4 dX3_moveAlong_58 ?_
        refine V_iloadw5 dX3_moveAlong_60 ?_
        refine V_isub dX3_moveAlong_62 ?_
        refine V_callV3 (μ' := mX3_lowerTimes) dX3_moveAlong_63 okX3_lowerTimes lX3_81 rfl (by first | assumption | rfl) (by first | decide | omega) (Nat.le_of_ble_eq_true rfl) (Nat.le_of_ble_eq_true rfl) (by omega) ?_
        refine c_lowerTimes (n := lowC w i - highC w i) (by omega) hT1 hI1 hi ht (subN (by omega) (by omega)) (by omega) (fun h2 hI2 hF2 => ?_)
        have m2 := m1.tr hF2
        dsimp only [gPush]
        refine V_aloadn0 dX3_moveAlong_66 ?_
        refine V_aloadn2 dX3_moveAlong_67 ?_
        refine V_iloadn3 dX3_moveAlong_68 ?_
        refine V_iloadw5 dX3_moveAlong_69 ?_
        refine V_iloadw4 dX3_moveAlong_71 ?_
        refine V_isub dX3_moveAlong_73 ?_
        refine V_callV3 (μ' := mX3_raiseTimes) dX3_moveAlong_74 okX3_raiseTimes lX3_77 rfl (by first | assumption | rfl) (by first | decide | omega) (Nat.le_of_ble_eq_true rfl) (Nat.le_of_ble_eq_true rfl) (by omega) ?_
        refine c_raiseTimes (n := highC w i - lowC w i) (by omega) (TL_fr hT m2.2.2) hI2 hi ht (subN (by omega) (by omega)) (by omega) (fun h3 hI3 hF3 => ?_)
        have hI2 := hI3
        have hF2 := hF2.tr hF3
        dsimp only [gPush]
        refine V_ret dX3_moveAlong_77 rfl ?_
        exact hQ _ hI2 (m1.tr hF2)
    · skip
      have e : mvW act w i = lIt w i (lowC w i) := by unfold mvW; rw [if_neg c20, if_pos c36]
      rw [e] at hQ
      refine V_aloadn0 dX3_moveAlong_39 ?_
      refine V_aloadn2 dX3_moveAlong_40 ?_
      refine V_iloadn3 dX3_moveAlong_41 ?_
      refine V_iloadw4 dX3_moveAlong_42 ?_
      refine V_callV3 (μ' := mX3_lowerTimes) dX3_moveAlong_44 okX3_lowerTimes lX3_81 rfl (by first | assumption | rfl) (by first | decide | omega) (Nat.le_of_ble_eq_true rfl) (Nat.le_of_ble_eq_true rfl) (by omega) ?_
      refine c_lowerTimes (n := lowC w i) (by omega) hT1 hI1 hi ht (Or.inl rfl) (by omega) (fun h2 hI2 hF2 => ?_)
      dsimp only [gPush]
      refine V_goto (tgt := 77) dX3_moveAlong_47 (by decide) ?_
      refine V_ret dX3_moveAlong_77 rfl ?_
      exact hQ _ hI2 (m1.tr hF2)
  · skip
    have e : mvW act w i = rIt w i (highC w i) := by unfold mvW; rw [if_pos c20]
    rw [e] at hQ
    refine V_aloadn0 dX3_moveAlong_23 ?_
    refine V_aloadn2 dX3_moveAlong_24 ?_
    refine V_iloadn3 dX3_moveAlong_25 ?_
    refine V_iloadw5 dX3_moveAlong_26 ?_
    refine V_callV3 (μ' := mX3_raiseTimes) dX3_moveAlong_28 okX3_raiseTimes lX3_77 rfl (by first | assumption | rfl) (by first | decide | omega) (Nat.le_of_ble_eq_true rfl) (Nat.le_of_ble_eq_true rfl) (by omega) ?_
    refine c_raiseTimes (n := highC w i) (by omega) hT1 hI1 hi ht (Or.inl rfl) (by omega) (fun h2 hI2 hF2 => ?_)
    dsimp only [gPush]
    refine V_goto (tgt := 77) dX3_moveAlong_31 (by decide) ?_
    refine V_ret dX3_moveAlong_77 rfl ?_
    exact hQ _ hI2 (m1.tr hF2)
/-- nothing has changed but ints of the moves' cells, its grid's, and of the thing at t -/
def FrP (h h' : gH) (t : Nat) : Prop := (∀ a, a < 46 ∨ 54 ≤ a → a < t ∨ t + 3 ≤ a → gI h' a = gI h a) ∧ gL h' = gL h ∧ gR h' = gR h
theorem FrP.rf : FrP h h t := ⟨fun _ _ _ => rfl, rfl, rfl⟩
theorem FrP.tr {h' h'' : gH} (a : FrP h h' t) (b : FrP h' h'' t) : FrP h h'' t := ⟨fun q h1 h2 => (b.1 q h1 h2).trans (a.1 q h1 h2), b.2.1.trans a.2.1, b.2.2.trans a.2.2⟩
theorem Fr1.toP {h' : gH} {lo hi : Nat} (a : Fr1 h h' lo hi) (hl : (46 ≤ lo ∧ hi ≤ 54) ∨ (t ≤ lo ∧ hi ≤ t + 3)) : FrP h h' t := ⟨fun q h1 h2 => a.1 q (by omega), a.2.1, a.2.2⟩
theorem FrM.toP {h' : gH} (a : FrM h h' t) : FrP h h' t := ⟨fun q h1 h2 => a.1 q (by omega) h2, a.2.1, a.2.2⟩
theorem TI_frM {h' : gH} {o kd : Nat} {w L : List Nat} (hI : TI h o kd w L) (f : FrM h h' t) (ho : o + 3 ≤ t ∨ t + 3 ≤ o) (ho2 : o + 3 ≤ 46 ∨ 47 ≤ o) : TI h' o kd w L := by
  obtain ⟨i0, i1, i3, iw, iL, r⟩ := hI
  have e0 := f.1 o (by omega) (by omega)
  have e1 := f.1 (o + 1) (by omega) (by omega)
  have e2 := f.1 (o + 2) (by omega) (by omega)
  exact ⟨by rw [e0]; exact i0, by rw [e0]; exact i1, by rw [e0]; exact i3, fun p hp => by rw [e1]; exact iw p hp, fun p hp => by rw [e2]; exact iL p hp, r⟩
theorem TI_frP {h' : gH} {o kd : Nat} {w L : List Nat} (hI : TI h o kd w L) (f : FrP h h' t) (ho : o + 3 ≤ t ∨ t + 3 ≤ o) (ho2 : o + 3 ≤ 46 ∨ 54 ≤ o) : TI h' o kd w L := by
  obtain ⟨i0, i1, i3, iw, iL, r⟩ := hI
  have e0 := f.1 o (by omega) (by omega)
  have e1 := f.1 (o + 1) (by omega) (by omega)
  have e2 := f.1 (o + 2) (by omega) (by omega)
  exact ⟨by rw [e0]; exact i0, by rw [e0]; exact i1, by rw [e0]; exact i3, fun p hp => by rw [e1]; exact iw p hp, fun p hp => by rw [e2]; exact iL p hp, r⟩
/-- the moves' own rows in the layout -/
def ML (h : gH) : Prop := gR h 46 4 = some 47 ∧ gR h 46 5 = some 50 ∧ TL h 47 ∧ GLay h 50
theorem ML_fr {h' : gH} (a : ML h) (e : gR h' = gR h) : ML h' := ⟨by rw [e]; exact a.1, by rw [e]; exact a.2.1, TL_fr a.2.2.1 e, GLay_fr a.2.2.2 e⟩
set_option maxRecDepth 100000 in
set_option maxHeartbeats 4000000 in
theorem c_turn {kd n : Nat} {w L : List Nat} (hd : 4 ≤ d) (hM : ML h) (hT : TL h t) (hI : TI h t kd w L) (hB : TI h 47 kd w L) (ht : t + 3 ≤ 46 ∨ 54 ≤ t) (hn : n ≤ 5) (hw : ∀ p, p < w.length → w.getD p 0 ≤ n) (hQ : ∀ h', TI h' t kd (turnW kd w L n).1 (turnW kd w L n).2 → TI h' 47 kd w L → FrP h h' t → Q none h') : V Γ mX3_turn d 124 124 h 0 [some (.ref 46), some (.ref t), some (.int (nI n)), none] [] Q := by
  obtain ⟨m4, m5, mT, mG⟩ := id hM
  obtain ⟨l0, l1, l2, lt, r2, r4⟩ := id hT
  obtain ⟨b0, b1, b3, bw, bL, bwl, bLl, bwb, bLb, bk⟩ := id hB
  have hb2 : gR h 47 2 = some 48 := mT.2.2.2.2.1
  have loop : ∀ k p h1, w.length - p = k → p ≤ w.length → (∀ j, j < p → gI h1 (t + 1) j = nI ((twF w n).getD j 0)) → Fr1 h h1 (t + 1) (t + 2) → V Γ mX3_turn d 124 124 h1 2 [some (.ref 46), some (.ref t), some (.int (nI n)), some (.int (nI p))] [] Q := by
    intro k
    induction k using Nat.strongRecOn with
    | _ k ih =>
      intro p h1 hk hp hj hF
      have m4' : gR h1 46 4 = some 47 := by rw [hF.2.2]; exact m4
      have m5' : gR h1 46 5 = some 50 := by rw [hF.2.2]; exact m5
      have r2' : gR h1 t 2 = some (t + 1) := by rw [hF.2.2]; exact r2
      have hb2' : gR h1 47 2 = some 48 := by rw [hF.2.2]; exact hb2
      have e0 : ∀ b, gI h1 t b = gI h t b := fun b => by rw [hF.1 t (by omega)]
      obtain ⟨i0, i1, i3, iw, iL, iwl, iLl, iwb, iLb, ik⟩ := id hI
      have s1 : gI h1 t 1 = nI w.length := by rw [e0]; exact i1
      have s0 : gI h1 t 0 = nI kd := by rw [e0]; exact i0
      have bw' : ∀ j, j < w.length → gI h1 48 j = nI (w.getD j 0) := fun j hj => by rw [hF.1 48 (by omega)]; exact bw j hj
      have hwl : p < w.length → w.getD (w.length - 1 - p) 0 ≤ n := fun q => hw _ (by omega)
      have hB1 : TI h1 47 kd w L := TI_fr hB hF (by omega)
      have hfin : p = w.length → TI h1 t kd (twF w n) L := fun e => by
        refine ⟨s0, by rw [twF_len]; exact s1, by rw [e0]; exact i3, fun j q => hj j (by rw [twF_len] at q; omega), fun r hr => by rw [hF.1 (t + 2) (by omega)]; exact iL r hr, by rw [twF_len]; exact iwl, iLl, fun j => ?_, iLb, ik⟩
        by_cases hjl : j < w.length
        · rw [twF_get hjl]; omega
        · rw [getD_out (by rw [twF_len]; omega)]; omega
      refine V_iloadn3 dX3_turn_2 ?_
      refine V_aloadn1 dX3_turn_3 ?_
      refine V_getI dX3_turn_4 fX3_39 (Or.inl rfl) (by first | assumption | rfl) (by first | decide | omega) (by first | assumption | exact bw' _ (by omega) | rfl) ?_
      first | refine U_icmp_ge (tgt := 42) dX3_turn_7 (by decide) (by with_reducible rfl) (by with_reducible rfl) (by omega) (by omega) (fun c7 => ?_) (fun c7 => ?_) | refine V_icmp_ge (tgt := 42) dX3_turn_7 (by decide) (fun c7 => ?_) (fun c7 => ?_)
      · skip
        have e : p = w.length := by omega
        have hI1 := hfin e
        refine V_aloadn1 dX3_turn_42 ?_
        refine V_getI dX3_turn_43 fX3_84 (Or.inl rfl) (by first | assumption | rfl) (by first | decide | omega) (by first | assumption | exact bw' _ (by omega) | rfl) ?_
        refine V_iconst (v := nI 2) dX3_turn_46 (by decide) ?_
        first | refine U_icmp_ne (tgt := 66) dX3_turn_47 (by decide) (by with_reducible rfl) (by with_reducible rfl) (by omega) (by omega) (fun c47 => ?_) (fun c47 => ?_) | refine V_icmp_ne (tgt := 66) dX3_turn_47 (by decide) (fun c47 => ?_) (fun c47 => ?_)
        · skip
          have et : turnW kd w L n = (twF w n, L) := by unfold turnW; rw [if_neg c47]
          rw [et] at hQ
          refine V_ret dX3_turn_66 rfl ?_
          first | exact hQ _ hI1 hB1 (hF.toP (Or.inr ⟨by omega, by omega⟩)) | exact hQ _ (by rw [twF_len] at hI3; rw [c47]; exact hI3) (TI_fr (TI_fr hB1 hF2 (by omega)) hF3 (by omega)) (((hF.toP (Or.inr ⟨by omega, by omega⟩)).tr (hF2.toP (Or.inl ⟨by omega, by omega⟩))).tr (hF3.toP (Or.inr ⟨by omega, by omega⟩)))
        · skip
          have et : turnW kd w L n = (rdL (insW (twF w n) w.length), (insW (twF w n) w.length).map List.length) := by unfold turnW; rw [if_pos c47]
          rw [et] at hQ
          refine V_aloadn0 dX3_turn_50 ?_
          refine V_getR dX3_turn_51 fX3_21 (by first | assumption | rfl) (by first | decide | omega) (by first | assumption | exact bw' _ (by omega) | rfl) ?_
          refine V_aloadn1 dX3_turn_54 ?_
          refine V_callV1 (μ' := mX2_insertAll) dX3_turn_55 okX2_insertAll lX3_87 rfl (by first | assumption | rfl) (by first | decide | omega) (Nat.le_of_ble_eq_true rfl) (Nat.le_of_ble_eq_true rfl) (by omega) ?_
          refine c_insertAll (by omega) (GLay_fr mG hF.2.2) (TL_fr hT hF.2.2) hI1 (by omega) (fun h2 hG2 hF2 => ?_)
          have m5'' : gR h2 46 5 = some 50 := by rw [hF2.2.2]; exact m5'
          dsimp only [gPush]
          refine V_aloadn0 dX3_turn_58 ?_
          refine V_getR dX3_turn_59 fX3_21 (by first | assumption | rfl) (by first | decide | omega) (by first | assumption | exact bw' _ (by omega) | rfl) ?_
          refine V_aloadn1 dX3_turn_62 ?_
          refine V_callV1 (μ' := mX2_writeTo) dX3_turn_63 okX2_writeTo lX3_90 rfl (by first | assumption | rfl) (by first | decide | omega) (Nat.le_of_ble_eq_true rfl) (Nat.le_of_ble_eq_true rfl) (by omega) ?_
          refine c_writeTo (by omega) (GLay_fr mG (hF2.2.2.trans hF.2.2)) hG2 (TL_fr hT (hF2.2.2.trans hF.2.2)) (by omega) (fun h3 hI3 hF3 => ?_)
          dsimp only [gPush]
          refine V_ret dX3_turn_66 rfl ?_
          first | exact hQ _ hI1 hB1 (hF.toP (Or.inr ⟨by omega, by omega⟩)) | exact hQ _ (by rw [twF_len] at hI3; rw [c47]; exact hI3) (TI_fr (TI_fr hB1 hF2 (by omega)) hF3 (by omega)) (((hF.toP (Or.inr ⟨by omega, by omega⟩)).tr (hF2.toP (Or.inl ⟨by omega, by omega⟩))).tr (hF3.toP (Or.inr ⟨by omega, by omega⟩)))
      · skip
        have hwl := hwl (by omega)
        refine V_aloadn1 dX3_turn_10 ?_
        refine V_getR dX3_turn_11 fX3_42 (by first | assumption | rfl) (by first | decide | omega) (by first | assumption | exact bw' _ (by omega) | rfl) ?_
        refine V_iloadn3 dX3_turn_14 ?_
        refine V_iloadn2 dX3_turn_15 ?_
        refine V_iconst (v := nI 1) dX3_turn_16 (by decide) ?_
        first | refine U_iadd dX3_turn_17 (by with_reducible rfl) (by with_reducible rfl) ?_ | refine V_iadd dX3_turn_17 ?_
        refine V_aloadn0 dX3_turn_18 ?_
        refine V_getR dX3_turn_19 fX3_12 (by first | assumption | rfl) (by first | decide | omega) (by first | assumption | exact bw' _ (by omega) | rfl) ?_
        refine V_getR dX3_turn_22 fX3_42 (by first | assumption | rfl) (by first | decide | omega) (by first | assumption | exact bw' _ (by omega) | rfl) ?_
        refine V_aloadn1 dX3_turn_25 ?_
        refine V_getI dX3_turn_26 fX3_39 (Or.inl rfl) (by first | assumption | rfl) (by first | decide | omega) (by first | assumption | exact bw' _ (by omega) | rfl) ?_
        refine V_iconst (v := nI 1) dX3_turn_29 (by decide) ?_
        first | refine U_isub dX3_turn_30 (by with_reducible rfl) (by with_reducible rfl) (by omega) ?_ | refine V_isub dX3_turn_30 ?_
        refine V_iloadn3 dX3_turn_31 ?_
        first | refine U_isub dX3_turn_32 (by with_reducible rfl) (by with_reducible rfl) (by omega) ?_ | refine V_isub dX3_turn_32 ?_
        refine U_iald dX3_turn_33 (by with_reducible rfl) (by first | assumption | rfl) (by first | decide | omega) (by omega) (by first | assumption | exact bw' _ (by omega) | rfl) ?_
        first | refine U_isub dX3_turn_34 (by with_reducible rfl) (by with_reducible rfl) (by omega) ?_ | refine V_isub dX3_turn_34 ?_
        refine U_iast dX3_turn_35 (by with_reducible rfl) (by first | assumption | rfl) (by first | decide | omega) (by omega) ?_
        refine V_iinc3 dX3_turn_36 (by first | exact ginc1 _ | rfl) (by decide) rfl ?_
        refine V_goto (tgt := 2) dX3_turn_39 (by decide) ?_
        refine ih (w.length - (p + 1)) (by omega) (p + 1) _ rfl (by omega) (fun j hj2 => ?_) (fr_sI hF (by omega) (by omega))
        rw [gI_sI]
        by_cases ej : j = p
        · rw [if_pos ⟨rfl, ej⟩, ej, twF_get (by omega)]
        · rw [if_neg (fun q => ej q.2)]; exact hj j (by omega)
  refine V_iconst (v := nI 0) dX3_turn_0 (by decide) ?_
  refine V_istoren3 dX3_turn_1 (by decide) rfl ?_
  exact loop _ 0 h rfl (by omega) (fun j hj => absurd hj (Nat.not_lt_zero _)) Fr1.rf
end C18
