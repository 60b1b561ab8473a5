/-! ===== the class: things ===== -/
/-- a thing's places in the layout, its rows -/
def TL (h : gH) (t : Nat) : Prop := lay t = some (.inr 8) ∧ lay (t + 1) = some (.inl (0, 6)) ∧ lay (t + 2) = some (.inl (0, 6)) ∧ t + 2 < 124 ∧ gR h t 2 = some (t + 1) ∧ gR h t 4 = some (t + 2)
/-- what a thing holds: its kind, letters as read, lengths of its rows -/
def TI (h : gH) (t kd : Nat) (w L : List Nat) : Prop :=
  gI h t 0 = nI kd ∧ gI h t 1 = nI w.length ∧ gI h t 3 = nI L.length ∧ (∀ p, p < w.length → gI h (t + 1) p = nI (w.getD p 0)) ∧ (∀ r, r < L.length → gI h (t + 2) r = nI (L.getD r 0)) ∧ w.length ≤ 6 ∧ L.length ≤ 6 ∧ (∀ p, w.getD p 0 ≤ 9) ∧ (∀ r, L.getD r 0 ≤ 6) ∧ kd ≤ 2
/-- nothing has changed but ints of cells lo to hi -/
def Fr1 (h h' : gH) (lo hi : Nat) : Prop := (∀ a, a < lo ∨ hi ≤ a → gI h' a = gI h a) ∧ gL h' = gL h ∧ gR h' = gR h
def numF (w : List Nat) (s : Nat) : Nat → Nat
  | 0 => 0
  | n + 1 => numF w s n * 10 + w.getD (s + n) 0
def cntF (w : List Nat) (x : Nat) : Nat → Nat
  | 0 => 0
  | n + 1 => if w.getD n 0 = x then cntF w x n + 1 else cntF w x n
def conF (w : List Nat) : Nat → Nat
  | 0 => 0
  | n + 1 => conF w n * 10 + cntF w (n + 1) w.length
theorem cntF_le (w : List Nat) (x : Nat) : ∀ n, cntF w x n ≤ n
  | 0 => Nat.le_refl _
  | n + 1 => by
    have := cntF_le w x n
    unfold cntF
    split <;> omega
section C10
variable {Γ : gM} {d : Nat} {h : gH} {Q : Option Value → gH → Prop} {t : Nat}
set_option maxRecDepth 100000 in
set_option maxHeartbeats 4000000 in
theorem c_numberFrom {w : List Nat} {s n : Nat} (hT : TL h t) (hw : ∀ p, p < s + n → gI h (t + 1) p = nI (w.getD p 0)) (hs : s + n ≤ 6) (hQ : Q (some (.int (nI (numF w s n)))) h) :
    V Γ mX8_numberFrom d 124 124 h 0 [some (.ref t), some (.int (nI s)), some (.int (nI n)), none, none] [] Q := by
  obtain ⟨l0, l1, l2, lt, r2, r4⟩ := hT
  have loop : ∀ k i, n - i = k → i ≤ n → V Γ mX8_numberFrom d 124 124 h 5 [some (.ref t), some (.int (nI s)), some (.int (nI n)), some (.int (nI (numF w s i))), some (.int (nI (s + i)))] [] Q := by
    intro k
    induction k using Nat.strongRecOn with
    | _ k ih =>
      intro i hk hi
      refine V_iloadw4 dX8_numberFrom_5 ?_
      refine V_iloadn1 dX8_numberFrom_7 ?_
      refine V_iloadn2 dX8_numberFrom_8 ?_
      first | refine U_iadd dX8_numberFrom_9 (by with_reducible rfl) (by with_reducible rfl) ?_ | refine V_iadd dX8_numberFrom_9 ?_
      first | refine U_icmp_ge (tgt := 32) dX8_numberFrom_10 (by decide) (by with_reducible rfl) (by with_reducible rfl) (by omega) (by omega) (fun c10 => ?_) (fun c10 => ?_) | refine V_icmp_ge (tgt := 32) dX8_numberFrom_10 (by decide) (fun c10 => ?_) (fun c10 => ?_)
      · skip
        have e : i = n := by omega
        subst e
        refine V_iloadn3 dX8_numberFrom_32 ?_
        refine V_iret dX8_numberFrom_33 rfl rfl ?_
        exact hQ
      · skip
        refine V_iloadn3 dX8_numberFrom_13 ?_
        refine V_bipush (v := nI 10) dX8_numberFrom_14 (by decide) ?_
        first | refine U_imul dX8_numberFrom_16 (by with_reducible rfl) (by with_reducible rfl) ?_ | refine V_imul dX8_numberFrom_16 ?_
        refine V_aloadn0 dX8_numberFrom_17 ?_
        refine V_getR dX8_numberFrom_18 fX8_15 (by first | assumption | rfl) (by first | decide | omega) (by first | assumption | exact hw _ (by omega) | rfl) ?_
        refine V_iloadw4 dX8_numberFrom_21 ?_
        refine U_iald dX8_numberFrom_23 (by with_reducible rfl) (by first | assumption | rfl) (by first | decide | omega) (by omega) (by first | assumption | exact hw _ (by omega) | rfl) ?_
        first | refine U_iadd dX8_numberFrom_24 (by with_reducible rfl) (by with_reducible rfl) ?_ | refine V_iadd dX8_numberFrom_24 ?_
        refine V_istoren3 dX8_numberFrom_25 (by decide) rfl ?_
        refine V_iinc4 dX8_numberFrom_26 (by first | exact ginc1 _ | rfl) (by decide) rfl ?_
        refine V_goto (tgt := 5) dX8_numberFrom_29 (by decide) ?_
        exact ih (n - (i + 1)) (by omega) (i + 1) rfl (by omega)
  refine V_iconst (v := nI 0) dX8_numberFrom_0 (by decide) ?_
  refine V_istoren3 dX8_numberFrom_1 (by decide) rfl ?_
  refine V_iloadn1 dX8_numberFrom_2 ?_
  refine V_istorew4 dX8_numberFrom_3 (by decide) rfl ?_
  exact loop (n - 0) 0 rfl (by omega)
set_option maxRecDepth 100000 in
set_option maxHeartbeats 4000000 in
theorem c_number {kd : Nat} {w L : List Nat} (hd : 1 ≤ d) (hT : TL h t) (hI : TI h t kd w L) (hQ : Q (some (.int (nI (numF w 0 w.length)))) h) :
    V Γ mX8_number d 124 124 h 0 [some (.ref t)] [] Q := by
  obtain ⟨l0, l1, l2, lt, r2, r4⟩ := id hT
  obtain ⟨i0, i1, i3, iw, iL, iwl, iLl, iwb, iLb, ik⟩ := hI
  refine V_aloadn0 dX8_number_0 ?_
  refine V_iconst (v := nI 0) dX8_number_1 (by decide) ?_
  refine V_aloadn0 dX8_number_2 ?_
  refine V_getI dX8_number_3 fX8_22 (Or.inl rfl) (by first | assumption | rfl) (by first | decide | omega) (by first | assumption | rfl) ?_
  refine V_callV2 (μ' := mX8_numberFrom) dX8_number_6 okX8_numberFrom lX8_42 rfl (by first | assumption | rfl) (by first | decide | omega) (Nat.le_of_ble_eq_true rfl) (Nat.le_of_ble_eq_true rfl) (by omega) ?_
  refine c_numberFrom (w := w) hT (fun p hp => iw p (by omega)) (by omega) ?_
  dsimp only [gPush]
  refine V_iret dX8_number_9 rfl rfl ?_
  exact hQ
set_option maxRecDepth 100000 in
set_option maxHeartbeats 4000000 in
theorem c_becomeNothing (hT : TL h t) (hQ : Q none (sI (sI (sI h t 0 (nI 0)) t 1 (nI 0)) t 3 (nI 0))) : V Γ mX8_becomeNothing d 124 124 h 0 [some (.ref t)] [] Q := by
  obtain ⟨l0, l1, l2, lt, r2, r4⟩ := hT
  refine V_aloadn0 dX8_becomeNothing_0 ?_
  refine V_iconst (v := nI 0) dX8_becomeNothing_1 (by decide) ?_
  refine V_putI dX8_becomeNothing_2 fX8_11 (by first | assumption | rfl) (by first | decide | omega) ?_
  refine V_aloadn0 dX8_becomeNothing_5 ?_
  refine V_iconst (v := nI 0) dX8_becomeNothing_6 (by decide) ?_
  refine V_putI dX8_becomeNothing_7 fX8_22 (by first | assumption | rfl) (by first | decide | omega) ?_
  refine V_aloadn0 dX8_becomeNothing_10 ?_
  refine V_iconst (v := nI 0) dX8_becomeNothing_11 (by decide) ?_
  refine V_putI dX8_becomeNothing_12 fX8_25 (by first | assumption | rfl) (by first | decide | omega) ?_
  refine V_ret dX8_becomeNothing_15 rfl ?_
  exact hQ
set_option maxRecDepth 100000 in
set_option maxHeartbeats 4000000 in
theorem c_becomeWordOf {x : Int32} (hT : TL h t) (hQ : Q none (sI (sI (sI h t 0 (nI 1)) t 1 x) t 3 (nI 0))) : V Γ mX8_becomeWordOf d 124 124 h 0 [some (.ref t), some (.int x)] [] Q := by
  obtain ⟨l0, l1, l2, lt, r2, r4⟩ := hT
  refine V_aloadn0 dX8_becomeWordOf_0 ?_
  refine V_iconst (v := nI 1) dX8_becomeWordOf_1 (by decide) ?_
  refine V_putI dX8_becomeWordOf_2 fX8_11 (by first | assumption | rfl) (by first | decide | omega) ?_
  refine V_aloadn0 dX8_becomeWordOf_5 ?_
  refine V_iloadn1 dX8_becomeWordOf_6 ?_
  refine V_putI dX8_becomeWordOf_7 fX8_22 (by first | assumption | rfl) (by first | decide | omega) ?_
  refine V_aloadn0 dX8_becomeWordOf_10 ?_
  refine V_iconst (v := nI 0) dX8_becomeWordOf_11 (by decide) ?_
  refine V_putI dX8_becomeWordOf_12 fX8_25 (by first | assumption | rfl) (by first | decide | omega) ?_
  refine V_ret dX8_becomeWordOf_15 rfl ?_
  exact hQ
set_option maxRecDepth 100000 in
set_option maxHeartbeats 4000000 in
theorem c_becomeLike {o kd : Nat} {w L : List Nat} (hd : 1 ≤ d) (hT : TL h t) (hO : TL h o) (hI : TI h o kd w L) (hto : o + 3 ≤ t ∨ t + 3 ≤ o ∨ t = o) (hQ : ∀ h', TI h' t kd w L → Fr1 h h' t (t + 3) → Q none h') : V Γ mX8_becomeLike d 124 124 h 0 [some (.ref t), some (.ref o)] [] Q := by
  obtain ⟨l0, l1, l2, lt, r2, r4⟩ := hT
  obtain ⟨o0, o1, o2, ot, q2, q4⟩ := hO
  obtain ⟨i0, i1, i3, iw, iL, iwl, iLl, iwb, iLb, ik⟩ := hI
  have e1 : gI (sI h t 0 (nI kd)) o 1 = nI w.length := by rw [gI_sI, if_neg (by omega)]; exact i1
  have e3 : gI (sI (sI h t 0 (nI kd)) t 1 (nI w.length)) o 3 = nI L.length := by rw [gI_sI, if_neg (by omega), gI_sI, if_neg (by omega)]; exact i3
  generalize hh1 : sI (sI (sI h t 0 (nI kd)) t 1 (nI w.length)) t 3 (nI L.length) = h1
  have z1 : ∀ a b, a ≠ t → gI h1 a b = gI h a b := fun a b ha => by rw [← hh1, gI_sI, if_neg (by omega), gI_sI, if_neg (by omega), gI_sI, if_neg (by omega)]
  have z2 : gI h1 t 0 = nI kd ∧ gI h1 t 1 = nI w.length ∧ gI h1 t 3 = nI L.length := by
    rw [← hh1]
    simp [gI_sI]
  have z3 : gL h1 = gL h ∧ gR h1 = gR h := by rw [← hh1]; exact ⟨rfl, rfl⟩
  have z4 : gR h1 o 2 = some (o + 1) ∧ gR h1 o 4 = some (o + 2) ∧ gR h1 t 2 = some (t + 1) ∧ gR h1 t 4 = some (t + 2) := by rw [z3.2]; exact ⟨q2, q4, r2, r4⟩
  generalize hh2 : sIa h1 (t + 1) (va_cpy (gI h1 (o + 1)) (gI h1 (t + 1)) 0 0 w.length) = h2
  have y1 : gI h2 t 3 = nI L.length := by rw [← hh2, gI_sIa, if_neg (by omega)]; exact z2.2.2
  have y2 : gR h2 o 4 = some (o + 2) ∧ gR h2 t 4 = some (t + 2) := by rw [← hh2, gR_sIa]; exact ⟨z4.2.1, z4.2.2.2⟩
  obtain ⟨p1, p2, p3, p4⟩ := z4
  obtain ⟨s1, s2, s3⟩ := z2
  refine V_aloadn0 dX8_becomeLike_0 ?_
  refine V_aloadn1 dX8_becomeLike_1 ?_
  refine V_getI dX8_becomeLike_2 fX8_11 (Or.inl rfl) (by first | assumption | rfl) (by first | decide | omega) (by first | assumption | rfl) ?_
  refine V_putI dX8_becomeLike_5 fX8_11 (by first | assumption | rfl) (by first | decide | omega) ?_
  refine V_aloadn0 dX8_becomeLike_8 ?_
  refine V_aloadn1 dX8_becomeLike_9 ?_
  refine V_getI dX8_becomeLike_10 fX8_22 (Or.inl rfl) (by first | assumption | rfl) (by first | decide | omega) (by first | assumption | rfl) ?_
  refine V_putI dX8_becomeLike_13 fX8_22 (by first | assumption | rfl) (by first | decide | omega) ?_
  refine V_aloadn0 dX8_becomeLike_16 ?_
  refine V_aloadn1 dX8_becomeLike_17 ?_
  refine V_getI dX8_becomeLike_18 fX8_25 (Or.inl rfl) (by first | assumption | rfl) (by first | decide | omega) (by first | assumption | rfl) ?_
  refine V_putI dX8_becomeLike_21 fX8_25 (by first | assumption | rfl) (by first | decide | omega) ?_
  rw [hh1]
  refine V_aloadn1 dX8_becomeLike_24 ?_
  refine V_getR dX8_becomeLike_25 fX8_15 (by first | assumption | rfl) (by first | decide | omega) (by first | assumption | rfl) ?_
  refine V_iconst (v := nI 0) dX8_becomeLike_28 (by decide) ?_
  refine V_aloadn0 dX8_becomeLike_29 ?_
  refine V_getR dX8_becomeLike_30 fX8_15 (by first | assumption | rfl) (by first | decide | omega) (by first | assumption | rfl) ?_
  refine V_iconst (v := nI 0) dX8_becomeLike_33 (by decide) ?_
  refine V_aloadn0 dX8_becomeLike_34 ?_
  refine V_getI dX8_becomeLike_35 fX8_22 (Or.inl rfl) (by first | assumption | rfl) (by first | decide | omega) (by first | assumption | rfl) ?_
  first | refine U_copyI dX8_becomeLike_38 (by with_reducible rfl) (by with_reducible rfl) (by with_reducible rfl) lX8_36 (by first | assumption | rfl) (by first | assumption | rfl) (by first | decide | omega) (by first | decide | omega) (by omega) (by omega) (Nat.le_of_ble_eq_true rfl) (by omega) ?_ | refine U_copyL dX8_becomeLike_38 (by with_reducible rfl) (by with_reducible rfl) (by with_reducible rfl) lX8_36 (by first | assumption | rfl) (by first | assumption | rfl) (by first | decide | omega) (by first | decide | omega) (by omega) (by omega) (Nat.le_of_ble_eq_true rfl) (by omega) ?_
  rw [hh2]
  obtain ⟨y2, y3⟩ := y2
  refine V_aloadn1 dX8_becomeLike_41 ?_
  refine V_getR dX8_becomeLike_42 fX8_19 (by first | assumption | rfl) (by first | decide | omega) (by first | assumption | rfl) ?_
  refine V_iconst (v := nI 0) dX8_becomeLike_45 (by decide) ?_
  refine V_aloadn0 dX8_becomeLike_46 ?_
  refine V_getR dX8_becomeLike_47 fX8_19 (by first | assumption | rfl) (by first | decide | omega) (by first | assumption | rfl) ?_
  refine V_iconst (v := nI 0) dX8_becomeLike_50 (by decide) ?_
  refine V_aloadn0 dX8_becomeLike_51 ?_
  refine V_getI dX8_becomeLike_52 fX8_25 (Or.inl rfl) (by first | assumption | rfl) (by first | decide | omega) (by first | assumption | rfl) ?_
  first | refine U_copyI dX8_becomeLike_55 (by with_reducible rfl) (by with_reducible rfl) (by with_reducible rfl) lX8_36 (by first | assumption | rfl) (by first | assumption | rfl) (by first | decide | omega) (by first | decide | omega) (by omega) (by omega) (Nat.le_of_ble_eq_true rfl) (by omega) ?_ | refine U_copyL dX8_becomeLike_55 (by with_reducible rfl) (by with_reducible rfl) (by with_reducible rfl) lX8_36 (by first | assumption | rfl) (by first | assumption | rfl) (by first | decide | omega) (by first | decide | omega) (by omega) (by omega) (Nat.le_of_ble_eq_true rfl) (by omega) ?_
  refine V_ret dX8_becomeLike_58 rfl ?_
  skip
  refine hQ _ ⟨?_, ?_, ?_, fun p hp => ?_, fun r hr => ?_, iwl, iLl, iwb, iLb, ik⟩ ⟨fun a ha => ?_, ?_, ?_⟩
  · rw [gI_sIa, if_neg (by omega), ← hh2, gI_sIa, if_neg (by omega)]; exact s1
  · rw [gI_sIa, if_neg (by omega), ← hh2, gI_sIa, if_neg (by omega)]; exact s2
  · rw [gI_sIa, if_neg (by omega), ← hh2, gI_sIa, if_neg (by omega)]; exact s3
  · rw [gI_sIa, if_neg (by omega), ← hh2, gI_sIa, if_pos rfl, pk_cpy_in (Nat.zero_le _) (by omega), z1 _ _ (by omega), show 0 + (p - 0) = p by omega]
    exact iw p hp
  · rw [gI_sIa, if_pos rfl, pk_cpy_in (Nat.zero_le _) (by omega), ← hh2, gI_sIa, if_neg (by omega), z1 _ _ (by omega), show 0 + (r - 0) = r by omega]
    exact iL r hr
  · rw [gI_sIa, if_neg (by omega), ← hh2, gI_sIa, if_neg (by omega)]
    funext b
    exact z1 a b (by omega)
  · rw [gL_sIa, ← hh2, gL_sIa]; exact z3.1
  · rw [gR_sIa, ← hh2, gR_sIa]; exact z3.2
end C10
