/-! ===== the class: fillings, what is allowed ===== -/
/-- what is allowed, letters 1 to 5 -/
def AlI (h : gH) (A : Nat → Nat) : Prop := ∀ x, 1 ≤ x → x ≤ 5 → gI h 68 x = nI (A x)
def AlN (h : gH) (n : Nat) (A : Nat → Nat) : Prop := ∀ x, 1 ≤ x → x ≤ n → gI h 68 x = nI (A x)
section C24
variable {Γ : gM} {d : Nat} {h : gH} {Q : Option Value → gH → Prop}
set_option maxRecDepth 100000 in
set_option maxHeartbeats 4000000 in
theorem c_allowAny (hd : 1 ≤ d) (hr : gR h 67 0 = some 68) (hQ : ∀ h', AlI h' (fun _ => 6) → Fr1 h h' 68 69 → Q none h') : V Γ mX1_allowAny d 124 124 h 0 [some (.ref 67)] [] Q := by
  refine V_aloadn0 dX1_allowAny_0 ?_
  refine V_getR dX1_allowAny_1 fX1_9 (by first | assumption | rfl) (by first | decide | omega) (by first | assumption | rfl) ?_
  refine V_bipush (v := nI 6) dX1_allowAny_4 (by decide) ?_
  refine V_callS2 (μ' := mJ7_fill_53178) dX1_allowAny_6 okJ7_fill_53178 lX1_28 (Nat.le_of_ble_eq_true rfl) (Nat.le_of_ble_eq_true rfl) (by omega) ?_
  refine c_fillI (n := 6) rfl (by decide) (fun h1 hk hF => ?_)
  dsimp only [gPush]
  refine V_ret dX1_allowAny_9 rfl ?_
  exact hQ h1 (fun x h1 h2 => hk x (by omega)) hF
set_option maxRecDepth 100000 in
set_option maxHeartbeats 4000000 in
theorem c_worthOneEach (hd : 1 ≤ d) (hr : gR h 67 1 = some 69) (hQ : ∀ h', (∀ x, x ≤ 5 → gI h' 69 x = nI 1) → Fr1 h h' 69 70 → Q none h') : V Γ mX1_worthOneEach d 124 124 h 0 [some (.ref 67)] [] Q := by
  refine V_aloadn0 dX1_worthOneEach_0 ?_
  refine V_getR dX1_worthOneEach_1 fX1_15 (by first | assumption | rfl) (by first | decide | omega) (by first | assumption | rfl) ?_
  refine V_iconst (v := nI 1) dX1_worthOneEach_4 (by decide) ?_
  refine V_callS2 (μ' := mJ7_fill_53178) dX1_worthOneEach_5 okJ7_fill_53178 lX1_28 (Nat.le_of_ble_eq_true rfl) (Nat.le_of_ble_eq_true rfl) (by omega) ?_
  refine c_fillI (n := 6) rfl (by decide) (fun h1 hk hF => ?_)
  dsimp only [gPush]
  refine V_ret dX1_worthOneEach_8 rfl ?_
  exact hQ h1 (fun x h1 => hk x (by omega)) hF
set_option maxRecDepth 100000 in
set_option maxHeartbeats 4000000 in
theorem c_worthAs (hd : 1 ≤ d) (hr : gR h 67 1 = some 69) (hQ : ∀ h', (∀ x, x ≤ 5 → gI h' 69 x = gI h 3 x) → Fr1 h h' 69 70 → Q none h') : V Γ mX1_worthAs d 124 124 h 0 [some (.ref 67), some (.ref 3)] [] Q := by
  refine V_aloadn1 dX1_worthAs_0 ?_
  refine V_iconst (v := nI 0) dX1_worthAs_1 (by decide) ?_
  refine V_aloadn0 dX1_worthAs_2 ?_
  refine V_getR dX1_worthAs_3 fX1_15 (by first | assumption | rfl) (by first | decide | omega) (by first | assumption | rfl) ?_
  refine V_iconst (v := nI 0) dX1_worthAs_6 (by decide) ?_
  refine V_bipush (v := nI 6) dX1_worthAs_7 (by decide) ?_
  first | refine U_copyI dX1_worthAs_9 (by with_reducible rfl) (by with_reducible rfl) (by with_reducible rfl) lX1_46 (by first | assumption | rfl) (by first | assumption | rfl) (by first | decide | omega) (by first | decide | omega) (by omega) (by omega) (Nat.le_of_ble_eq_true rfl) (by omega) ?_ | refine U_copyL dX1_worthAs_9 (by with_reducible rfl) (by with_reducible rfl) (by with_reducible rfl) lX1_46 (by first | assumption | rfl) (by first | assumption | rfl) (by first | decide | omega) (by first | decide | omega) (by omega) (by omega) (Nat.le_of_ble_eq_true rfl) (by omega) ?_
  refine V_ret dX1_worthAs_12 rfl ?_
  refine hQ _ (fun x hx => ?_) ⟨fun a ha => by rw [gI_sIa, if_neg (by omega)], rfl, rfl⟩
  rw [gI_sIa, if_pos rfl, pk_cpy_in (Nat.zero_le _) (by omega), show 0 + (x - 0) = x by omega]
set_option maxRecDepth 100000 in
set_option maxHeartbeats 4000000 in
theorem c_allowedInAll {n : Nat} {A : Nat → Nat} (hn : n ≤ 5) (hA : ∀ x, 1 ≤ x → x ≤ n → gI h 68 x = nI (A x)) (hA9 : ∀ x, A x ≤ 9) (hr : gR h 67 0 = some 68) (hQ : Q (some (.int (nI (sumF (fun i => A (i + 1)) n)))) h) : V Γ mX1_allowedInAll d 124 124 h 0 [some (.ref 67), some (.int (nI n)), none, none] [] Q := by
  have loop : ∀ k i, n - i = k → i ≤ n → V Γ mX1_allowedInAll d 124 124 h 4 [some (.ref 67), some (.int (nI n)), some (.int (nI (sumF (fun i => A (i + 1)) i))), some (.int (nI (i + 1)))] [] Q := by
    intro k
    induction k using Nat.strongRecOn with
    | _ k ih =>
      intro i hk hi
      refine V_iloadn3 dX1_allowedInAll_4 ?_
      refine V_iloadn1 dX1_allowedInAll_5 ?_
      first | refine U_icmp_gt (tgt := 24) dX1_allowedInAll_6 (by decide) (by with_reducible rfl) (by with_reducible rfl) (by omega) (by omega) (fun c6 => ?_) (fun c6 => ?_) | refine V_icmp_gt (tgt := 24) dX1_allowedInAll_6 (by decide) (fun c6 => ?_) (fun c6 => ?_)
      · skip
        have e : i = n := by omega
        subst e
        refine V_iloadn2 dX1_allowedInAll_24 ?_
        refine V_iret dX1_allowedInAll_25 rfl rfl ?_
        exact hQ
      · skip
        refine V_iloadn2 dX1_allowedInAll_9 ?_
        refine V_aloadn0 dX1_allowedInAll_10 ?_
        refine V_getR dX1_allowedInAll_11 fX1_9 (by first | assumption | rfl) (by first | decide | omega) (by first | assumption | exact hA _ (by omega) (by omega) | rfl) ?_
        refine V_iloadn3 dX1_allowedInAll_14 ?_
        refine U_iald dX1_allowedInAll_15 (by with_reducible rfl) (by first | assumption | rfl) (by first | decide | omega) (by omega) (by first | assumption | exact hA _ (by omega) (by omega) | rfl) ?_
        first | refine U_iadd dX1_allowedInAll_16 (by with_reducible rfl) (by with_reducible rfl) ?_ | refine V_iadd dX1_allowedInAll_16 ?_
        refine V_istoren2 dX1_allowedInAll_17 (by decide) rfl ?_
        refine V_iinc3 dX1_allowedInAll_18 (by first | exact ginc1 _ | rfl) (by decide) rfl ?_
        refine V_goto (tgt := 4) dX1_allowedInAll_21 (by decide) ?_
        exact ih (n - (i + 1)) (by omega) (i + 1) rfl (by omega)
  refine V_iconst (v := nI 0) dX1_allowedInAll_0 (by decide) ?_
  refine V_istoren2 dX1_allowedInAll_1 (by decide) rfl ?_
  refine V_iconst (v := nI 1) dX1_allowedInAll_2 (by decide) ?_
  refine V_istoren3 dX1_allowedInAll_3 (by decide) rfl ?_
  exact loop _ 0 rfl (by omega)
/-- the digits tell a content of n letters -/
def coOk (D n : Nat) : Bool := decide (ndF 10 D ≤ n) && decide (sumF (fun i => D / 10 ^ (n - (i + 1)) % 10) n ≤ 6)
def coF (D n : Nat) : Nat → Nat := fun x => D / 10 ^ (n - x) % 10
set_option maxRecDepth 100000 in
set_option maxHeartbeats 4000000 in
theorem c_allowContent {D n : Nat} (hd : 1 ≤ d) (hD : D < 2 ^ 31) (hn : n ≤ 5) (hr : gR h 67 0 = some 68) (hQt : coOk D n = true → ∀ h', (∀ x, 1 ≤ x → x ≤ n → gI h' 68 x = nI (coF D n x)) → Fr1 h h' 68 69 → Q (some (.int (gBo true))) h') (hQf : coOk D n = false → ∀ h', Fr1 h h' 68 69 → Q (some (.int (gBo false))) h') : V Γ mX1_allowContent d 124 124 h 0 [some (.ref 67), some (.int (nI D)), some (.int (nI n)), none, none] [] Q := by
  have c9 : ∀ x, coF D n x ≤ 9 := fun x => by
    have := Nat.mod_lt (D / 10 ^ (n - x)) (by decide : 10 > 0)
    unfold coF
    omega
  have loop : ∀ q h1, q ≤ n → ndF 10 D ≤ n → (∀ x, q < x → x ≤ n → gI h1 68 x = nI (coF D n x)) → Fr1 h h1 68 69 → V Γ mX1_allowContent d 124 124 h1 19 [some (.ref 67), some (.int (nI D)), some (.int (nI n)), some (.int (nI (D / 10 ^ (n - q)))), some (.int (nI q))] [] Q := by
    intro q
    induction q with
    | zero =>
      intro h1 hq hnd hx hF
      have hr1 : gR h1 67 0 = some 68 := by rw [hF.2.2]; exact hr
      have hs : sumF (fun i => coF D n (i + 1)) n ≤ n * 9 := sumF_le (fun i => c9 (i + 1)) n
      have hco : coOk D n = decide (sumF (fun i => coF D n (i + 1)) n ≤ 6) := by unfold coOk; rw [decide_eq_true hnd, Bool.true_and]; rfl
      refine V_iloadw4 dX1_allowContent_19 ?_
      refine V_iconst (v := nI 1) dX1_allowContent_21 (by decide) ?_
      first | refine U_icmp_lt (tgt := 47) dX1_allowContent_22 (by decide) (by with_reducible rfl) (by with_reducible rfl) (by omega) (by omega) (fun c22 => ?_) (fun c22 => ?_) | refine V_icmp_lt (tgt := 47) dX1_allowContent_22 (by decide) (fun c22 => ?_) (fun c22 => ?_)
      · skip
        refine V_aloadn0 dX1_allowContent_47 ?_
        refine V_iloadn2 dX1_allowContent_48 ?_
        refine V_callV1 (μ' := mX1_allowedInAll) dX1_allowContent_49 okX1_allowedInAll lX1_38 rfl (by first | assumption | rfl) (by first | decide | omega) (Nat.le_of_ble_eq_true rfl) (Nat.le_of_ble_eq_true rfl) (by omega) ?_
        refine c_allowedInAll (A := coF D n) hn (fun x a b => hx x (by omega) b) c9 hr1 ?_
        dsimp only [gPush]
        refine V_bipush (v := nI 6) dX1_allowContent_52 (by decide) ?_
        first | refine U_icmp_gt (tgt := 61) dX1_allowContent_54 (by decide) (by with_reducible rfl) (by with_reducible rfl) (by omega) (by omega) (fun c54 => ?_) (fun c54 => ?_) | refine V_icmp_gt (tgt := 61) dX1_allowContent_54 (by decide) (fun c54 => ?_) (fun c54 => ?_)
        · skip
          rw [decide_eq_false (by omega)] at hco
          have hQ9 := hQf hco h1 hF
          refine V_iconst (v := nI 0) dX1_allowContent_61 (by decide) ?_
          refine V_iret dX1_allowContent_62 rfl (by first | exact gBo_nar _ | rfl | decide) ?_
          exact hQ9
        · skip
          rw [decide_eq_true (by omega)] at hco
          have hQ9 := hQt hco h1 (fun x a b => hx x (by omega) b) hF
          refine V_iconst (v := nI 1) dX1_allowContent_57 (by decide) ?_
          refine V_goto (tgt := 62) dX1_allowContent_58 (by decide) ?_
          refine V_iret dX1_allowContent_62 rfl (by first | exact gBo_nar _ | rfl | decide) ?_
          exact hQ9
      · skip
        omega
    | succ q ih =>
      intro h1 hq hnd hx hF
      have hr1 : gR h1 67 0 = some 68 := by rw [hF.2.2]; exact hr
      have hxx : D / 10 ^ (n - (q + 1)) < 2 ^ 31 := Nat.lt_of_le_of_lt (Nat.div_le_self _ _) hD
      have hnext : D / 10 ^ (n - (q + 1)) / 10 = D / 10 ^ (n - q) := by rw [Nat.div_div_eq_div_mul, ← Nat.pow_succ, show (n - (q + 1)).succ = n - q by omega]
      refine V_iloadw4 dX1_allowContent_19 ?_
      refine V_iconst (v := nI 1) dX1_allowContent_21 (by decide) ?_
      first | refine U_icmp_lt (tgt := 47) dX1_allowContent_22 (by decide) (by with_reducible rfl) (by with_reducible rfl) (by omega) (by omega) (fun c22 => ?_) (fun c22 => ?_) | refine V_icmp_lt (tgt := 47) dX1_allowContent_22 (by decide) (fun c22 => ?_) (fun c22 => ?_)
      · skip
        omega
      · skip
        refine V_aloadn0 dX1_allowContent_25 ?_
        refine V_getR dX1_allowContent_26 fX1_9 (by first | assumption | rfl) (by first | decide | omega) (by first | assumption | rfl) ?_
        refine V_iloadw4 dX1_allowContent_29 ?_
        refine V_iloadn3 dX1_allowContent_31 ?_
        refine V_bipush (v := nI 10) dX1_allowContent_32 (by decide) ?_
        first | refine U_irem dX1_allowContent_34 (by with_reducible rfl) (by with_reducible rfl) (by omega) (by omega) (by omega) ?_ | refine V_irem dX1_allowContent_34 (by decide) ?_
        refine U_iast dX1_allowContent_35 (by with_reducible rfl) (by first | assumption | rfl) (by first | decide | omega) (by omega) ?_
        refine V_iloadn3 dX1_allowContent_36 ?_
        refine V_bipush (v := nI 10) dX1_allowContent_37 (by decide) ?_
        first | refine U_idiv dX1_allowContent_39 (by with_reducible rfl) (by with_reducible rfl) (by omega) (by omega) (by omega) ?_ | refine V_idiv dX1_allowContent_39 (by decide) ?_
        refine V_istoren3 dX1_allowContent_40 (by decide) rfl ?_
        refine V_iinc4 dX1_allowContent_41 (by exact gdec1 _) (by decide) rfl ?_
        refine V_goto (tgt := 19) dX1_allowContent_44 (by decide) ?_
        rw [hnext]
        refine ih _ (by omega) hnd (fun x a b => ?_) (fr_sI hF (by omega) (by omega))
        rw [gI_sI]
        by_cases e : x = q + 1
        · rw [if_pos ⟨rfl, e⟩, e]; rfl
        · rw [if_neg (fun z => e z.2)]; exact hx x (by omega) b
  refine V_iloadn1 dX1_allowContent_0 ?_
  refine V_if_lt (tgt := 12) dX1_allowContent_1 (by decide) (fun c1 => ?_) (fun c1 => ?_)
  · skip
    exact absurd c1 (nI_pos hD)
  · skip
    refine V_iloadn1 dX1_allowContent_4 ?_
    refine V_callSN1 (μ' := mX9_howManyDigits) dX1_allowContent_5 okX9_howManyDigits lX1_34 (Nat.le_of_ble_eq_true rfl) (Nat.le_of_ble_eq_true rfl) (by omega) ?_
    refine c_howManyDigits hD ?_
    have hnd10 := ndF_le 10 D
    dsimp only [gPush]
    refine V_iloadn2 dX1_allowContent_8 ?_
    first | refine U_icmp_le (tgt := 14) dX1_allowContent_9 (by decide) (by with_reducible rfl) (by with_reducible rfl) (by omega) (by omega) (fun c9 => ?_) (fun c9 => ?_) | refine V_icmp_le (tgt := 14) dX1_allowContent_9 (by decide) (fun c9 => ?_) (fun c9 => ?_)
    · skip
      refine V_iloadn1 dX1_allowContent_14 ?_
      refine V_istoren3 dX1_allowContent_15 (by decide) rfl ?_
      refine V_iloadn2 dX1_allowContent_16 ?_
      refine V_istorew4 dX1_allowContent_17 (by decide) rfl ?_
      have hs := loop n h (Nat.le_refl _) (by omega) (fun x a b => absurd a (by omega)) Fr1.rf
      rw [Nat.sub_self, Nat.pow_zero, Nat.div_one] at hs
      exact hs
    · skip
      have hc : coOk D n = false := by unfold coOk; rw [decide_eq_false (by omega), Bool.false_and]
      refine V_iconst (v := nI 0) dX1_allowContent_12 (by decide) ?_
      refine V_iret dX1_allowContent_13 rfl (by first | exact gBo_nar _ | rfl | decide) ?_
      exact hQf hc h Fr1.rf
end C24
