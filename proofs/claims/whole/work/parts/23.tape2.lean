/-! ===== the class: acts and tableaux read from the tape ===== -/
def nmF (B : List Nat) (p e : Nat) : Nat → Nat → Option Nat
  | _, 0 => none
  | k, m + 1 => if nmB B p e k then some k else nmF B p e (k + 1) m
theorem nmF_lt (B : List Nat) (p e : Nat) : ∀ m k x, nmF B p e k m = some x → x < k + m
  | 0, k, x, h => by simp [nmF] at h
  | m + 1, k, x, h => by
    unfold nmF at h
    split at h
    · cases h; omega
    · have := nmF_lt B p e m (k + 1) x h; omega
def semF (B : List Nat) (a : Nat) : Bool × Nat := if skp B a < B.length ∧ B.getD (skp B a) 0 = 59 then (true, skp B a + 1) else (false, skp B a)
def stpF (B : List Nat) (n a : Nat) : Bool × Nat := if skp B a < B.length ∧ 49 ≤ B.getD (skp B a) 0 ∧ B.getD (skp B a) 0 ≤ 48 + (n - 1) then (true, skp B a + 1) else (false, skp B a)
/-- an act read: whether it is one; which, for which i; where it is then -/
def raF (B : List Nat) (n a : Nat) : Bool × Nat × Nat × Nat := match nmF B (skp B a) (eon B (skp B a)) 0 6 with
  | none => (false, 0, 0, skp B a)
  | some k => if k = 5 then ((semF B (eon B (skp B a))).1, 5, 0, (semF B (eon B (skp B a))).2) else if (stpF B n (eon B (skp B a))).1 then ((semF B (stpF B n (eon B (skp B a))).2).1, k, B.getD (skp B (eon B (skp B a))) 0 - 48, (semF B (stpF B n (eon B (skp B a))).2).2) else (false, 0, 0, (stpF B n (eon B (skp B a))).2)
section C23
variable {Γ : gM} {d : Nat} {h : gH} {Q : Option Value → gH → Prop}
set_option maxRecDepth 100000 in
set_option maxHeartbeats 4000000 in
theorem c_readsName {B : List Nat} {a : Nat} (hd : 5 ≤ d) (hr : gR h 43 4 = some 44) (hI : TpI h B a) (hQ : ∀ h', TpI h' B (match nmF B (skp B a) (eon B (skp B a)) 0 6 with | none => skp B a | some _ => eon B (skp B a)) → (∀ k, nmF B (skp B a) (eon B (skp B a)) 0 6 = some k → gI h' 43 2 = nI k) → Fr1 h h' 43 44 → Q (some (.int (gBo (nmF B (skp B a) (eon B (skp B a)) 0 6).isSome))) h') : V Γ mX7_readsName d 124 124 h 0 [some (.ref 43), none, none] [] Q := by
  have hp := skp_le (p := a) hI.2.2.2.2.2
  generalize hp0 : skp B a = p at hQ hp
  have he := eon_le hp
  have hep := eon_ge B p
  generalize he0 : eon B p = e at hQ he hep
  generalize hR : nmF B p e 0 6 = R at hQ
  have loop : ∀ m k h1, k + m = 6 → R = nmF B p e k m → TpI h1 B p → Fr1 h h1 43 44 → V Γ mX7_readsName d 124 124 h1 12 [some (.ref 43), some (.int (nI e)), some (.int (nI k))] [] Q := by
    intro m
    induction m with
    | zero =>
      intro k h1 hk hn hI1 hF1
      rw [nmF] at hn
      rw [hn] at hQ
      have hQ9 := hQ h1 hI1 (fun k hk => by cases hk) hF1
      refine V_iloadn2 dX7_readsName_12 ?_
      refine V_iconst (v := nI 5) dX7_readsName_13 (by decide) ?_
      first | refine U_icmp_gt (tgt := 47) dX7_readsName_14 (by decide) (by with_reducible rfl) (by with_reducible rfl) (by omega) (by omega) (fun c14 => ?_) (fun c14 => ?_) | refine V_icmp_gt (tgt := 47) dX7_readsName_14 (by decide) (fun c14 => ?_) (fun c14 => ?_)
      · skip
        refine V_iconst (v := nI 0) dX7_readsName_47 (by decide) ?_
        refine V_iret dX7_readsName_48 rfl (by first | exact gBo_nar _ | rfl | decide) ?_
        exact hQ9
      · skip
        omega
    | succ m ih =>
      intro k h1 hk hn hI1 hF1
      rw [nmF] at hn
      have hr1 : gR h1 43 4 = some 44 := by rw [hF1.2.2]; exact hr
      refine V_iloadn2 dX7_readsName_12 ?_
      refine V_iconst (v := nI 5) dX7_readsName_13 (by decide) ?_
      first | refine U_icmp_gt (tgt := 47) dX7_readsName_14 (by decide) (by with_reducible rfl) (by with_reducible rfl) (by omega) (by omega) (fun c14 => ?_) (fun c14 => ?_) | refine V_icmp_gt (tgt := 47) dX7_readsName_14 (by decide) (fun c14 => ?_) (fun c14 => ?_)
      · skip
        omega
      · skip
        refine V_aloadn0 dX7_readsName_17 ?_
        refine V_iloadn2 dX7_readsName_18 ?_
        refine V_callS1 (μ' := mX7_nameOf) dX7_readsName_19 okX7_nameOf lX7_65 (Nat.le_of_ble_eq_true rfl) (Nat.le_of_ble_eq_true rfl) (by omega) ?_
        refine c_nameOf (by omega) ?_
        dsimp only [gPush]
        refine V_iloadn1 dX7_readsName_22 ?_
        refine V_callV2 (μ' := mX7_isName) dX7_readsName_23 okX7_isName lX7_69 rfl (by first | assumption | rfl) (by first | decide | omega) (Nat.le_of_ble_eq_true rfl) (Nat.le_of_ble_eq_true rfl) (by omega) ?_
        refine c_isName (by omega) hr1 hI1 hep he (by omega) ?_
        dsimp only [gPush]
        first | refine U_ifB_eq (tgt := 41) dX7_readsName_26 (by decide) (by with_reducible rfl) (fun c26 => ?_) (fun c26 => ?_) | refine U_if_eq (tgt := 41) dX7_readsName_26 (by decide) (by with_reducible rfl) (by omega) (fun c26 => ?_) (fun c26 => ?_) | refine V_if_eq (tgt := 41) dX7_readsName_26 (by decide) (fun c26 => ?_) (fun c26 => ?_)
        · skip
          rw [if_neg (by rw [c26]; exact Bool.false_ne_true)] at hn
          refine V_iinc2 dX7_readsName_41 (by first | exact ginc1 _ | rfl) (by decide) rfl ?_
          refine V_goto (tgt := 12) dX7_readsName_44 (by decide) ?_
          exact ih (k + 1) h1 (by omega) hn hI1 hF1
        · skip
          rw [if_pos c26] at hn
          rw [hn] at hQ
          have e3 : Fr1 h (sI (sI h1 43 2 (nI k)) 43 1 (nI e)) 43 44 := fr_sI (fr_sI hF1 (by omega) (by omega)) (by omega) (by omega)
          have e4 : TpI (sI h1 43 2 (nI k)) B p := by
            obtain ⟨a0, a1, a2, a3, a4, a5⟩ := id hI1
            exact ⟨by rw [gI_sI, if_neg (by omega)]; exact a0, by rw [gI_sI, if_neg (by omega)]; exact a1, fun p hp => by rw [gI_sI, if_neg (by omega)]; exact a2 p hp, a3, a4, a5⟩
          have hQ9 := hQ _ (TpI_at e4 he) (fun k' hk' => by cases hk'; rw [gI_sI, if_neg (by omega), gI_sI, if_pos ⟨rfl, rfl⟩]) e3
          refine V_aloadn0 dX7_readsName_29 ?_
          refine V_iloadn2 dX7_readsName_30 ?_
          refine V_putI dX7_readsName_31 fX7_52 (by first | assumption | rfl) (by first | decide | omega) ?_
          refine V_aloadn0 dX7_readsName_34 ?_
          refine V_iloadn1 dX7_readsName_35 ?_
          refine V_putI dX7_readsName_36 fX7_19 (by first | assumption | rfl) (by first | decide | omega) ?_
          refine V_iconst (v := nI 1) dX7_readsName_39 (by decide) ?_
          refine V_iret dX7_readsName_40 rfl (by first | exact gBo_nar _ | rfl | decide) ?_
          exact hQ9
  refine V_aloadn0 dX7_readsName_0 ?_
  refine V_callV0 (μ' := mX7_goesOn) dX7_readsName_1 okX7_goesOn lX7_30 rfl (by first | assumption | rfl) (by first | decide | omega) (Nat.le_of_ble_eq_true rfl) (Nat.le_of_ble_eq_true rfl) (by omega) ?_
  refine c_goesOn hr hI (fun h1 hI1 z2 z3 hF1 => ?_)
  rw [hp0] at hI1
  have hr1 : gR h1 43 4 = some 44 := by rw [hF1.2.2]; exact hr
  dsimp only [gPush]
  refine V_popi dX7_readsName_4 ?_
  refine V_aloadn0 dX7_readsName_5 ?_
  refine V_callV0 (μ' := mX7_endOfName) dX7_readsName_6 okX7_endOfName lX7_61 rfl (by first | assumption | rfl) (by first | decide | omega) (Nat.le_of_ble_eq_true rfl) (Nat.le_of_ble_eq_true rfl) (by omega) ?_
  refine c_endOfName hr1 hI1 ?_
  rw [he0]
  dsimp only [gPush]
  refine V_istoren1 dX7_readsName_9 (by decide) rfl ?_
  refine V_iconst (v := nI 0) dX7_readsName_10 (by decide) ?_
  refine V_istoren2 dX7_readsName_11 (by decide) rfl ?_
  exact loop 6 0 h1 rfl hR.symm hI1 hF1
set_option maxRecDepth 100000 in
set_option maxHeartbeats 4000000 in
theorem c_readsSemicolon {B : List Nat} {a : Nat} (hd : 1 ≤ d) (hr : gR h 43 4 = some 44) (hI : TpI h B a) (hQ : ∀ h', TpI h' B (semF B a).2 → gI h' 43 2 = gI h 43 2 → gI h' 43 3 = gI h 43 3 → Fr1 h h' 43 44 → Q (some (.int (gBo (semF B a).1))) h') : V Γ mX7_readsSemicolon d 124 124 h 0 [some (.ref 43)] [] Q := by
  have hs : ∀ c, (semF B a) = c → semF B a = c := fun c q => q
  unfold semF at hQ
  refine V_aloadn0 dX7_readsSemicolon_0 ?_
  refine V_callV0 (μ' := mX7_goesOn) dX7_readsSemicolon_1 okX7_goesOn lX7_30 rfl (by first | assumption | rfl) (by first | decide | omega) (Nat.le_of_ble_eq_true rfl) (Nat.le_of_ble_eq_true rfl) (by omega) ?_
  refine c_goesOn hr hI (fun h1 hI1 z2 z3 hF1 => ?_)
  have hr1 : gR h1 43 4 = some 44 := by rw [hF1.2.2]; exact hr
  obtain ⟨a0, a1, a2, a3, a4, a5⟩ := id hI1
  have h4 := a4 (skp B a)
  dsimp only [gPush]
  first | refine U_ifB_eq (tgt := 21) dX7_readsSemicolon_4 (by decide) (by with_reducible rfl) (fun c4 => ?_) (fun c4 => ?_) | refine U_if_eq (tgt := 21) dX7_readsSemicolon_4 (by decide) (by with_reducible rfl) (by omega) (fun c4 => ?_) (fun c4 => ?_) | refine V_if_eq (tgt := 21) dX7_readsSemicolon_4 (by decide) (fun c4 => ?_) (fun c4 => ?_)
  · skip
    have c4 := of_decide_eq_false c4
    rw [if_neg (fun q => c4 q.1)] at hQ
    have hQ9 := hQ h1 hI1 z2 z3 hF1
    refine V_iconst (v := nI 0) dX7_readsSemicolon_21 (by decide) ?_
    refine V_iret dX7_readsSemicolon_22 rfl (by first | exact gBo_nar _ | rfl | decide) ?_
    exact hQ9
  · skip
    have c4 := of_decide_eq_true c4
    refine V_aloadn0 dX7_readsSemicolon_7 ?_
    refine V_getR dX7_readsSemicolon_8 fX7_9 (by first | assumption | rfl) (by first | decide | omega) (by first | assumption | exact a2 _ c4 | rfl) ?_
    refine V_aloadn0 dX7_readsSemicolon_11 ?_
    refine V_getI dX7_readsSemicolon_12 fX7_19 (Or.inl rfl) (by first | assumption | rfl) (by first | decide | omega) (by first | assumption | exact a2 _ c4 | rfl) ?_
    refine U_iald dX7_readsSemicolon_15 (by with_reducible rfl) (by first | assumption | rfl) (by first | decide | omega) (by omega) (by first | assumption | exact a2 _ c4 | rfl) ?_
    refine V_bipush (v := nI 59) dX7_readsSemicolon_16 (by decide) ?_
    first | refine U_icmp_eq (tgt := 23) dX7_readsSemicolon_18 (by decide) (by with_reducible rfl) (by with_reducible rfl) (by omega) (by omega) (fun c18 => ?_) (fun c18 => ?_) | refine V_icmp_eq (tgt := 23) dX7_readsSemicolon_18 (by decide) (fun c18 => ?_) (fun c18 => ?_)
    · skip
      rw [if_pos ⟨c4, c18⟩] at hQ
      have hQ9 := hQ (sI h1 43 1 (nI (skp B a + 1))) (TpI_at hI1 (by omega)) (by rw [gI_sI, if_neg (by omega)]; exact z2) (by rw [gI_sI, if_neg (by omega)]; exact z3) (fr_sI hF1 (by omega) (by omega))
      refine V_aloadn0 dX7_readsSemicolon_23 ?_
      first | refine V_dupa dX7_readsSemicolon_24 ?_ | refine V_dupi dX7_readsSemicolon_24 ?_
      refine V_getI dX7_readsSemicolon_25 fX7_19 (Or.inl rfl) (by first | assumption | rfl) (by first | decide | omega) (by first | assumption | exact a2 _ c4 | rfl) ?_
      refine V_iconst (v := nI 1) dX7_readsSemicolon_28 (by decide) ?_
      first | refine U_iadd dX7_readsSemicolon_29 (by with_reducible rfl) (by with_reducible rfl) ?_ | refine V_iadd dX7_readsSemicolon_29 ?_
      refine V_putI dX7_readsSemicolon_30 fX7_19 (by first | assumption | rfl) (by first | decide | omega) ?_
      refine V_iconst (v := nI 1) dX7_readsSemicolon_33 (by decide) ?_
      refine V_iret dX7_readsSemicolon_34 rfl (by first | exact gBo_nar _ | rfl | decide) ?_
      exact hQ9
    · skip
      rw [if_neg (fun q => c18 q.2)] at hQ
      have hQ9 := hQ h1 hI1 z2 z3 hF1
      refine V_iconst (v := nI 0) dX7_readsSemicolon_21 (by decide) ?_
      refine V_iret dX7_readsSemicolon_22 rfl (by first | exact gBo_nar _ | rfl | decide) ?_
      exact hQ9
set_option maxRecDepth 100000 in
set_option maxHeartbeats 4000000 in
theorem c_readsStep {B : List Nat} {a n : Nat} (hd : 1 ≤ d) (hn1 : 1 ≤ n) (hn : n ≤ 5) (hr : gR h 43 4 = some 44) (hI : TpI h B a) (hQ : ∀ h', TpI h' B (stpF B n a).2 → gI h' 43 2 = gI h 43 2 → ((stpF B n a).1 = true → gI h' 43 3 = nI (B.getD (skp B a) 0 - 48)) → Fr1 h h' 43 44 → Q (some (.int (gBo (stpF B n a).1))) h') : V Γ mX7_readsStep d 124 124 h 0 [some (.ref 43), some (.int (nI n))] [] Q := by
  unfold stpF at hQ
  refine V_aloadn0 dX7_readsStep_0 ?_
  refine V_callV0 (μ' := mX7_goesOn) dX7_readsStep_1 okX7_goesOn lX7_30 rfl (by first | assumption | rfl) (by first | decide | omega) (Nat.le_of_ble_eq_true rfl) (Nat.le_of_ble_eq_true rfl) (by omega) ?_
  refine c_goesOn hr hI (fun h1 hI1 z2 z3 hF1 => ?_)
  have hr1 : gR h1 43 4 = some 44 := by rw [hF1.2.2]; exact hr
  obtain ⟨a0, a1, a2, a3, a4, a5⟩ := id hI1
  have h4 := a4 (skp B a)
  dsimp only [gPush]
  first | refine U_ifB_eq (tgt := 18) dX7_readsStep_4 (by decide) (by with_reducible rfl) (fun c4 => ?_) (fun c4 => ?_) | refine U_if_eq (tgt := 18) dX7_readsStep_4 (by decide) (by with_reducible rfl) (by omega) (fun c4 => ?_) (fun c4 => ?_) | refine V_if_eq (tgt := 18) dX7_readsStep_4 (by decide) (fun c4 => ?_) (fun c4 => ?_)
  · skip
    have c4 := of_decide_eq_false c4
    rw [if_neg (fun q => c4 q.1)] at hQ
    have hQ9 := hQ h1 hI1 z2 (fun q => by cases q) hF1
    refine V_iconst (v := nI 0) dX7_readsStep_18 (by decide) ?_
    refine V_iret dX7_readsStep_19 rfl (by first | exact gBo_nar _ | rfl | decide) ?_
    exact hQ9
  · skip
    have c4 := of_decide_eq_true c4
    refine V_aloadn0 dX7_readsStep_7 ?_
    refine V_iconst (v := nI 1) dX7_readsStep_8 (by decide) ?_
    refine V_iloadn1 dX7_readsStep_9 ?_
    refine V_iconst (v := nI 1) dX7_readsStep_10 (by decide) ?_
    first | refine U_isub dX7_readsStep_11 (by with_reducible rfl) (by with_reducible rfl) (by omega) ?_ | refine V_isub dX7_readsStep_11 ?_
    refine V_callV2 (μ' := mX7_isDigit) dX7_readsStep_12 okX7_isDigit lX7_38 rfl (by first | assumption | rfl) (by first | decide | omega) (Nat.le_of_ble_eq_true rfl) (Nat.le_of_ble_eq_true rfl) (by omega) ?_
    refine c_isDigit hr1 hI1 c4 (by omega) (by omega) ?_
    dsimp only [gPush]
    first | refine U_ifB_ne (tgt := 20) dX7_readsStep_15 (by decide) (by with_reducible rfl) (fun c15 => ?_) (fun c15 => ?_) | refine U_if_ne (tgt := 20) dX7_readsStep_15 (by decide) (by with_reducible rfl) (by omega) (fun c15 => ?_) (fun c15 => ?_) | refine V_if_ne (tgt := 20) dX7_readsStep_15 (by decide) (fun c15 => ?_) (fun c15 => ?_)
    · skip
      have c15 := of_decide_eq_true c15
      rw [if_pos ⟨c4, c15⟩] at hQ
      have e4 : TpI (sI h1 43 3 (nI (B.getD (skp B a) 0 - 48))) B (skp B a) := ⟨by rw [gI_sI, if_neg (by omega)]; exact a0, by rw [gI_sI, if_neg (by omega)]; exact a1, fun p hp => by rw [gI_sI, if_neg (by omega)]; exact a2 p hp, a3, a4, a5⟩
      have y1 := e4.2.1
      have hQ9 := hQ _ (TpI_at e4 (by omega)) (by rw [gI_sI, if_neg (by omega), gI_sI, if_neg (by omega)]; exact z2) (fun _ => by rw [gI_sI, if_neg (by omega), gI_sI, if_pos ⟨rfl, rfl⟩]) (fr_sI (fr_sI hF1 (by omega) (by omega)) (by omega) (by omega))
      refine V_aloadn0 dX7_readsStep_20 ?_
      refine V_aloadn0 dX7_readsStep_21 ?_
      refine V_getR dX7_readsStep_22 fX7_9 (by first | assumption | rfl) (by first | decide | omega) (by first | assumption | exact a2 _ c4 | rfl) ?_
      refine V_aloadn0 dX7_readsStep_25 ?_
      refine V_getI dX7_readsStep_26 fX7_19 (Or.inl rfl) (by first | assumption | rfl) (by first | decide | omega) (by first | assumption | exact a2 _ c4 | rfl) ?_
      refine U_iald dX7_readsStep_29 (by with_reducible rfl) (by first | assumption | rfl) (by first | decide | omega) (by omega) (by first | assumption | exact a2 _ c4 | rfl) ?_
      refine V_bipush (v := nI 48) dX7_readsStep_30 (by decide) ?_
      first | refine U_isub dX7_readsStep_32 (by with_reducible rfl) (by with_reducible rfl) (by omega) ?_ | refine V_isub dX7_readsStep_32 ?_
      refine V_putI dX7_readsStep_33 fX7_93 (by first | assumption | rfl) (by first | decide | omega) ?_
      refine V_aloadn0 dX7_readsStep_36 ?_
      first | refine V_dupa dX7_readsStep_37 ?_ | refine V_dupi dX7_readsStep_37 ?_
      refine V_getI dX7_readsStep_38 fX7_19 (Or.inl rfl) (by first | assumption | rfl) (by first | decide | omega) (by first | assumption | exact a2 _ c4 | rfl) ?_
      refine V_iconst (v := nI 1) dX7_readsStep_41 (by decide) ?_
      first | refine U_iadd dX7_readsStep_42 (by with_reducible rfl) (by with_reducible rfl) ?_ | refine V_iadd dX7_readsStep_42 ?_
      refine V_putI dX7_readsStep_43 fX7_19 (by first | assumption | rfl) (by first | decide | omega) ?_
      refine V_iconst (v := nI 1) dX7_readsStep_46 (by decide) ?_
      refine V_iret dX7_readsStep_47 rfl (by first | exact gBo_nar _ | rfl | decide) ?_
      exact hQ9
    · skip
      have c15 := of_decide_eq_false c15
      rw [if_neg (fun q => c15 q.2)] at hQ
      have hQ9 := hQ h1 hI1 z2 (fun q => by cases q) hF1
      refine V_iconst (v := nI 0) dX7_readsStep_18 (by decide) ?_
      refine V_iret dX7_readsStep_19 rfl (by first | exact gBo_nar _ | rfl | decide) ?_
      exact hQ9
set_option maxRecDepth 100000 in
set_option maxHeartbeats 4000000 in
theorem c_readsAct {B : List Nat} {a n : Nat} (hd : 6 ≤ d) (hn1 : 1 ≤ n) (hn : n ≤ 5) (hr : gR h 43 4 = some 44) (hI : TpI h B a) (hQ : ∀ h', TpI h' B (raF B n a).2.2.2 → ((raF B n a).1 = true → gI h' 43 2 = nI (raF B n a).2.1 ∧ ((raF B n a).2.1 ≠ 5 → gI h' 43 3 = nI (raF B n a).2.2.1)) → Fr1 h h' 43 44 → Q (some (.int (gBo (raF B n a).1))) h') : V Γ mX7_readsAct d 124 124 h 0 [some (.ref 43), some (.int (nI n))] [] Q := by
  unfold raF at hQ
  refine V_aloadn0 dX7_readsAct_0 ?_
  refine V_callV0 (μ' := mX7_readsName) dX7_readsAct_1 okX7_readsName lX7_49 rfl (by first | assumption | rfl) (by first | decide | omega) (Nat.le_of_ble_eq_true rfl) (Nat.le_of_ble_eq_true rfl) (by omega) ?_
  refine c_readsName (by omega) hr hI (fun h1 hI1 z2 hF1 => ?_)
  have hr1 : gR h1 43 4 = some 44 := by rw [hF1.2.2]; exact hr
  dsimp only [gPush]
  first | refine U_ifB_eq (tgt := 34) dX7_readsAct_4 (by decide) (by with_reducible rfl) (fun c4 => ?_) (fun c4 => ?_) | refine U_if_eq (tgt := 34) dX7_readsAct_4 (by decide) (by with_reducible rfl) (by omega) (fun c4 => ?_) (fun c4 => ?_) | refine V_if_eq (tgt := 34) dX7_readsAct_4 (by decide) (fun c4 => ?_) (fun c4 => ?_)
  · skip
    have c : nmF B (skp B a) (eon B (skp B a)) 0 6 = none := by cases hx : nmF B (skp B a) (eon B (skp B a)) 0 6 with
      | none => rfl
      | some v => rw [hx] at c4; cases c4
    rw [c] at hQ hI1
    have hQ9 := hQ h1 hI1 (fun q => by cases q) hF1
    refine V_iconst (v := nI 0) dX7_readsAct_34 (by decide) ?_
    refine V_iret dX7_readsAct_35 rfl (by first | exact gBo_nar _ | rfl | decide) ?_
    exact hQ9
  · skip
    obtain ⟨k, c⟩ : ∃ k, nmF B (skp B a) (eon B (skp B a)) 0 6 = some k := by cases hx : nmF B (skp B a) (eon B (skp B a)) 0 6 with
      | none => rw [hx] at c4; cases c4
      | some v => exact ⟨v, rfl⟩
    have hk6 := nmF_lt B _ _ _ _ _ c
    have z2 := z2 k c
    rw [c] at hQ hI1
    simp only at hQ hI1
    refine V_aloadn0 dX7_readsAct_7 ?_
    refine V_getI dX7_readsAct_8 fX7_52 (Or.inl rfl) (by first | assumption | rfl) (by first | decide | omega) (by first | assumption | rfl) ?_
    refine V_iconst (v := nI 5) dX7_readsAct_11 (by decide) ?_
    first | refine U_icmp_eq (tgt := 23) dX7_readsAct_12 (by decide) (by with_reducible rfl) (by with_reducible rfl) (by omega) (by omega) (fun c12 => ?_) (fun c12 => ?_) | refine V_icmp_eq (tgt := 23) dX7_readsAct_12 (by decide) (fun c12 => ?_) (fun c12 => ?_)
    · skip
      rw [if_pos c12] at hQ
      have hI2 := hI1
      have hF2 := hF1
      have hr2 := hr1
      refine V_aloadn0 dX7_readsAct_23 ?_
      refine V_callV0 (μ' := mX7_readsSemicolon) dX7_readsAct_24 okX7_readsSemicolon lX7_58 rfl (by first | assumption | rfl) (by first | decide | omega) (Nat.le_of_ble_eq_true rfl) (Nat.le_of_ble_eq_true rfl) (by omega) ?_
      refine c_readsSemicolon (by omega) hr2 hI2 (fun h3 hI3 x2 x3 hF3 => ?_)
      dsimp only [gPush]
      first | refine U_ifB_eq (tgt := 34) dX7_readsAct_27 (by decide) (by with_reducible rfl) (fun c27 => ?_) (fun c27 => ?_) | refine U_if_eq (tgt := 34) dX7_readsAct_27 (by decide) (by with_reducible rfl) (by omega) (fun c27 => ?_) (fun c27 => ?_) | refine V_if_eq (tgt := 34) dX7_readsAct_27 (by decide) (fun c27 => ?_) (fun c27 => ?_)
      · skip
        have hQ9 : Q (some (.int (gBo false))) h3 := by
          rw [c27] at hQ
          first | exact hQ h3 hI3 (fun q => by cases q) (hF1.tr hF3) | exact hQ h3 hI3 (fun q => by cases q) ((hF1.tr hF2).tr hF3)
        refine V_iconst (v := nI 0) dX7_readsAct_34 (by decide) ?_
        refine V_iret dX7_readsAct_35 rfl (by first | exact gBo_nar _ | rfl | decide) ?_
        exact hQ9
      · skip
        have hQ9 : Q (some (.int (gBo true))) h3 := by
          rw [c27] at hQ
          first | exact hQ h3 hI3 (fun _ => ⟨by rw [x2, z2, c12], fun q => absurd rfl q⟩) (hF1.tr hF3) | exact hQ h3 hI3 (fun _ => ⟨by rw [x2, y2, z2], fun _ => by rw [x3]; exact y3⟩) ((hF1.tr hF2).tr hF3)
        refine V_iconst (v := nI 1) dX7_readsAct_30 (by decide) ?_
        refine V_goto (tgt := 35) dX7_readsAct_31 (by decide) ?_
        refine V_iret dX7_readsAct_35 rfl (by first | exact gBo_nar _ | rfl | decide) ?_
        exact hQ9
    · skip
      rw [if_neg c12] at hQ
      refine V_aloadn0 dX7_readsAct_15 ?_
      refine V_iloadn1 dX7_readsAct_16 ?_
      refine V_callV1 (μ' := mX7_readsStep) dX7_readsAct_17 okX7_readsStep lX7_55 rfl (by first | assumption | rfl) (by first | decide | omega) (Nat.le_of_ble_eq_true rfl) (Nat.le_of_ble_eq_true rfl) (by omega) ?_
      refine c_readsStep (by omega) hn1 hn hr1 hI1 (fun h2 hI2 y2 y3 hF2 => ?_)
      have hr2 : gR h2 43 4 = some 44 := by rw [hF2.2.2]; exact hr1
      dsimp only [gPush]
      first | refine U_ifB_eq (tgt := 34) dX7_readsAct_20 (by decide) (by with_reducible rfl) (fun c20 => ?_) (fun c20 => ?_) | refine U_if_eq (tgt := 34) dX7_readsAct_20 (by decide) (by with_reducible rfl) (by omega) (fun c20 => ?_) (fun c20 => ?_) | refine V_if_eq (tgt := 34) dX7_readsAct_20 (by decide) (fun c20 => ?_) (fun c20 => ?_)
      · skip
        rw [if_neg (by rw [c20]; exact Bool.false_ne_true)] at hQ
        have hQ9 := hQ h2 hI2 (fun q => by cases q) (hF1.tr hF2)
        refine V_iconst (v := nI 0) dX7_readsAct_34 (by decide) ?_
        refine V_iret dX7_readsAct_35 rfl (by first | exact gBo_nar _ | rfl | decide) ?_
        exact hQ9
      · skip
        rw [if_pos c20] at hQ
        have y3 := y3 c20
        refine V_aloadn0 dX7_readsAct_23 ?_
        refine V_callV0 (μ' := mX7_readsSemicolon) dX7_readsAct_24 okX7_readsSemicolon lX7_58 rfl (by first | assumption | rfl) (by first | decide | omega) (Nat.le_of_ble_eq_true rfl) (Nat.le_of_ble_eq_true rfl) (by omega) ?_
        refine c_readsSemicolon (by omega) hr2 hI2 (fun h3 hI3 x2 x3 hF3 => ?_)
        dsimp only [gPush]
        first | refine U_ifB_eq (tgt := 34) dX7_readsAct_27 (by decide) (by with_reducible rfl) (fun c27 => ?_) (fun c27 => ?_) | refine U_if_eq (tgt := 34) dX7_readsAct_27 (by decide) (by with_reducible rfl) (by omega) (fun c27 => ?_) (fun c27 => ?_) | refine V_if_eq (tgt := 34) dX7_readsAct_27 (by decide) (fun c27 => ?_) (fun c27 => ?_)
        · skip
          have hQ9 : Q (some (.int (gBo false))) h3 := by
            rw [c27] at hQ
            first | exact hQ h3 hI3 (fun q => by cases q) (hF1.tr hF3) | exact hQ h3 hI3 (fun q => by cases q) ((hF1.tr hF2).tr hF3)
          refine V_iconst (v := nI 0) dX7_readsAct_34 (by decide) ?_
          refine V_iret dX7_readsAct_35 rfl (by first | exact gBo_nar _ | rfl | decide) ?_
          exact hQ9
        · skip
          have hQ9 : Q (some (.int (gBo true))) h3 := by
            rw [c27] at hQ
            first | exact hQ h3 hI3 (fun _ => ⟨by rw [x2, z2, c12], fun q => absurd rfl q⟩) (hF1.tr hF3) | exact hQ h3 hI3 (fun _ => ⟨by rw [x2, y2, z2], fun _ => by rw [x3]; exact y3⟩) ((hF1.tr hF2).tr hF3)
          refine V_iconst (v := nI 1) dX7_readsAct_30 (by decide) ?_
          refine V_goto (tgt := 35) dX7_readsAct_31 (by decide) ?_
          refine V_iret dX7_readsAct_35 rfl (by first | exact gBo_nar _ | rfl | decide) ?_
          exact hQ9
/-- nothing has changed but ints of cells of two stretches -/
def Fr2 (h h' : gH) (lo hi lo2 hi2 : Nat) : Prop := (∀ a, a < lo ∨ hi ≤ a → a < lo2 ∨ hi2 ≤ a → gI h' a = gI h a) ∧ gL h' = gL h ∧ gR h' = gR h
theorem Fr2.rf {lo hi lo2 hi2 : Nat} : Fr2 h h lo hi lo2 hi2 := ⟨fun _ _ _ => rfl, rfl, rfl⟩
theorem Fr2.tr {h' h'' : gH} {lo hi lo2 hi2 : Nat} (a : Fr2 h h' lo hi lo2 hi2) (b : Fr2 h' h'' lo hi lo2 hi2) : Fr2 h h'' lo hi lo2 hi2 := ⟨fun q h1 h2 => (b.1 q h1 h2).trans (a.1 q h1 h2), b.2.1.trans a.2.1, b.2.2.trans a.2.2⟩
theorem Fr1.to2 {h' : gH} {l r lo hi lo2 hi2 : Nat} (a : Fr1 h h' l r) (hl : (lo ≤ l ∧ r ≤ hi) ∨ (lo2 ≤ l ∧ r ≤ hi2)) : Fr2 h h' lo hi lo2 hi2 := ⟨fun q h1 h2 => a.1 q (by omega), a.2.1, a.2.2⟩
def addR (P : List (List Nat)) (r x : Nat) : List (List Nat) := if r < P.length then P.set r (P.getD r [] ++ [x]) else P ++ [[x]]
theorem addR_get {P : List (List Nat)} {r x : Nat} (hr : r ≤ P.length) (q : Nat) : (addR P r x).getD q [] = if q = r then P.getD r [] ++ [x] else P.getD q [] := by
  unfold addR
  by_cases h1 : r < P.length
  · rw [if_pos h1, List.getD_eq_getElem?_getD, List.getElem?_set]
    by_cases e : r = q
    · subst e; simp [h1]
    · rw [if_neg e, if_neg (fun z => e z.symm), List.getD_eq_getElem?_getD (l := P)]
  · rw [if_neg h1]
    have e : r = P.length := by omega
    subst e
    exact isAdd_end.1 q
theorem szL_set : ∀ (P : List (List Nat)) (r x : Nat), r < P.length → szL (P.set r (P.getD r [] ++ [x])) = szL P + 1
  | a :: l, 0, x, _ => by
    rw [List.set_cons_zero, szL_cons, szL_cons, List.getD_cons_zero, List.length_append, List.length_singleton]; omega
  | a :: l, r + 1, x, h => by
    rw [List.set_cons_succ, szL_cons, szL_cons, List.getD_cons_succ, szL_set l r x (by simpa using h)]; omega
  | [], r, x, h => absurd h (by simp)
theorem addR_add {P : List (List Nat)} {r x : Nat} (hr : r ≤ P.length) : isAdd P (addR P r x) r x := by
  refine ⟨addR_get hr, ?_, ?_⟩
  · unfold addR
    split
    · rw [List.length_set]; omega
    · rw [List.length_append, List.length_singleton]; omega
  · unfold addR
    split
    · exact szL_set P r x (by assumption)
    · rw [szL_app]; simp [szL]
theorem addR_par {P T : List (List Nat)} {r x y : Nat} (h : parL P T) : parL (addR P r x) (addR T r y) := by
  have hl : P.length = T.length := by have := congrArg List.length h; simpa using this
  have hg := parL_get h r
  unfold addR
  rw [hl]
  split
  · simp only [parL, List.map_set, List.length_append, List.length_singleton]
    rw [hg]
    congr 1
  · simp only [parL, List.map_append, List.map_cons, List.map_nil, List.length_singleton]
    rw [show P.map List.length = T.map List.length from h]
/-- a tableau read: whether it is one; where it is then; its rows -/
def tabF (B : List Nat) (n : Nat) : Nat → Nat → Nat → List (List Nat) → Bool × Nat × List (List Nat)
  | 0, a, row, P => (decide (row = 0 ∨ row < P.length), a, P)
  | f + 1, a, row, P => if skp B a < B.length then
      (if B.getD (skp B a) 0 = 47 ∧ row < P.length then tabF B n f (skp B a + 1) (row + 1) P
       else if (49 ≤ B.getD (skp B a) 0 ∧ B.getD (skp B a) 0 ≤ 48 + n) ∧ tkB P row (B.getD (skp B a) 0 - 48) = true then tabF B n f (skp B a + 1) row (addR P row (B.getD (skp B a) 0 - 48))
       else (false, skp B a, P))
    else (decide (row = 0 ∨ row < P.length), skp B a, P)
theorem tkB_sz {P : List (List Nat)} {r x : Nat} (h : tkB P r x = true) : szL P < 6 ∧ r < 6 := by
  unfold tkB at h
  rw [Bool.and_eq_true] at h
  exact of_decide_eq_true h.1
theorem row_le_sz : ∀ (P : List (List Nat)) (r : Nat), (P.getD r []).length ≤ szL P
  | [], r => by simp
  | a :: l, 0 => by rw [szL_cons, List.getD_cons_zero]; omega
  | a :: l, r + 1 => by have := row_le_sz l r; rw [szL_cons, List.getD_cons_succ]; omega
/-- bytes of the tape, wherever it is read -/
def TpB (h : gH) (B : List Nat) : Prop := gI h 43 0 = nI B.length ∧ (∀ p, p < B.length → gI h 44 p = nI (B.getD p 0)) ∧ B.length ≤ 60 ∧ ∀ p, B.getD p 0 ≤ 255
theorem TpB_at {h : gH} {B : List Nat} {x : Nat} (hB : TpB h B) (hx : x ≤ B.length) : TpI (sI h 43 1 (nI x)) B x := by
  obtain ⟨a0, a2, a3, a4⟩ := hB
  exact ⟨by rw [gI_sI, if_neg (by omega)]; exact a0, by rw [gI_sI, if_pos ⟨rfl, rfl⟩], fun p hp => by rw [gI_sI, if_neg (by omega)]; exact a2 p hp, a3, a4, hx⟩
theorem TpI.toB {h : gH} {B : List Nat} {a : Nat} (hI : TpI h B a) : TpB h B := ⟨hI.1, hI.2.2.1, hI.2.2.2.1, hI.2.2.2.2.1⟩
set_option maxRecDepth 100000 in
set_option maxHeartbeats 4000000 in
theorem c_readsTableau {B : List Nat} {n : Nat} (hd : 2 ≤ d) (hn : n ≤ 5) (hr : gR h 43 4 = some 44) (hI : TpB h B) (hG : GLay h 54) (hQ : ∀ h' T', GI h' 54 (tabF B n 60 0 0 []).2.2 T' → TpI h' B (tabF B n 60 0 0 []).2.1 → Fr2 h h' 43 44 54 58 → Q (some (.int (gBo (tabF B n 60 0 0 []).1))) h') : V Γ mX7_readsTableau d 124 124 h 0 [some (.ref 43), some (.ref 54), some (.int (nI n)), none, none] [] Q := by
  generalize hR : tabF B n 60 0 0 [] = R at hQ
  have loop : ∀ f k a row P T h1, k + f = 60 → R = tabF B n f a row P → row ≤ P.length → parL P T → GI h1 54 P T → TpI h1 B a → Fr2 h h1 43 44 54 58 → V Γ mX7_readsTableau d 124 124 h1 13 [some (.ref 43), some (.ref 54), some (.int (nI n)), some (.int (nI row)), some (.int (nI k))] [] Q := by
    intro f
    induction f with
    | zero =>
      intro k a row P T h1 hk hR1 hrow hpar hG1 hI1 hF1
      have hG0 := GLay_fr hG hF1.2.2
      rw [tabF] at hR1
      rw [hR1] at hQ
      have hQ9 := hQ h1 T hG1 hI1 hF1
      have hP6 := hG1.2.2.2.2.2.1
      refine V_iloadw4 dX7_readsTableau_13 ?_
      refine V_bipush (v := nI 60) dX7_readsTableau_15 (by decide) ?_
      first | refine U_icmp_ge (tgt := 122) dX7_readsTableau_17 (by decide) (by with_reducible rfl) (by with_reducible rfl) (by omega) (by omega) (fun c17 => ?_) (fun c17 => ?_) | refine V_icmp_ge (tgt := 122) dX7_readsTableau_17 (by decide) (fun c17 => ?_) (fun c17 => ?_)
      · skip
        refine V_iloadn3 dX7_readsTableau_122 ?_
        first | refine U_ifB_eq (tgt := 134) dX7_readsTableau_123 (by decide) (by with_reducible rfl) (fun c123 => ?_) (fun c123 => ?_) | refine U_if_eq (tgt := 134) dX7_readsTableau_123 (by decide) (by with_reducible rfl) (by omega) (fun c123 => ?_) (fun c123 => ?_) | refine V_if_eq (tgt := 134) dX7_readsTableau_123 (by decide) (fun c123 => ?_) (fun c123 => ?_)
        · skip
          simp only [decide_eq_true (Or.inl c123 : row = 0 ∨ row < P.length), gBo_t] at hQ9
          refine V_iconst (v := nI 1) dX7_readsTableau_134 (by decide) ?_
          refine V_goto (tgt := 139) dX7_readsTableau_135 (by decide) ?_
          refine V_iret dX7_readsTableau_139 rfl (by first | exact gBo_nar _ | rfl | decide) ?_
          exact hQ9
        · skip
          refine V_aloadn1 dX7_readsTableau_126 ?_
          refine V_iloadn3 dX7_readsTableau_127 ?_
          refine V_callV1 (μ' := mX2_hasRow) dX7_readsTableau_128 okX2_hasRow lX7_34 rfl (by first | assumption | rfl) (by first | decide | omega) (Nat.le_of_ble_eq_true rfl) (Nat.le_of_ble_eq_true rfl) (by omega) ?_
          refine c_hasRow hG0 hG1 (by omega) ?_
          dsimp only [gPush]
          first | refine U_ifB_eq (tgt := 138) dX7_readsTableau_131 (by decide) (by with_reducible rfl) (fun c131 => ?_) (fun c131 => ?_) | refine U_if_eq (tgt := 138) dX7_readsTableau_131 (by decide) (by with_reducible rfl) (by omega) (fun c131 => ?_) (fun c131 => ?_) | refine V_if_eq (tgt := 138) dX7_readsTableau_131 (by decide) (fun c131 => ?_) (fun c131 => ?_)
          · skip
            rw [decide_eq_false (fun q => by have c131 := of_decide_eq_false c131; omega)] at hQ9
            refine V_iconst (v := nI 0) dX7_readsTableau_138 (by decide) ?_
            refine V_iret dX7_readsTableau_139 rfl (by first | exact gBo_nar _ | rfl | decide) ?_
            exact hQ9
          · skip
            rw [decide_eq_true (Or.inr (of_decide_eq_true c131))] at hQ9
            refine V_iconst (v := nI 1) dX7_readsTableau_134 (by decide) ?_
            refine V_goto (tgt := 139) dX7_readsTableau_135 (by decide) ?_
            refine V_iret dX7_readsTableau_139 rfl (by first | exact gBo_nar _ | rfl | decide) ?_
            exact hQ9
      · skip
        omega
    | succ f ih =>
      intro k a row P T h1 hk hR1 hrow hpar hG1 hI1 hF1
      have hG0 := GLay_fr hG hF1.2.2
      have hr1 : gR h1 43 4 = some 44 := by rw [hF1.2.2]; exact hr
      have hP6 := hG1.2.2.2.2.2.1
      rw [tabF] at hR1
      refine V_iloadw4 dX7_readsTableau_13 ?_
      refine V_bipush (v := nI 60) dX7_readsTableau_15 (by decide) ?_
      first | refine U_icmp_ge (tgt := 122) dX7_readsTableau_17 (by decide) (by with_reducible rfl) (by with_reducible rfl) (by omega) (by omega) (fun c17 => ?_) (fun c17 => ?_) | refine V_icmp_ge (tgt := 122) dX7_readsTableau_17 (by decide) (fun c17 => ?_) (fun c17 => ?_)
      · skip
        omega
      · skip
        refine V_aloadn0 dX7_readsTableau_20 ?_
        refine V_callV0 (μ' := mX7_goesOn) dX7_readsTableau_21 okX7_goesOn lX7_30 rfl (by first | assumption | rfl) (by first | decide | omega) (Nat.le_of_ble_eq_true rfl) (Nat.le_of_ble_eq_true rfl) (by omega) ?_
        refine c_goesOn hr1 hI1 (fun h2 hI2 z2 z3 hF2 => ?_)
        have hr2 : gR h2 43 4 = some 44 := by rw [hF2.2.2]; exact hr1
        have hG2 := GLay_fr hG0 hF2.2.2
        have hGI2 := GI_fr hG1 hF2 (by omega)
        have hF12 := hF1.tr (hF2.to2 (lo := 43) (hi := 44) (lo2 := 54) (hi2 := 58) (Or.inl ⟨by omega, by omega⟩))
        obtain ⟨a0, a1, a2, a3, a4, a5⟩ := id hI2
        have h4 := a4 (skp B a)
        dsimp only [gPush]
        first | refine U_ifB_eq (tgt := 122) dX7_readsTableau_24 (by decide) (by with_reducible rfl) (fun c24 => ?_) (fun c24 => ?_) | refine U_if_eq (tgt := 122) dX7_readsTableau_24 (by decide) (by with_reducible rfl) (by omega) (fun c24 => ?_) (fun c24 => ?_) | refine V_if_eq (tgt := 122) dX7_readsTableau_24 (by decide) (fun c24 => ?_) (fun c24 => ?_)
        · skip
          have c24 := of_decide_eq_false c24
          rw [if_neg c24] at hR1
          rw [hR1] at hQ
          have hQ9 := hQ h2 T hGI2 hI2 hF12
          refine V_iloadn3 dX7_readsTableau_122 ?_
          first | refine U_ifB_eq (tgt := 134) dX7_readsTableau_123 (by decide) (by with_reducible rfl) (fun c123 => ?_) (fun c123 => ?_) | refine U_if_eq (tgt := 134) dX7_readsTableau_123 (by decide) (by with_reducible rfl) (by omega) (fun c123 => ?_) (fun c123 => ?_) | refine V_if_eq (tgt := 134) dX7_readsTableau_123 (by decide) (fun c123 => ?_) (fun c123 => ?_)
          · skip
            simp only [decide_eq_true (Or.inl c123 : row = 0 ∨ row < P.length), gBo_t] at hQ9
            refine V_iconst (v := nI 1) dX7_readsTableau_134 (by decide) ?_
            refine V_goto (tgt := 139) dX7_readsTableau_135 (by decide) ?_
            refine V_iret dX7_readsTableau_139 rfl (by first | exact gBo_nar _ | rfl | decide) ?_
            exact hQ9
          · skip
            refine V_aloadn1 dX7_readsTableau_126 ?_
            refine V_iloadn3 dX7_readsTableau_127 ?_
            refine V_callV1 (μ' := mX2_hasRow) dX7_readsTableau_128 okX2_hasRow lX7_34 rfl (by first | assumption | rfl) (by first | decide | omega) (Nat.le_of_ble_eq_true rfl) (Nat.le_of_ble_eq_true rfl) (by omega) ?_
            refine c_hasRow hG2 hGI2 (by omega) ?_
            dsimp only [gPush]
            first | refine U_ifB_eq (tgt := 138) dX7_readsTableau_131 (by decide) (by with_reducible rfl) (fun c131 => ?_) (fun c131 => ?_) | refine U_if_eq (tgt := 138) dX7_readsTableau_131 (by decide) (by with_reducible rfl) (by omega) (fun c131 => ?_) (fun c131 => ?_) | refine V_if_eq (tgt := 138) dX7_readsTableau_131 (by decide) (fun c131 => ?_) (fun c131 => ?_)
            · skip
              rw [decide_eq_false (fun q => by have c131 := of_decide_eq_false c131; omega)] at hQ9
              refine V_iconst (v := nI 0) dX7_readsTableau_138 (by decide) ?_
              refine V_iret dX7_readsTableau_139 rfl (by first | exact gBo_nar _ | rfl | decide) ?_
              exact hQ9
            · skip
              rw [decide_eq_true (Or.inr (of_decide_eq_true c131))] at hQ9
              refine V_iconst (v := nI 1) dX7_readsTableau_134 (by decide) ?_
              refine V_goto (tgt := 139) dX7_readsTableau_135 (by decide) ?_
              refine V_iret dX7_readsTableau_139 rfl (by first | exact gBo_nar _ | rfl | decide) ?_
              exact hQ9
        · skip
          have c24 := of_decide_eq_true c24
          rw [if_pos c24] at hR1
          refine V_aloadn0 dX7_readsTableau_27 ?_
          refine V_getR dX7_readsTableau_28 fX7_9 (by first | assumption | rfl) (by first | decide | omega) (by first | assumption | exact a2 _ c24 | rfl) ?_
          refine V_aloadn0 dX7_readsTableau_31 ?_
          refine V_getI dX7_readsTableau_32 fX7_19 (Or.inl rfl) (by first | assumption | rfl) (by first | decide | omega) (by first | assumption | exact a2 _ c24 | rfl) ?_
          refine U_iald dX7_readsTableau_35 (by with_reducible rfl) (by first | assumption | rfl) (by first | decide | omega) (by omega) (by first | assumption | exact a2 _ c24 | rfl) ?_
          refine V_bipush (v := nI 47) dX7_readsTableau_36 (by decide) ?_
          first | refine U_icmp_ne (tgt := 55) dX7_readsTableau_38 (by decide) (by with_reducible rfl) (by with_reducible rfl) (by omega) (by omega) (fun c38 => ?_) (fun c38 => ?_) | refine V_icmp_ne (tgt := 55) dX7_readsTableau_38 (by decide) (fun c38 => ?_) (fun c38 => ?_)
          · skip
            rw [if_neg (fun q => c38 q.1)] at hR1
            refine V_aloadn0 dX7_readsTableau_55 ?_
            refine V_iconst (v := nI 1) dX7_readsTableau_56 (by decide) ?_
            refine V_iloadn2 dX7_readsTableau_57 ?_
            refine V_callV2 (μ' := mX7_isDigit) dX7_readsTableau_58 okX7_isDigit lX7_38 rfl (by first | assumption | rfl) (by first | decide | omega) (Nat.le_of_ble_eq_true rfl) (Nat.le_of_ble_eq_true rfl) (by omega) ?_
            refine c_isDigit hr2 hI2 c24 (by omega) (by omega) ?_
            dsimp only [gPush]
            first | refine U_ifB_eq (tgt := 104) dX7_readsTableau_61 (by decide) (by with_reducible rfl) (fun c61 => ?_) (fun c61 => ?_) | refine U_if_eq (tgt := 104) dX7_readsTableau_61 (by decide) (by with_reducible rfl) (by omega) (fun c61 => ?_) (fun c61 => ?_) | refine V_if_eq (tgt := 104) dX7_readsTableau_61 (by decide) (fun c61 => ?_) (fun c61 => ?_)
            · skip
              have c61 := of_decide_eq_false c61
              rw [if_neg (fun q => c61 (by omega))] at hR1
              rw [hR1] at hQ
              have hQ9 := hQ h2 T hGI2 hI2 hF12
              refine V_iconst (v := nI 0) dX7_readsTableau_104 (by decide) ?_
              refine V_iret dX7_readsTableau_105 rfl (by first | exact gBo_nar _ | rfl | decide) ?_
              exact hQ9
            · skip
              have c61 := of_decide_eq_true c61
              refine V_aloadn1 dX7_readsTableau_64 ?_
              refine V_iloadn3 dX7_readsTableau_65 ?_
              refine V_aloadn0 dX7_readsTableau_66 ?_
              refine V_getR dX7_readsTableau_67 fX7_9 (by first | assumption | rfl) (by first | decide | omega) (by first | assumption | exact a2 _ c24 | rfl) ?_
              refine V_aloadn0 dX7_readsTableau_70 ?_
              refine V_getI dX7_readsTableau_71 fX7_19 (Or.inl rfl) (by first | assumption | rfl) (by first | decide | omega) (by first | assumption | exact a2 _ c24 | rfl) ?_
              refine U_iald dX7_readsTableau_74 (by with_reducible rfl) (by first | assumption | rfl) (by first | decide | omega) (by omega) (by first | assumption | exact a2 _ c24 | rfl) ?_
              refine V_bipush (v := nI 48) dX7_readsTableau_75 (by decide) ?_
              first | refine U_isub dX7_readsTableau_77 (by with_reducible rfl) (by with_reducible rfl) (by omega) ?_ | refine V_isub dX7_readsTableau_77 ?_
              refine V_callV2 (μ' := mX2_takes) dX7_readsTableau_78 okX2_takes lX7_42 rfl (by first | assumption | rfl) (by first | decide | omega) (Nat.le_of_ble_eq_true rfl) (Nat.le_of_ble_eq_true rfl) (by omega) ?_
              refine c_takes (by omega) hG2 hGI2 (by omega) (by omega) ?_
              dsimp only [gPush]
              first | refine U_ifB_eq (tgt := 104) dX7_readsTableau_81 (by decide) (by with_reducible rfl) (fun c81 => ?_) (fun c81 => ?_) | refine U_if_eq (tgt := 104) dX7_readsTableau_81 (by decide) (by with_reducible rfl) (by omega) (fun c81 => ?_) (fun c81 => ?_) | refine V_if_eq (tgt := 104) dX7_readsTableau_81 (by decide) (fun c81 => ?_) (fun c81 => ?_)
              · skip
                rw [if_neg (fun q => by rw [c81] at q; exact Bool.false_ne_true q.2)] at hR1
                rw [hR1] at hQ
                have hQ9 := hQ h2 T hGI2 hI2 hF12
                refine V_iconst (v := nI 0) dX7_readsTableau_104 (by decide) ?_
                refine V_iret dX7_readsTableau_105 rfl (by first | exact gBo_nar _ | rfl | decide) ?_
                exact hQ9
              · skip
                rw [if_pos ⟨by omega, c81⟩] at hR1
                have hsz := tkB_sz c81
                have hrl := row_le_sz P row
                refine V_aloadn1 dX7_readsTableau_84 ?_
                refine V_iloadn3 dX7_readsTableau_85 ?_
                refine V_aloadn0 dX7_readsTableau_86 ?_
                refine V_getR dX7_readsTableau_87 fX7_9 (by first | assumption | rfl) (by first | decide | omega) (by first | assumption | exact a2 _ c24 | rfl) ?_
                refine V_aloadn0 dX7_readsTableau_90 ?_
                refine V_getI dX7_readsTableau_91 fX7_19 (Or.inl rfl) (by first | assumption | rfl) (by first | decide | omega) (by first | assumption | exact a2 _ c24 | rfl) ?_
                refine U_iald dX7_readsTableau_94 (by with_reducible rfl) (by first | assumption | rfl) (by first | decide | omega) (by omega) (by first | assumption | exact a2 _ c24 | rfl) ?_
                refine V_bipush (v := nI 48) dX7_readsTableau_95 (by decide) ?_
                first | refine U_isub dX7_readsTableau_97 (by with_reducible rfl) (by with_reducible rfl) (by omega) ?_ | refine V_isub dX7_readsTableau_97 ?_
                refine V_callV2 (μ' := mX2_append) dX7_readsTableau_98 okX2_append lX7_45 rfl (by first | assumption | rfl) (by first | decide | omega) (Nat.le_of_ble_eq_true rfl) (Nat.le_of_ble_eq_true rfl) (by omega) ?_
                refine c_append (P' := addR P row (B.getD (skp B a) 0 - 48)) (T' := addR T row (szL P + 1)) (by omega) hG2 hGI2 hsz.2 (by omega) hsz.1 (by omega) (addR_add hrow) (fun q => addR_get (by have := congrArg List.length hpar; simp at this; omega) q) (parL_get hpar row) (fun h3 hGI9 hF3 => ?_)
                have hI9 : TpI h3 B (skp B a) := ⟨by rw [hF3.1 43 (by omega)]; exact a0, by rw [hF3.1 43 (by omega)]; exact a1, fun p hp => by rw [hF3.1 44 (by omega)]; exact a2 p hp, a3, a4, a5⟩
                have hF9 := hF12.tr (hF3.to2 (lo := 43) (hi := 44) (lo2 := 54) (hi2 := 58) (Or.inr ⟨by omega, by omega⟩))
                have a1' := hI9.2.1
                have hpar9 : parL (addR P row (B.getD (skp B a) 0 - 48)) (addR T row (szL P + 1)) := addR_par hpar
                have hrow9 : row ≤ (addR P row (B.getD (skp B a) 0 - 48)).length := by rw [(addR_add hrow).2.1]; omega
                dsimp only [gPush]
                refine V_goto (tgt := 106) dX7_readsTableau_101 (by decide) ?_
                refine V_aloadn0 dX7_readsTableau_106 ?_
                first | refine V_dupa dX7_readsTableau_107 ?_ | refine V_dupi dX7_readsTableau_107 ?_
                refine V_getI dX7_readsTableau_108 fX7_19 (Or.inl rfl) (by first | assumption | rfl) (by first | decide | omega) (by first | assumption | exact a2 _ c24 | rfl) ?_
                refine V_iconst (v := nI 1) dX7_readsTableau_111 (by decide) ?_
                first | refine U_iadd dX7_readsTableau_112 (by with_reducible rfl) (by with_reducible rfl) ?_ | refine V_iadd dX7_readsTableau_112 ?_
                refine V_putI dX7_readsTableau_113 fX7_19 (by first | assumption | rfl) (by first | decide | omega) ?_
                refine V_iinc4 dX7_readsTableau_116 (by first | exact ginc1 _ | rfl) (by decide) rfl ?_
                refine V_goto (tgt := 13) dX7_readsTableau_119 (by decide) ?_
                exact ih (k + 1) (skp B a + 1) _ _ _ _ (by omega) hR1 hrow9 hpar9 (GI_fr hGI9 (fr_sI (lo := 43) (hi := 44) Fr1.rf (by omega) (by omega)) (by omega)) (TpI_at hI9 (by omega)) (hF9.tr ((fr_sI (lo := 43) (hi := 44) Fr1.rf (by omega) (by omega)).to2 (Or.inl ⟨by omega, by omega⟩)))
          · skip
            refine V_aloadn1 dX7_readsTableau_41 ?_
            refine V_iloadn3 dX7_readsTableau_42 ?_
            refine V_callV1 (μ' := mX2_hasRow) dX7_readsTableau_43 okX2_hasRow lX7_34 rfl (by first | assumption | rfl) (by first | decide | omega) (Nat.le_of_ble_eq_true rfl) (Nat.le_of_ble_eq_true rfl) (by omega) ?_
            refine c_hasRow hG2 hGI2 (by omega) ?_
            dsimp only [gPush]
            first | refine U_ifB_eq (tgt := 55) dX7_readsTableau_46 (by decide) (by with_reducible rfl) (fun c46 => ?_) (fun c46 => ?_) | refine U_if_eq (tgt := 55) dX7_readsTableau_46 (by decide) (by with_reducible rfl) (by omega) (fun c46 => ?_) (fun c46 => ?_) | refine V_if_eq (tgt := 55) dX7_readsTableau_46 (by decide) (fun c46 => ?_) (fun c46 => ?_)
            · skip
              have c46 := of_decide_eq_false c46
              rw [if_neg (fun q => c46 q.2)] at hR1
              refine V_aloadn0 dX7_readsTableau_55 ?_
              refine V_iconst (v := nI 1) dX7_readsTableau_56 (by decide) ?_
              refine V_iloadn2 dX7_readsTableau_57 ?_
              refine V_callV2 (μ' := mX7_isDigit) dX7_readsTableau_58 okX7_isDigit lX7_38 rfl (by first | assumption | rfl) (by first | decide | omega) (Nat.le_of_ble_eq_true rfl) (Nat.le_of_ble_eq_true rfl) (by omega) ?_
              refine c_isDigit hr2 hI2 c24 (by omega) (by omega) ?_
              dsimp only [gPush]
              first | refine U_ifB_eq (tgt := 104) dX7_readsTableau_61 (by decide) (by with_reducible rfl) (fun c61 => ?_) (fun c61 => ?_) | refine U_if_eq (tgt := 104) dX7_readsTableau_61 (by decide) (by with_reducible rfl) (by omega) (fun c61 => ?_) (fun c61 => ?_) | refine V_if_eq (tgt := 104) dX7_readsTableau_61 (by decide) (fun c61 => ?_) (fun c61 => ?_)
              · skip
                have c61 := of_decide_eq_false c61
                rw [if_neg (fun q => c61 (by omega))] at hR1
                rw [hR1] at hQ
                have hQ9 := hQ h2 T hGI2 hI2 hF12
                refine V_iconst (v := nI 0) dX7_readsTableau_104 (by decide) ?_
                refine V_iret dX7_readsTableau_105 rfl (by first | exact gBo_nar _ | rfl | decide) ?_
                exact hQ9
              · skip
                have c61 := of_decide_eq_true c61
                refine V_aloadn1 dX7_readsTableau_64 ?_
                refine V_iloadn3 dX7_readsTableau_65 ?_
                refine V_aloadn0 dX7_readsTableau_66 ?_
                refine V_getR dX7_readsTableau_67 fX7_9 (by first | assumption | rfl) (by first | decide | omega) (by first | assumption | exact a2 _ c24 | rfl) ?_
                refine V_aloadn0 dX7_readsTableau_70 ?_
                refine V_getI dX7_readsTableau_71 fX7_19 (Or.inl rfl) (by first | assumption | rfl) (by first | decide | omega) (by first | assumption | exact a2 _ c24 | rfl) ?_
                refine U_iald dX7_readsTableau_74 (by with_reducible rfl) (by first | assumption | rfl) (by first | decide | omega) (by omega) (by first | assumption | exact a2 _ c24 | rfl) ?_
                refine V_bipush (v := nI 48) dX7_readsTableau_75 (by decide) ?_
                first | refine U_isub dX7_readsTableau_77 (by with_reducible rfl) (by with_reducible rfl) (by omega) ?_ | refine V_isub dX7_readsTableau_77 ?_
                refine V_callV2 (μ' := mX2_takes) dX7_readsTableau_78 okX2_takes lX7_42 rfl (by first | assumption | rfl) (by first | decide | omega) (Nat.le_of_ble_eq_true rfl) (Nat.le_of_ble_eq_true rfl) (by omega) ?_
                refine c_takes (by omega) hG2 hGI2 (by omega) (by omega) ?_
                dsimp only [gPush]
                first | refine U_ifB_eq (tgt := 104) dX7_readsTableau_81 (by decide) (by with_reducible rfl) (fun c81 => ?_) (fun c81 => ?_) | refine U_if_eq (tgt := 104) dX7_readsTableau_81 (by decide) (by with_reducible rfl) (by omega) (fun c81 => ?_) (fun c81 => ?_) | refine V_if_eq (tgt := 104) dX7_readsTableau_81 (by decide) (fun c81 => ?_) (fun c81 => ?_)
                · skip
                  rw [if_neg (fun q => by rw [c81] at q; exact Bool.false_ne_true q.2)] at hR1
                  rw [hR1] at hQ
                  have hQ9 := hQ h2 T hGI2 hI2 hF12
                  refine V_iconst (v := nI 0) dX7_readsTableau_104 (by decide) ?_
                  refine V_iret dX7_readsTableau_105 rfl (by first | exact gBo_nar _ | rfl | decide) ?_
                  exact hQ9
                · skip
                  rw [if_pos ⟨by omega, c81⟩] at hR1
                  have hsz := tkB_sz c81
                  have hrl := row_le_sz P row
                  refine V_aloadn1 dX7_readsTableau_84 ?_
                  refine V_iloadn3 dX7_readsTableau_85 ?_
                  refine V_aloadn0 dX7_readsTableau_86 ?_
                  refine V_getR dX7_readsTableau_87 fX7_9 (by first | assumption | rfl) (by first | decide | omega) (by first | assumption | exact a2 _ c24 | rfl) ?_
                  refine V_aloadn0 dX7_readsTableau_90 ?_
                  refine V_getI dX7_readsTableau_91 fX7_19 (Or.inl rfl) (by first | assumption | rfl) (by first | decide | omega) (by first | assumption | exact a2 _ c24 | rfl) ?_
                  refine U_iald dX7_readsTableau_94 (by with_reducible rfl) (by first | assumption | rfl) (by first | decide | omega) (by omega) (by first | assumption | exact a2 _ c24 | rfl) ?_
                  refine V_bipush (v := nI 48) dX7_readsTableau_95 (by decide) ?_
                  first | refine U_isub dX7_readsTableau_97 (by with_reducible rfl) (by with_reducible rfl) (by omega) ?_ | refine V_isub dX7_readsTableau_97 ?_
                  refine V_callV2 (μ' := mX2_append) dX7_readsTableau_98 okX2_append lX7_45 rfl (by first | assumption | rfl) (by first | decide | omega) (Nat.le_of_ble_eq_true rfl) (Nat.le_of_ble_eq_true rfl) (by omega) ?_
                  refine c_append (P' := addR P row (B.getD (skp B a) 0 - 48)) (T' := addR T row (szL P + 1)) (by omega) hG2 hGI2 hsz.2 (by omega) hsz.1 (by omega) (addR_add hrow) (fun q => addR_get (by have := congrArg List.length hpar; simp at this; omega) q) (parL_get hpar row) (fun h3 hGI9 hF3 => ?_)
                  have hI9 : TpI h3 B (skp B a) := ⟨by rw [hF3.1 43 (by omega)]; exact a0, by rw [hF3.1 43 (by omega)]; exact a1, fun p hp => by rw [hF3.1 44 (by omega)]; exact a2 p hp, a3, a4, a5⟩
                  have hF9 := hF12.tr (hF3.to2 (lo := 43) (hi := 44) (lo2 := 54) (hi2 := 58) (Or.inr ⟨by omega, by omega⟩))
                  have a1' := hI9.2.1
                  have hpar9 : parL (addR P row (B.getD (skp B a) 0 - 48)) (addR T row (szL P + 1)) := addR_par hpar
                  have hrow9 : row ≤ (addR P row (B.getD (skp B a) 0 - 48)).length := by rw [(addR_add hrow).2.1]; omega
                  dsimp only [gPush]
                  refine V_goto (tgt := 106) dX7_readsTableau_101 (by decide) ?_
                  refine V_aloadn0 dX7_readsTableau_106 ?_
                  first | refine V_dupa dX7_readsTableau_107 ?_ | refine V_dupi dX7_readsTableau_107 ?_
                  refine V_getI dX7_readsTableau_108 fX7_19 (Or.inl rfl) (by first | assumption | rfl) (by first | decide | omega) (by first | assumption | exact a2 _ c24 | rfl) ?_
                  refine V_iconst (v := nI 1) dX7_readsTableau_111 (by decide) ?_
                  first | refine U_iadd dX7_readsTableau_112 (by with_reducible rfl) (by with_reducible rfl) ?_ | refine V_iadd dX7_readsTableau_112 ?_
                  refine V_putI dX7_readsTableau_113 fX7_19 (by first | assumption | rfl) (by first | decide | omega) ?_
                  refine V_iinc4 dX7_readsTableau_116 (by first | exact ginc1 _ | rfl) (by decide) rfl ?_
                  refine V_goto (tgt := 13) dX7_readsTableau_119 (by decide) ?_
                  exact ih (k + 1) (skp B a + 1) _ _ _ _ (by omega) hR1 hrow9 hpar9 (GI_fr hGI9 (fr_sI (lo := 43) (hi := 44) Fr1.rf (by omega) (by omega)) (by omega)) (TpI_at hI9 (by omega)) (hF9.tr ((fr_sI (lo := 43) (hi := 44) Fr1.rf (by omega) (by omega)).to2 (Or.inl ⟨by omega, by omega⟩)))
            · skip
              have c46 := of_decide_eq_true c46
              rw [if_pos ⟨c38, c46⟩] at hR1
              have hGI9 := hGI2
              have hI9 := hI2
              have hF9 := hF12
              have a1' := a1
              have hpar9 := hpar
              have hrow9 : row + 1 ≤ P.length := by omega
              refine V_iinc3 dX7_readsTableau_49 (by first | exact ginc1 _ | rfl) (by decide) rfl ?_
              refine V_goto (tgt := 106) dX7_readsTableau_52 (by decide) ?_
              refine V_aloadn0 dX7_readsTableau_106 ?_
              first | refine V_dupa dX7_readsTableau_107 ?_ | refine V_dupi dX7_readsTableau_107 ?_
              refine V_getI dX7_readsTableau_108 fX7_19 (Or.inl rfl) (by first | assumption | rfl) (by first | decide | omega) (by first | assumption | exact a2 _ c24 | rfl) ?_
              refine V_iconst (v := nI 1) dX7_readsTableau_111 (by decide) ?_
              first | refine U_iadd dX7_readsTableau_112 (by with_reducible rfl) (by with_reducible rfl) ?_ | refine V_iadd dX7_readsTableau_112 ?_
              refine V_putI dX7_readsTableau_113 fX7_19 (by first | assumption | rfl) (by first | decide | omega) ?_
              refine V_iinc4 dX7_readsTableau_116 (by first | exact ginc1 _ | rfl) (by decide) rfl ?_
              refine V_goto (tgt := 13) dX7_readsTableau_119 (by decide) ?_
              exact ih (k + 1) (skp B a + 1) _ _ _ _ (by omega) hR1 hrow9 hpar9 (GI_fr hGI9 (fr_sI (lo := 43) (hi := 44) Fr1.rf (by omega) (by omega)) (by omega)) (TpI_at hI9 (by omega)) (hF9.tr ((fr_sI (lo := 43) (hi := 44) Fr1.rf (by omega) (by omega)).to2 (Or.inl ⟨by omega, by omega⟩)))
  refine V_aloadn1 dX7_readsTableau_0 ?_
  refine V_callV0 (μ' := mX2_clear) dX7_readsTableau_1 okX2_clear lX7_22 rfl (by first | assumption | rfl) (by first | decide | omega) (Nat.le_of_ble_eq_true rfl) (Nat.le_of_ble_eq_true rfl) (by omega) ?_
  refine c_clear (by omega) hG (fun h1 hG1 hF1 => ?_)
  obtain ⟨a0, a2, a3, a4⟩ := id hI
  have hI1 : TpB h1 B := ⟨by rw [hF1.1 43 (by omega)]; exact a0, fun p hp => by rw [hF1.1 44 (by omega)]; exact a2 p hp, a3, a4⟩
  dsimp only [gPush]
  refine V_aloadn0 dX7_readsTableau_4 ?_
  refine V_callV0 (μ' := mX7_rewind) dX7_readsTableau_5 okX7_rewind lX7_27 rfl (by first | assumption | rfl) (by first | decide | omega) (Nat.le_of_ble_eq_true rfl) (Nat.le_of_ble_eq_true rfl) (by omega) ?_
  refine c_rewind ?_
  dsimp only [gPush]
  refine V_iconst (v := nI 0) dX7_readsTableau_8 (by decide) ?_
  refine V_istoren3 dX7_readsTableau_9 (by decide) rfl ?_
  refine V_iconst (v := nI 0) dX7_readsTableau_10 (by decide) ?_
  refine V_istorew4 dX7_readsTableau_11 (by decide) rfl ?_
  exact loop 60 0 0 0 [] [] _ rfl hR.symm (Nat.le_refl _) rfl (GI_fr hG1 (fr_sI (lo := 43) (hi := 44) Fr1.rf (by omega) (by omega)) (by omega)) (TpB_at hI1 (Nat.zero_le _)) ((hF1.to2 (Or.inr ⟨by omega, by omega⟩)).tr ((fr_sI (lo := 43) (hi := 44) Fr1.rf (by omega) (by omega)).to2 (Or.inl ⟨by omega, by omega⟩)))
end C23
