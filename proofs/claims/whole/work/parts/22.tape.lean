/-! ===== the class: the tape ===== -/
def blk : List Nat → Nat
  | [] => 0
  | a :: l => if a = 32 then blk l + 1 else 0
/-- behind the blanks -/
def skp (B : List Nat) (p : Nat) : Nat := p + blk (B.drop p)
theorem blk_le : ∀ l : List Nat, blk l ≤ l.length
  | [] => Nat.le_refl _
  | a :: l => by
    have := blk_le l
    unfold blk
    rw [List.length_cons]
    split <;> omega
theorem skp_le {B : List Nat} {p : Nat} (hp : p ≤ B.length) : skp B p ≤ B.length := by
  have := blk_le (B.drop p)
  rw [List.length_drop] at this
  unfold skp
  omega
theorem skp_ge (B : List Nat) (p : Nat) : p ≤ skp B p := Nat.le_add_right _ _
theorem drop_getDn {B : List Nat} {q : Nat} (hq : q < B.length) : B.drop q = B.getD q 0 :: B.drop (q + 1) := by
  rw [List.drop_eq_getElem_cons hq, List.getD_eq_getElem?_getD, List.getElem?_eq_getElem hq]; rfl
theorem skp_blank {B : List Nat} {p : Nat} (hp : p < B.length) (hb : B.getD p 0 = 32) : skp B p = skp B (p + 1) := by
  unfold skp
  rw [drop_getDn hp, blk, if_pos hb]
  omega
theorem skp_stop {B : List Nat} {p : Nat} (h : B.length ≤ p ∨ B.getD p 0 ≠ 32) : skp B p = p := by
  unfold skp
  rcases Nat.lt_or_ge p B.length with hlt | hge
  · have hb : B.getD p 0 ≠ 32 := by rcases h with h | h; omega; exact h
    rw [drop_getDn hlt, blk, if_neg hb]; rfl
  · rw [List.drop_eq_nil_of_le hge]; rfl
/-- leading letters a to z -/
def azN : List Nat → Nat
  | [] => 0
  | a :: l => if 97 ≤ a ∧ a ≤ 122 then azN l + 1 else 0
def eon (B : List Nat) (p : Nat) : Nat := p + azN (B.drop p)
theorem azN_le : ∀ l : List Nat, azN l ≤ l.length
  | [] => Nat.le_refl _
  | a :: l => by
    have := azN_le l
    unfold azN
    rw [List.length_cons]
    split <;> omega
theorem eon_le {B : List Nat} {p : Nat} (hp : p ≤ B.length) : eon B p ≤ B.length := by
  have := azN_le (B.drop p)
  rw [List.length_drop] at this
  unfold eon
  omega
theorem eon_ge (B : List Nat) (p : Nat) : p ≤ eon B p := Nat.le_add_right _ _
def TpI (h : gH) (B : List Nat) (a : Nat) : Prop := gI h 43 0 = nI B.length ∧ gI h 43 1 = nI a ∧ (∀ p, p < B.length → gI h 44 p = nI (B.getD p 0)) ∧ B.length ≤ 60 ∧ (∀ p, B.getD p 0 ≤ 255) ∧ a ≤ B.length
theorem TpI_at {h : gH} {B : List Nat} {a b : Nat} (hI : TpI h B a) (hb : b ≤ B.length) : TpI (sI h 43 1 (nI b)) B b := by
  obtain ⟨a0, a1, a2, a3, a4, a5⟩ := hI
  exact ⟨by rw [gI_sI, if_neg (by omega)]; exact a0, by simp [gI_sI], fun p hp => by rw [gI_sI, if_neg (by omega)]; exact a2 p hp, a3, a4, hb⟩
section C22
variable {Γ : gM} {d : Nat} {h : gH} {Q : Option Value → gH → Prop}
set_option maxRecDepth 100000 in
set_option maxHeartbeats 4000000 in
theorem c_useUp (hQ : Q none (sI h 43 0 (nI 0))) : V Γ mX7_useUp d 124 124 h 0 [some (.ref 43)] [] Q := by
  refine V_aloadn0 dX7_useUp_0 ?_
  refine V_iconst (v := nI 0) dX7_useUp_1 (by decide) ?_
  refine V_putI dX7_useUp_2 fX7_15 (by first | assumption | rfl) (by first | decide | omega) ?_
  refine V_ret dX7_useUp_5 rfl ?_
  exact hQ
set_option maxRecDepth 100000 in
set_option maxHeartbeats 4000000 in
theorem c_rewind (hQ : Q none (sI h 43 1 (nI 0))) : V Γ mX7_rewind d 124 124 h 0 [some (.ref 43)] [] Q := by
  refine V_aloadn0 dX7_rewind_0 ?_
  refine V_iconst (v := nI 0) dX7_rewind_1 (by decide) ?_
  refine V_putI dX7_rewind_2 fX7_19 (by first | assumption | rfl) (by first | decide | omega) ?_
  refine V_ret dX7_rewind_5 rfl ?_
  exact hQ
set_option maxRecDepth 100000 in
set_option maxHeartbeats 4000000 in
theorem c_goesOn {B : List Nat} {a : Nat} (hr : gR h 43 4 = some 44) (hI : TpI h B a) (hQ : ∀ h', TpI h' B (skp B a) → gI h' 43 2 = gI h 43 2 → gI h' 43 3 = gI h 43 3 → Fr1 h h' 43 44 → Q (some (.int (gBo (decide (skp B a < B.length))))) h') : V Γ mX7_goesOn d 124 124 h 0 [some (.ref 43)] [] Q := by
  have loop : ∀ k b h1, B.length - b = k → skp B b = skp B a → TpI h1 B b → gI h1 43 2 = gI h 43 2 → gI h1 43 3 = gI h 43 3 → Fr1 h h1 43 44 → V Γ mX7_goesOn d 124 124 h1 0 [some (.ref 43)] [] Q := by
    intro k
    induction k using Nat.strongRecOn with
    | _ k ih =>
      intro b h1 hk hb hI1 z2 z3 hF1
      have hr1 : gR h1 43 4 = some 44 := by rw [hF1.2.2]; exact hr
      obtain ⟨a0, a1, a2, a3, a4, a5⟩ := id hI1
      have h4 := a4 b
      refine V_aloadn0 dX7_goesOn_0 ?_
      refine V_getI dX7_goesOn_1 fX7_19 (Or.inl rfl) (by first | assumption | rfl) (by first | decide | omega) (by first | assumption | exact a2 _ (by omega) | rfl) ?_
      refine V_aloadn0 dX7_goesOn_4 ?_
      refine V_getI dX7_goesOn_5 fX7_15 (Or.inl rfl) (by first | assumption | rfl) (by first | decide | omega) (by first | assumption | exact a2 _ (by omega) | rfl) ?_
      first | refine U_icmp_ge (tgt := 38) dX7_goesOn_8 (by decide) (by with_reducible rfl) (by with_reducible rfl) (by omega) (by omega) (fun c8 => ?_) (fun c8 => ?_) | refine V_icmp_ge (tgt := 38) dX7_goesOn_8 (by decide) (fun c8 => ?_) (fun c8 => ?_)
      · skip
        have e : skp B b = b := skp_stop (Or.inl (by omega))
        rw [← hb, e] at hQ
        refine V_aloadn0 dX7_goesOn_38 ?_
        refine V_getI dX7_goesOn_39 fX7_19 (Or.inl rfl) (by first | assumption | rfl) (by first | decide | omega) (by first | assumption | exact a2 _ (by omega) | rfl) ?_
        refine V_aloadn0 dX7_goesOn_42 ?_
        refine V_getI dX7_goesOn_43 fX7_15 (Or.inl rfl) (by first | assumption | rfl) (by first | decide | omega) (by first | assumption | exact a2 _ (by omega) | rfl) ?_
        first | refine U_icmp_ge (tgt := 53) dX7_goesOn_46 (by decide) (by with_reducible rfl) (by with_reducible rfl) (by omega) (by omega) (fun c46 => ?_) (fun c46 => ?_) | refine V_icmp_ge (tgt := 53) dX7_goesOn_46 (by decide) (fun c46 => ?_) (fun c46 => ?_)
        · skip
          have hQ9 := hQ h1 hI1 z2 z3 hF1
          rw [decide_eq_false (by omega), gBo_f] at hQ9
          refine V_iconst (v := nI 0) dX7_goesOn_53 (by decide) ?_
          refine V_iret dX7_goesOn_54 rfl (by first | exact gBo_nar _ | rfl | decide) ?_
          exact hQ9
        · skip
          have hQ9 := hQ h1 hI1 z2 z3 hF1
          rw [decide_eq_true (by omega), gBo_t] at hQ9
          refine V_iconst (v := nI 1) dX7_goesOn_49 (by decide) ?_
          refine V_goto (tgt := 54) dX7_goesOn_50 (by decide) ?_
          refine V_iret dX7_goesOn_54 rfl (by first | exact gBo_nar _ | rfl | decide) ?_
          exact hQ9
      · skip
        refine V_aloadn0 dX7_goesOn_11 ?_
        refine V_getR dX7_goesOn_12 fX7_9 (by first | assumption | rfl) (by first | decide | omega) (by first | assumption | exact a2 _ (by omega) | rfl) ?_
        refine V_aloadn0 dX7_goesOn_15 ?_
        refine V_getI dX7_goesOn_16 fX7_19 (Or.inl rfl) (by first | assumption | rfl) (by first | decide | omega) (by first | assumption | exact a2 _ (by omega) | rfl) ?_
        refine U_iald dX7_goesOn_19 (by with_reducible rfl) (by first | assumption | rfl) (by first | decide | omega) (by omega) (by first | assumption | exact a2 _ (by omega) | rfl) ?_
        refine V_bipush (v := nI 32) dX7_goesOn_20 (by decide) ?_
        first | refine U_icmp_ne (tgt := 38) dX7_goesOn_22 (by decide) (by with_reducible rfl) (by with_reducible rfl) (by omega) (by omega) (fun c22 => ?_) (fun c22 => ?_) | refine V_icmp_ne (tgt := 38) dX7_goesOn_22 (by decide) (fun c22 => ?_) (fun c22 => ?_)
        · skip
          have e : skp B b = b := skp_stop (Or.inr c22)
          rw [← hb, e] at hQ
          refine V_aloadn0 dX7_goesOn_38 ?_
          refine V_getI dX7_goesOn_39 fX7_19 (Or.inl rfl) (by first | assumption | rfl) (by first | decide | omega) (by first | assumption | exact a2 _ (by omega) | rfl) ?_
          refine V_aloadn0 dX7_goesOn_42 ?_
          refine V_getI dX7_goesOn_43 fX7_15 (Or.inl rfl) (by first | assumption | rfl) (by first | decide | omega) (by first | assumption | exact a2 _ (by omega) | rfl) ?_
          first | refine U_icmp_ge (tgt := 53) dX7_goesOn_46 (by decide) (by with_reducible rfl) (by with_reducible rfl) (by omega) (by omega) (fun c46 => ?_) (fun c46 => ?_) | refine V_icmp_ge (tgt := 53) dX7_goesOn_46 (by decide) (fun c46 => ?_) (fun c46 => ?_)
          · skip
            have hQ9 := hQ h1 hI1 z2 z3 hF1
            rw [decide_eq_false (by omega), gBo_f] at hQ9
            refine V_iconst (v := nI 0) dX7_goesOn_53 (by decide) ?_
            refine V_iret dX7_goesOn_54 rfl (by first | exact gBo_nar _ | rfl | decide) ?_
            exact hQ9
          · skip
            have hQ9 := hQ h1 hI1 z2 z3 hF1
            rw [decide_eq_true (by omega), gBo_t] at hQ9
            refine V_iconst (v := nI 1) dX7_goesOn_49 (by decide) ?_
            refine V_goto (tgt := 54) dX7_goesOn_50 (by decide) ?_
            refine V_iret dX7_goesOn_54 rfl (by first | exact gBo_nar _ | rfl | decide) ?_
            exact hQ9
        · skip
          refine V_aloadn0 dX7_goesOn_25 ?_
          first | refine V_dupa dX7_goesOn_26 ?_ | refine V_dupi dX7_goesOn_26 ?_
          refine V_getI dX7_goesOn_27 fX7_19 (Or.inl rfl) (by first | assumption | rfl) (by first | decide | omega) (by first | assumption | exact a2 _ (by omega) | rfl) ?_
          refine V_iconst (v := nI 1) dX7_goesOn_30 (by decide) ?_
          first | refine U_iadd dX7_goesOn_31 (by with_reducible rfl) (by with_reducible rfl) ?_ | refine V_iadd dX7_goesOn_31 ?_
          refine V_putI dX7_goesOn_32 fX7_19 (by first | assumption | rfl) (by first | decide | omega) ?_
          refine V_goto (tgt := 0) dX7_goesOn_35 (by decide) ?_
          exact ih (B.length - (b + 1)) (by omega) (b + 1) _ rfl (by rw [← skp_blank (by omega) c22]; exact hb) (TpI_at hI1 (by omega)) (by rw [gI_sI, if_neg (by omega)]; exact z2) (by rw [gI_sI, if_neg (by omega)]; exact z3) (fr_sI hF1 (by omega) (by omega))
  exact loop _ a h rfl rfl hI rfl rfl Fr1.rf
set_option maxRecDepth 100000 in
set_option maxHeartbeats 4000000 in
theorem c_isDigit {B : List Nat} {a u v : Nat} (hr : gR h 43 4 = some 44) (hI : TpI h B a) (ha : a < B.length) (hu : u ≤ 9) (hv : v ≤ 9) (hQ : Q (some (.int (gBo (decide (48 + u ≤ B.getD a 0 ∧ B.getD a 0 ≤ 48 + v))))) h) : V Γ mX7_isDigit d 124 124 h 0 [some (.ref 43), some (.int (nI u)), some (.int (nI v))] [] Q := by
  obtain ⟨a0, a1, a2, a3, a4, a5⟩ := id hI
  have h4 := a4 a
  refine V_aloadn0 dX7_isDigit_0 ?_
  refine V_getR dX7_isDigit_1 fX7_9 (by first | assumption | rfl) (by first | decide | omega) (by first | assumption | exact a2 _ (by omega) | rfl) ?_
  refine V_aloadn0 dX7_isDigit_4 ?_
  refine V_getI dX7_isDigit_5 fX7_19 (Or.inl rfl) (by first | assumption | rfl) (by first | decide | omega) (by first | assumption | exact a2 _ (by omega) | rfl) ?_
  refine U_iald dX7_isDigit_8 (by with_reducible rfl) (by first | assumption | rfl) (by first | decide | omega) (by omega) (by first | assumption | exact a2 _ (by omega) | rfl) ?_
  refine V_bipush (v := nI 48) dX7_isDigit_9 (by decide) ?_
  refine V_iloadn1 dX7_isDigit_11 ?_
  first | refine U_iadd dX7_isDigit_12 (by with_reducible rfl) (by with_reducible rfl) ?_ | refine V_iadd dX7_isDigit_12 ?_
  first | refine U_icmp_lt (tgt := 36) dX7_isDigit_13 (by decide) (by with_reducible rfl) (by with_reducible rfl) (by omega) (by omega) (fun c13 => ?_) (fun c13 => ?_) | refine V_icmp_lt (tgt := 36) dX7_isDigit_13 (by decide) (fun c13 => ?_) (fun c13 => ?_)
  · skip
    rw [decide_eq_false (by omega), gBo_f] at hQ
    refine V_iconst (v := nI 0) dX7_isDigit_36 (by decide) ?_
    refine V_iret dX7_isDigit_37 rfl (by first | exact gBo_nar _ | rfl | decide) ?_
    exact hQ
  · skip
    refine V_aloadn0 dX7_isDigit_16 ?_
    refine V_getR dX7_isDigit_17 fX7_9 (by first | assumption | rfl) (by first | decide | omega) (by first | assumption | exact a2 _ (by omega) | rfl) ?_
    refine V_aloadn0 dX7_isDigit_20 ?_
    refine V_getI dX7_isDigit_21 fX7_19 (Or.inl rfl) (by first | assumption | rfl) (by first | decide | omega) (by first | assumption | exact a2 _ (by omega) | rfl) ?_
    refine U_iald dX7_isDigit_24 (by with_reducible rfl) (by first | assumption | rfl) (by first | decide | omega) (by omega) (by first | assumption | exact a2 _ (by omega) | rfl) ?_
    refine V_bipush (v := nI 48) dX7_isDigit_25 (by decide) ?_
    refine V_iloadn2 dX7_isDigit_27 ?_
    first | refine U_iadd dX7_isDigit_28 (by with_reducible rfl) (by with_reducible rfl) ?_ | refine V_iadd dX7_isDigit_28 ?_
    first | refine U_icmp_gt (tgt := 36) dX7_isDigit_29 (by decide) (by with_reducible rfl) (by with_reducible rfl) (by omega) (by omega) (fun c29 => ?_) (fun c29 => ?_) | refine V_icmp_gt (tgt := 36) dX7_isDigit_29 (by decide) (fun c29 => ?_) (fun c29 => ?_)
    · skip
      rw [decide_eq_false (by omega), gBo_f] at hQ
      refine V_iconst (v := nI 0) dX7_isDigit_36 (by decide) ?_
      refine V_iret dX7_isDigit_37 rfl (by first | exact gBo_nar _ | rfl | decide) ?_
      exact hQ
    · skip
      rw [decide_eq_true (by omega), gBo_t] at hQ
      refine V_iconst (v := nI 1) dX7_isDigit_32 (by decide) ?_
      refine V_goto (tgt := 37) dX7_isDigit_33 (by decide) ?_
      refine V_iret dX7_isDigit_37 rfl (by first | exact gBo_nar _ | rfl | decide) ?_
      exact hQ
set_option maxRecDepth 100000 in
set_option maxHeartbeats 4000000 in
theorem c_endOfName {B : List Nat} {a : Nat} (hr : gR h 43 4 = some 44) (hI : TpI h B a) (hQ : Q (some (.int (nI (eon B a)))) h) : V Γ mX7_endOfName d 124 124 h 0 [some (.ref 43), none] [] Q := by
  obtain ⟨a0, a1, a2, a3, a4, a5⟩ := id hI
  have loop : ∀ k b, B.length - b = k → b ≤ B.length → eon B b = eon B a → V Γ mX7_endOfName d 124 124 h 5 [some (.ref 43), some (.int (nI b))] [] Q := by
    intro k
    induction k using Nat.strongRecOn with
    | _ k ih =>
      intro b hk hbl hb
      have h4 := a4 b
      have stopE : B.length ≤ b ∨ ¬ (97 ≤ B.getD b 0 ∧ B.getD b 0 ≤ 122) → eon B a = b := fun q => by
        rw [← hb]
        unfold eon
        rcases Nat.lt_or_ge b B.length with hlt | hge
        · rw [drop_getDn hlt, azN, if_neg (by rcases q with q | q; omega; exact q)]; rfl
        · rw [List.drop_eq_nil_of_le hge]; rfl
      refine V_iloadn1 dX7_endOfName_5 ?_
      refine V_aloadn0 dX7_endOfName_6 ?_
      refine V_getI dX7_endOfName_7 fX7_15 (Or.inl rfl) (by first | assumption | rfl) (by first | decide | omega) (by first | assumption | exact a2 _ (by omega) | rfl) ?_
      first | refine U_icmp_ge (tgt := 41) dX7_endOfName_10 (by decide) (by with_reducible rfl) (by with_reducible rfl) (by omega) (by omega) (fun c10 => ?_) (fun c10 => ?_) | refine V_icmp_ge (tgt := 41) dX7_endOfName_10 (by decide) (fun c10 => ?_) (fun c10 => ?_)
      · skip
        rw [stopE (Or.inl (by omega))] at hQ
        refine V_iloadn1 dX7_endOfName_41 ?_
        refine V_iret dX7_endOfName_42 rfl rfl ?_
        exact hQ
      · skip
        refine V_aloadn0 dX7_endOfName_13 ?_
        refine V_getR dX7_endOfName_14 fX7_9 (by first | assumption | rfl) (by first | decide | omega) (by first | assumption | exact a2 _ (by omega) | rfl) ?_
        refine V_iloadn1 dX7_endOfName_17 ?_
        refine U_iald dX7_endOfName_18 (by with_reducible rfl) (by first | assumption | rfl) (by first | decide | omega) (by omega) (by first | assumption | exact a2 _ (by omega) | rfl) ?_
        refine V_bipush (v := nI 97) dX7_endOfName_19 (by decide) ?_
        first | refine U_icmp_lt (tgt := 41) dX7_endOfName_21 (by decide) (by with_reducible rfl) (by with_reducible rfl) (by omega) (by omega) (fun c21 => ?_) (fun c21 => ?_) | refine V_icmp_lt (tgt := 41) dX7_endOfName_21 (by decide) (fun c21 => ?_) (fun c21 => ?_)
        · skip
          rw [stopE (Or.inr (by omega))] at hQ
          refine V_iloadn1 dX7_endOfName_41 ?_
          refine V_iret dX7_endOfName_42 rfl rfl ?_
          exact hQ
        · skip
          refine V_aloadn0 dX7_endOfName_24 ?_
          refine V_getR dX7_endOfName_25 fX7_9 (by first | assumption | rfl) (by first | decide | omega) (by first | assumption | exact a2 _ (by omega) | rfl) ?_
          refine V_iloadn1 dX7_endOfName_28 ?_
          refine U_iald dX7_endOfName_29 (by with_reducible rfl) (by first | assumption | rfl) (by first | decide | omega) (by omega) (by first | assumption | exact a2 _ (by omega) | rfl) ?_
          refine V_bipush (v := nI 122) dX7_endOfName_30 (by decide) ?_
          first | refine U_icmp_gt (tgt := 41) dX7_endOfName_32 (by decide) (by with_reducible rfl) (by with_reducible rfl) (by omega) (by omega) (fun c32 => ?_) (fun c32 => ?_) | refine V_icmp_gt (tgt := 41) dX7_endOfName_32 (by decide) (fun c32 => ?_) (fun c32 => ?_)
          · skip
            rw [stopE (Or.inr (by omega))] at hQ
            refine V_iloadn1 dX7_endOfName_41 ?_
            refine V_iret dX7_endOfName_42 rfl rfl ?_
            exact hQ
          · skip
            refine V_iinc1 dX7_endOfName_35 (by first | exact ginc1 _ | rfl) (by decide) rfl ?_
            refine V_goto (tgt := 5) dX7_endOfName_38 (by decide) ?_
            refine ih (B.length - (b + 1)) (by omega) (b + 1) rfl (by omega) ?_
            rw [← hb]
            unfold eon
            rw [drop_getDn (q := b) (by omega), azN, if_pos (by omega)]
            omega
  refine V_aloadn0 dX7_endOfName_0 ?_
  refine V_getI dX7_endOfName_1 fX7_19 (Or.inl rfl) (by first | assumption | rfl) (by first | decide | omega) (by first | assumption | rfl) ?_
  refine V_istoren1 dX7_endOfName_4 (by decide) rfl ?_
  exact loop _ a rfl a5 rfl
set_option maxRecDepth 100000 in
set_option maxHeartbeats 4000000 in
theorem c_nameOf {k : Nat} (hk : k < 6) (hQ : Q (some (.ref (1001 + k))) h) : V Γ mX7_nameOf d 124 124 h 0 [some (.int (nI k))] [] Q := by
  match k, hk, hQ with
  | 0, _, hQ =>
    refine V_iloadn0 dX7_nameOf_0 ?_
    refine V_tableIn (tgt := 36) dX7_nameOf_1 (by decide) (by decide) (by rfl) (by decide) ?_
    refine V_ldcS (i := 0) dX7_nameOf_36 rfl rfl ?_
    refine V_aret dX7_nameOf_38 rfl ?_
    exact hQ
  | 1, _, hQ =>
    refine V_iloadn0 dX7_nameOf_0 ?_
    refine V_tableIn (tgt := 39) dX7_nameOf_1 (by decide) (by decide) (by rfl) (by decide) ?_
    refine V_ldcS (i := 1) dX7_nameOf_39 rfl rfl ?_
    refine V_aret dX7_nameOf_41 rfl ?_
    exact hQ
  | 2, _, hQ =>
    refine V_iloadn0 dX7_nameOf_0 ?_
    refine V_tableIn (tgt := 42) dX7_nameOf_1 (by decide) (by decide) (by rfl) (by decide) ?_
    refine V_ldcS (i := 2) dX7_nameOf_42 rfl rfl ?_
    refine V_aret dX7_nameOf_44 rfl ?_
    exact hQ
  | 3, _, hQ =>
    refine V_iloadn0 dX7_nameOf_0 ?_
    refine V_tableIn (tgt := 45) dX7_nameOf_1 (by decide) (by decide) (by rfl) (by decide) ?_
    refine V_ldcS (i := 3) dX7_nameOf_45 rfl rfl ?_
    refine V_aret dX7_nameOf_47 rfl ?_
    exact hQ
  | 4, _, hQ =>
    refine V_iloadn0 dX7_nameOf_0 ?_
    refine V_tableIn (tgt := 48) dX7_nameOf_1 (by decide) (by decide) (by rfl) (by decide) ?_
    refine V_ldcS (i := 4) dX7_nameOf_48 rfl rfl ?_
    refine V_aret dX7_nameOf_50 rfl ?_
    exact hQ
  | 5, _, hQ =>
    refine V_iloadn0 dX7_nameOf_0 ?_
    refine V_tableOut (tgt := 51) dX7_nameOf_1 (by decide) (by decide) ?_
    refine V_ldcS (i := 5) dX7_nameOf_51 rfl rfl ?_
    refine V_aret dX7_nameOf_53 rfl ?_
    exact hQ
/-- the name that stands at a, up to e, is the k-th -/
def nmB (B : List Nat) (a e k : Nat) : Bool := decide (e - a = (nmL.getD k []).length) && (List.range (nmL.getD k []).length).all (fun j => decide (B.getD (a + j) 0 = (nmL.getD k []).getD j 0))
theorem nmL_le : ∀ k, k < 6 → (nmL.getD k []).length ≤ 7 ∧ ∀ j, j < 7 → (nmL.getD k []).getD j 0 ≤ 255 := by decide +kernel
set_option maxRecDepth 100000 in
set_option maxHeartbeats 4000000 in
theorem c_isName {B : List Nat} {a e k : Nat} (hd : 4 ≤ d) (hr : gR h 43 4 = some 44) (hI : TpI h B a) (hae : a ≤ e) (he : e ≤ B.length) (hk : k < 6) (hQ : Q (some (.int (gBo (nmB B a e k)))) h) : V Γ mX7_isName d 124 124 h 0 [some (.ref 43), some (.ref (1001 + k)), some (.int (nI e)), none] [] Q := by
  obtain ⟨a0, a1, a2, a3, a4, a5⟩ := id hI
  obtain ⟨n7, nb⟩ := nmL_le k hk
  have hlen := gSlen_eq hk
  have loop : ∀ f j, (nmL.getD k []).length - j = f → j ≤ (nmL.getD k []).length → e - a = (nmL.getD k []).length → (∀ i, i < j → B.getD (a + i) 0 = (nmL.getD k []).getD i 0) → V Γ mX7_isName d 124 124 h 17 [some (.ref 43), some (.ref (1001 + k)), some (.int (nI e)), some (.int (nI j))] [] Q := by
    intro f
    induction f using Nat.strongRecOn with
    | _ f ih =>
      intro j hf hj hl hp
      have h4 := a4 (a + j)
      refine V_iloadn3 dX7_isName_17 ?_
      refine V_aloadn1 dX7_isName_18 ?_
      refine V_callT0 (μ' := mJ0_length_8abf5) dX7_isName_19 okJ0_length_8abf5 lX7_73 rfl (by omega) (Nat.le_of_ble_eq_true rfl) (Nat.le_of_ble_eq_true rfl) (by omega) ?_
      refine c_strLen (by omega) hk ?_
      dsimp only [gPush]
      first | refine U_icmp_ge (tgt := 52) dX7_isName_22 (by decide) (by with_reducible rfl) (by with_reducible rfl) (by omega) (by omega) (fun c22 => ?_) (fun c22 => ?_) | refine V_icmp_ge (tgt := 52) dX7_isName_22 (by decide) (fun c22 => ?_) (fun c22 => ?_)
      · skip
        have e9 : nmB B a e k = true := by
          unfold nmB
          rw [decide_eq_true hl, Bool.true_and, List.all_eq_true]
          intro i hi
          exact decide_eq_true (hp i (by have := List.mem_range.mp hi; omega))
        rw [e9, gBo_t] at hQ
        refine V_iconst (v := nI 1) dX7_isName_52 (by decide) ?_
        refine V_iret dX7_isName_53 rfl (by first | exact gBo_nar _ | rfl | decide) ?_
        exact hQ
      · skip
        have hb7 := nb j (by omega)
        refine V_aloadn0 dX7_isName_25 ?_
        refine V_getR dX7_isName_26 fX7_9 (by first | assumption | rfl) (by first | decide | omega) (by first | assumption | exact a2 _ (by omega) | rfl) ?_
        refine V_aloadn0 dX7_isName_29 ?_
        refine V_getI dX7_isName_30 fX7_19 (Or.inl rfl) (by first | assumption | rfl) (by first | decide | omega) (by first | assumption | exact a2 _ (by omega) | rfl) ?_
        refine V_iloadn3 dX7_isName_33 ?_
        first | refine U_iadd dX7_isName_34 (by with_reducible rfl) (by with_reducible rfl) ?_ | refine V_iadd dX7_isName_34 ?_
        refine U_iald dX7_isName_35 (by with_reducible rfl) (by first | assumption | rfl) (by first | decide | omega) (by omega) (by first | assumption | exact a2 _ (by omega) | rfl) ?_
        refine V_aloadn1 dX7_isName_36 ?_
        refine V_iloadn3 dX7_isName_37 ?_
        refine V_callT1 (μ' := mJ0_charAt_5068e) dX7_isName_38 okJ0_charAt_5068e lX7_77 rfl (by omega) (Nat.le_of_ble_eq_true rfl) (Nat.le_of_ble_eq_true rfl) (by omega) ?_
        refine c_charAt (by omega) hk (by omega) ?_
        dsimp only [gPush]
        first | refine U_icmp_eq (tgt := 46) dX7_isName_41 (by decide) (by with_reducible rfl) (by with_reducible rfl) (by omega) (by omega) (fun c41 => ?_) (fun c41 => ?_) | refine V_icmp_eq (tgt := 46) dX7_isName_41 (by decide) (fun c41 => ?_) (fun c41 => ?_)
        · skip
          refine V_iinc3 dX7_isName_46 (by first | exact ginc1 _ | rfl) (by decide) rfl ?_
          refine V_goto (tgt := 17) dX7_isName_49 (by decide) ?_
          exact ih _ (by omega) (j + 1) rfl (by omega) hl (fun i hi => by
            by_cases ei : i = j
            · subst ei; exact c41
            · exact hp i (by omega))
        · skip
          have e9 : nmB B a e k = false := by
            unfold nmB
            rw [Bool.and_eq_false_iff]
            right
            rw [List.all_eq_false]
            exact ⟨j, List.mem_range.mpr (by omega), by rw [decide_eq_false c41]; exact Bool.false_ne_true⟩
          rw [e9, gBo_f] at hQ
          refine V_iconst (v := nI 0) dX7_isName_44 (by decide) ?_
          refine V_iret dX7_isName_45 rfl (by first | exact gBo_nar _ | rfl | decide) ?_
          exact hQ
  refine V_iloadn2 dX7_isName_0 ?_
  refine V_aloadn0 dX7_isName_1 ?_
  refine V_getI dX7_isName_2 fX7_19 (Or.inl rfl) (by first | assumption | rfl) (by first | decide | omega) (by first | assumption | rfl) ?_
  first | refine U_isub dX7_isName_5 (by with_reducible rfl) (by with_reducible rfl) (by omega) ?_ | refine V_isub dX7_isName_5 ?_
  refine V_aloadn1 dX7_isName_6 ?_
  refine V_callT0 (μ' := mJ0_length_8abf5) dX7_isName_7 okJ0_length_8abf5 lX7_73 rfl (by omega) (Nat.le_of_ble_eq_true rfl) (Nat.le_of_ble_eq_true rfl) (by omega) ?_
  refine c_strLen (by omega) hk ?_
  dsimp only [gPush]
  first | refine U_icmp_eq (tgt := 15) dX7_isName_10 (by decide) (by with_reducible rfl) (by with_reducible rfl) (by omega) (by omega) (fun c10 => ?_) (fun c10 => ?_) | refine V_icmp_eq (tgt := 15) dX7_isName_10 (by decide) (fun c10 => ?_) (fun c10 => ?_)
  · skip
    refine V_iconst (v := nI 0) dX7_isName_15 (by decide) ?_
    refine V_istoren3 dX7_isName_16 (by decide) rfl ?_
    exact loop _ 0 rfl (by omega) c10 (fun i hi => absurd hi (Nat.not_lt_zero _))
  · skip
    have e9 : nmB B a e k = false := by unfold nmB; rw [decide_eq_false c10, Bool.false_and]
    rw [e9, gBo_f] at hQ
    refine V_iconst (v := nI 0) dX7_isName_13 (by decide) ?_
    refine V_iret dX7_isName_14 rfl (by first | exact gBo_nar _ | rfl | decide) ?_
    exact hQ
end C22
