/-! ===== the reference: a filling that is full ===== -/
theorem hiB_s (w : List Nat) (i k : Nat) : hiB w i (k + 1) = (decide (highC w i = 0) && hiB w (i + 1) k) := by
  rw [hiB]
  by_cases q : fhC w i = 0
  · rw [if_neg (fun z => z q), decide_eq_true ((fhC_z w i).mpr q), Bool.true_and]
  · rw [if_pos q, decide_eq_false (fun z => q ((fhC_z w i).mp z)), Bool.false_and]
def pk (wt : Nat → Nat) (w : List Nat) (x : Nat) (a : Int64) : Nat → Int64
  | 0 => a
  | k + 1 => pk wt w x a k * (if w.getD k 0 = x then lN (wt x) else 1)
def ck (w : List Nat) (x : Nat) : Nat → Nat
  | 0 => 0
  | k + 1 => ck w x k + (if w.getD k 0 = x then 1 else 0)
theorem ck_le (w : List Nat) (x : Nat) : ∀ k, ck w x k ≤ k
  | 0 => Nat.le_refl _
  | k + 1 => by have := ck_le w x k; rw [ck]; split <;> omega
def PX (wt : Nat → Nat) (w : List Nat) : Nat → Int64
  | 0 => 1
  | x + 1 => pk wt w (x + 1) (PX wt w x) w.length
def KX (mode : Nat) (D : Nat → Nat) (w : List Nat) (ok : Bool) : Nat → Bool
  | 0 => ok
  | x + 1 => KX mode D w ok x && (decide (mode = 2) || decide (ck w (x + 1) w.length = D (x + 1)))
section C78
variable {Γ : gM} {d : Nat} {h : gH} {Q : Option Value → gH → Prop} {S : GS}
set_option maxRecDepth 100000 in
set_option maxHeartbeats 4000000 in
theorem m_isHighest {n : Nat} {w : List Nat} (hd : 1 ≤ d) (hn1 : 1 ≤ n) (hn5 : n ≤ 5) (hM : MLay h) (r0 : gI h 94 0 = nI n) (hW : WW h w) (hQ : ∀ h', gI h' 105 = gI h 105 → FrK h h' → Q (some (.int (gBo (hiB w 1 (n - 1))))) h') : V Γ mX10_isHighest d 124 124 h 0 [some (.ref 94), none, none] [] Q := by
  have loop : ∀ f i b h1, i + f = n → 1 ≤ i → (b && hiB w i f) = hiB w 1 (n - 1) → gI h1 105 = gI h 105 → FrK h h1 → V Γ mX10_isHighest d 124 124 h1 4 [some (.ref 94), some (.int (gBo b)), some (.int (nI i))] [] Q := by
    intro f
    induction f with
    | zero =>
      intro i b h1 hi hi1 hb e1 hF
      have n1 : gI h1 94 0 = nI n := by rw [hF.2.1 0 (by omega)]; exact r0
      rw [hiB, Bool.and_true] at hb
      rw [← hb] at hQ
      have hQ9 := hQ h1 e1 hF
      refine V_iloadn2 dX10_isHighest_4 ?_
      refine V_aloadn0 dX10_isHighest_5 ?_
      refine V_getI dX10_isHighest_6 fX10_7 (Or.inl rfl) (by first | assumption | rfl) (by first | decide | omega) (by first | assumption | exact ML_4 (by assumption) | exact ML_5 (by assumption) | exact ML_6 (by assumption) | exact ML_7 (by assumption) | exact ML_8 (by assumption) | exact ML_9 (by assumption) | exact ML_10 (by assumption) | exact ML_11 (by assumption) | exact ML_12 (by assumption) | exact ML_13 (by assumption) | exact ML_15 (by assumption) | exact ML_16 (by assumption) | exact ML_17 (by assumption) | exact ML_20 (by assumption) | exact ML_23 (by assumption) | exact ML_24 (by assumption) | exact ML_30 (by assumption) | exact ML_31 (by assumption) | exact ML_32 (by assumption) | exact ML_33 (by assumption) | exact ML_35 (by assumption) | exact ML_36 (by assumption) | exact ML_37 (by assumption) | exact ML_38 (by assumption) | exact ML_41 (by assumption) | exact ML_42 (by assumption) | exact ML_43 (by assumption) | exact ML_44 (by assumption) | exact ML_45 (by assumption) | rfl) ?_
      first | refine U_icmp_ge (tgt := 40) dX10_isHighest_9 (by decide) (by with_reducible rfl) (by with_reducible rfl) (by omega) (by omega) (fun c9 => ?_) (fun c9 => ?_) | refine V_icmp_ge (tgt := 40) dX10_isHighest_9 (by decide) (fun c9 => ?_) (fun c9 => ?_)
      · skip
        refine V_iloadn1 dX10_isHighest_40 ?_
        refine V_iret dX10_isHighest_41 rfl (by first | exact gBo_nar _ | rfl | decide) ?_
        exact hQ9
      · skip
        omega
    | succ f ih =>
      intro i b h1 hi hi1 hb e1 hF
      have hM1 := MLay_eq hM hF.2.2.2
      have n1 : gI h1 94 0 = nI n := by rw [hF.2.1 0 (by omega)]; exact r0
      have hW1 : WW h1 w := WW_cg hW (hF.2.1 18 (by omega)) e1
      have hhl := highC_le w i
      have hw6 := hW.2.2.1
      rw [hiB_s, ← Bool.and_assoc] at hb
      have fin : ∀ h2, gI h2 94 26 = nI (highC w i) → gI h2 105 = gI h 105 → FrK h h2 → V Γ mX10_isHighest d 124 124 h2 17 [some (.ref 94), some (.int (gBo b)), some (.int (nI i))] [] Q := by
        intro h2 g26 e2 hF2
        cases b with
        | false =>
          have z := ih (i + 1) false h2 (by omega) (by omega) (by rw [← hb]; simp) e2 hF2
          refine V_iloadn1 dX10_isHighest_17 ?_
          first | refine U_ifB_eq (tgt := 32) dX10_isHighest_18 (by decide) (by with_reducible rfl) (fun c18 => ?_) (fun c18 => ?_) | refine U_if_eq (tgt := 32) dX10_isHighest_18 (by decide) (by with_reducible rfl) (by omega) (fun c18 => ?_) (fun c18 => ?_) | refine V_if_eq (tgt := 32) dX10_isHighest_18 (by decide) (fun c18 => ?_) (fun c18 => ?_)
          · skip
            refine V_iconst (v := nI 0) dX10_isHighest_32 (by decide) ?_
            refine V_istoren1 dX10_isHighest_33 (by decide) rfl ?_
            refine V_iinc2 dX10_isHighest_34 (by first | exact ginc1 _ | rfl) (by decide) rfl ?_
            refine V_goto (tgt := 4) dX10_isHighest_37 (by decide) ?_
            exact z
          · skip
            cases c18
        | true =>
          by_cases q : highC w i = 0
          · have z := ih (i + 1) true h2 (by omega) (by omega) (by rw [← hb, decide_eq_true q]; simp) e2 hF2
            refine V_iloadn1 dX10_isHighest_17 ?_
            first | refine U_ifB_eq (tgt := 32) dX10_isHighest_18 (by decide) (by with_reducible rfl) (fun c18 => ?_) (fun c18 => ?_) | refine U_if_eq (tgt := 32) dX10_isHighest_18 (by decide) (by with_reducible rfl) (by omega) (fun c18 => ?_) (fun c18 => ?_) | refine V_if_eq (tgt := 32) dX10_isHighest_18 (by decide) (fun c18 => ?_) (fun c18 => ?_)
            · skip
              cases c18
            · skip
              refine V_aloadn0 dX10_isHighest_21 ?_
              refine V_getI dX10_isHighest_22 fX10_164 (Or.inl rfl) (by first | assumption | rfl) (by first | decide | omega) (by first | assumption | exact ML_4 (by assumption) | exact ML_5 (by assumption) | exact ML_6 (by assumption) | exact ML_7 (by assumption) | exact ML_8 (by assumption) | exact ML_9 (by assumption) | exact ML_10 (by assumption) | exact ML_11 (by assumption) | exact ML_12 (by assumption) | exact ML_13 (by assumption) | exact ML_15 (by assumption) | exact ML_16 (by assumption) | exact ML_17 (by assumption) | exact ML_20 (by assumption) | exact ML_23 (by assumption) | exact ML_24 (by assumption) | exact ML_30 (by assumption) | exact ML_31 (by assumption) | exact ML_32 (by assumption) | exact ML_33 (by assumption) | exact ML_35 (by assumption) | exact ML_36 (by assumption) | exact ML_37 (by assumption) | exact ML_38 (by assumption) | exact ML_41 (by assumption) | exact ML_42 (by assumption) | exact ML_43 (by assumption) | exact ML_44 (by assumption) | exact ML_45 (by assumption) | rfl) ?_
              first | refine U_ifB_ne (tgt := 32) dX10_isHighest_25 (by decide) (by with_reducible rfl) (fun c25 => ?_) (fun c25 => ?_) | refine U_if_ne (tgt := 32) dX10_isHighest_25 (by decide) (by with_reducible rfl) (by omega) (fun c25 => ?_) (fun c25 => ?_) | refine V_if_ne (tgt := 32) dX10_isHighest_25 (by decide) (fun c25 => ?_) (fun c25 => ?_)
              · skip
                omega
              · skip
                refine V_iconst (v := nI 1) dX10_isHighest_28 (by decide) ?_
                refine V_goto (tgt := 33) dX10_isHighest_29 (by decide) ?_
                refine V_istoren1 dX10_isHighest_33 (by decide) rfl ?_
                refine V_iinc2 dX10_isHighest_34 (by first | exact ginc1 _ | rfl) (by decide) rfl ?_
                refine V_goto (tgt := 4) dX10_isHighest_37 (by decide) ?_
                exact z
          · have z := ih (i + 1) false h2 (by omega) (by omega) (by rw [← hb, decide_eq_false q]; simp) e2 hF2
            refine V_iloadn1 dX10_isHighest_17 ?_
            first | refine U_ifB_eq (tgt := 32) dX10_isHighest_18 (by decide) (by with_reducible rfl) (fun c18 => ?_) (fun c18 => ?_) | refine U_if_eq (tgt := 32) dX10_isHighest_18 (by decide) (by with_reducible rfl) (by omega) (fun c18 => ?_) (fun c18 => ?_) | refine V_if_eq (tgt := 32) dX10_isHighest_18 (by decide) (fun c18 => ?_) (fun c18 => ?_)
            · skip
              cases c18
            · skip
              refine V_aloadn0 dX10_isHighest_21 ?_
              refine V_getI dX10_isHighest_22 fX10_164 (Or.inl rfl) (by first | assumption | rfl) (by first | decide | omega) (by first | assumption | exact ML_4 (by assumption) | exact ML_5 (by assumption) | exact ML_6 (by assumption) | exact ML_7 (by assumption) | exact ML_8 (by assumption) | exact ML_9 (by assumption) | exact ML_10 (by assumption) | exact ML_11 (by assumption) | exact ML_12 (by assumption) | exact ML_13 (by assumption) | exact ML_15 (by assumption) | exact ML_16 (by assumption) | exact ML_17 (by assumption) | exact ML_20 (by assumption) | exact ML_23 (by assumption) | exact ML_24 (by assumption) | exact ML_30 (by assumption) | exact ML_31 (by assumption) | exact ML_32 (by assumption) | exact ML_33 (by assumption) | exact ML_35 (by assumption) | exact ML_36 (by assumption) | exact ML_37 (by assumption) | exact ML_38 (by assumption) | exact ML_41 (by assumption) | exact ML_42 (by assumption) | exact ML_43 (by assumption) | exact ML_44 (by assumption) | exact ML_45 (by assumption) | rfl) ?_
              first | refine U_ifB_ne (tgt := 32) dX10_isHighest_25 (by decide) (by with_reducible rfl) (fun c25 => ?_) (fun c25 => ?_) | refine U_if_ne (tgt := 32) dX10_isHighest_25 (by decide) (by with_reducible rfl) (by omega) (fun c25 => ?_) (fun c25 => ?_) | refine V_if_ne (tgt := 32) dX10_isHighest_25 (by decide) (fun c25 => ?_) (fun c25 => ?_)
              · skip
                refine V_iconst (v := nI 0) dX10_isHighest_32 (by decide) ?_
                refine V_istoren1 dX10_isHighest_33 (by decide) rfl ?_
                refine V_iinc2 dX10_isHighest_34 (by first | exact ginc1 _ | rfl) (by decide) rfl ?_
                refine V_goto (tgt := 4) dX10_isHighest_37 (by decide) ?_
                exact z
              · skip
                omega
      refine V_iloadn2 dX10_isHighest_4 ?_
      refine V_aloadn0 dX10_isHighest_5 ?_
      refine V_getI dX10_isHighest_6 fX10_7 (Or.inl rfl) (by first | assumption | rfl) (by first | decide | omega) (by first | assumption | exact ML_4 (by assumption) | exact ML_5 (by assumption) | exact ML_6 (by assumption) | exact ML_7 (by assumption) | exact ML_8 (by assumption) | exact ML_9 (by assumption) | exact ML_10 (by assumption) | exact ML_11 (by assumption) | exact ML_12 (by assumption) | exact ML_13 (by assumption) | exact ML_15 (by assumption) | exact ML_16 (by assumption) | exact ML_17 (by assumption) | exact ML_20 (by assumption) | exact ML_23 (by assumption) | exact ML_24 (by assumption) | exact ML_30 (by assumption) | exact ML_31 (by assumption) | exact ML_32 (by assumption) | exact ML_33 (by assumption) | exact ML_35 (by assumption) | exact ML_36 (by assumption) | exact ML_37 (by assumption) | exact ML_38 (by assumption) | exact ML_41 (by assumption) | exact ML_42 (by assumption) | exact ML_43 (by assumption) | exact ML_44 (by assumption) | exact ML_45 (by assumption) | rfl) ?_
      first | refine U_icmp_ge (tgt := 40) dX10_isHighest_9 (by decide) (by with_reducible rfl) (by with_reducible rfl) (by omega) (by omega) (fun c9 => ?_) (fun c9 => ?_) | refine V_icmp_ge (tgt := 40) dX10_isHighest_9 (by decide) (fun c9 => ?_) (fun c9 => ?_)
      · skip
        omega
      · skip
        refine V_aloadn0 dX10_isHighest_12 ?_
        refine V_iloadn2 dX10_isHighest_13 ?_
        refine V_callV1 (μ' := mX10_looks) dX10_isHighest_14 okX10_looks lX10_170 rfl (by first | assumption | rfl) (by first | decide | omega) (Nat.le_of_ble_eq_true rfl) (Nat.le_of_ble_eq_true rfl) (by omega) ?_
        refine m_looks hM1 hW1 hi1 (by omega) (fun h2 g25 g26 g27 g28 e2 hF2 => ?_)
        dsimp only [gPush]
        exact fin h2 g26 (e2.trans e1) ⟨fun a u v t => (hF2.1 a u v t).trans (hF.1 a u v t), fun k hk => (hF2.2.1 k hk).trans (hF.2.1 k hk), hF2.2.2.1.trans hF.2.2.1, hF2.2.2.2.trans hF.2.2.2⟩
  refine V_iconst (v := nI 1) dX10_isHighest_0 (by decide) ?_
  refine V_istoren1 dX10_isHighest_1 (by decide) rfl ?_
  refine V_iconst (v := nI 1) dX10_isHighest_2 (by decide) ?_
  refine V_istoren2 dX10_isHighest_3 (by decide) rfl ?_
  exact loop (n - 1) 1 true h (by omega) (Nat.le_refl _) (Bool.true_and _) rfl ⟨fun _ _ _ _ => rfl, fun _ _ => rfl, rfl, rfl⟩
set_option maxRecDepth 100000 in
set_option maxHeartbeats 4000000 in
theorem m_isFilledB {n mode : Nat} {W : List Nat} {ok : Bool} {wt D : Nat → Nat} {v : Int32} {u : Int64} {x3 x4 x5 x6 x7 : Option Value} (hn1 : 1 ≤ n) (hn5 : n ≤ 5) (hM : MLay h) (r0 : gI h 94 0 = nI n) (hW : WW h W) (hm : mode ≤ 2) (hwt : ∀ x, 1 ≤ x → x ≤ n → gI h 103 x = nI (wt x)) (hwt9 : ∀ x, wt x ≤ 99) (hD : mode ≠ 2 → ∀ x, 1 ≤ x → x ≤ n → gI h 118 x = nI (D x) ∧ D x ≤ 9) (g39 : gI h 94 39 = v) (g40 : gL h 94 40 = u) (hQ : Q none (sL (sI h 94 39 (v + gBo (KX mode D W ok n))) 94 40 (u + PX wt W n))) : V Γ mX10_isFilled d 124 124 h 70 [some (.ref 94), some (.int (nI mode)), some (.int (gBo ok)), x3, x4, x5, x6, x7] [] Q := by
  obtain ⟨w0, w1, w6, w9⟩ := id hW
  have outer : ∀ f x x6 x7, x + f = n → V Γ mX10_isFilled d 124 124 h 75 [some (.ref 94), some (.int (nI mode)), some (.int (gBo (KX mode D W ok x))), some (.long (PX wt W x)), none, some (.int (nI (x + 1))), x6, x7] [] Q := by
    intro f
    induction f with
    | zero =>
      intro x x6 x7 hx
      have ex : x = n := by omega
      subst ex
      cases hk : KX mode D W ok x with
      | false =>
        rw [hk] at hQ
        refine V_iloadw5 dX10_isFilled_75 ?_
        refine V_aloadn0 dX10_isFilled_77 ?_
        refine V_getI dX10_isFilled_78 fX10_7 (Or.inl rfl) (by first | assumption | rfl) (by first | decide | omega) (by first | assumption | exact ML_4 (by assumption) | exact ML_5 (by assumption) | exact ML_6 (by assumption) | exact ML_7 (by assumption) | exact ML_8 (by assumption) | exact ML_9 (by assumption) | exact ML_10 (by assumption) | exact ML_11 (by assumption) | exact ML_12 (by assumption) | exact ML_13 (by assumption) | exact ML_15 (by assumption) | exact ML_16 (by assumption) | exact ML_17 (by assumption) | exact ML_20 (by assumption) | exact ML_23 (by assumption) | exact ML_24 (by assumption) | exact ML_30 (by assumption) | exact ML_31 (by assumption) | exact ML_32 (by assumption) | exact ML_33 (by assumption) | exact ML_35 (by assumption) | exact ML_36 (by assumption) | exact ML_37 (by assumption) | exact ML_38 (by assumption) | exact ML_41 (by assumption) | exact ML_42 (by assumption) | exact ML_43 (by assumption) | exact ML_44 (by assumption) | exact ML_45 (by assumption) | rfl) ?_
        first | refine U_icmp_gt (tgt := 187) dX10_isFilled_81 (by decide) (by with_reducible rfl) (by with_reducible rfl) (by omega) (by omega) (fun c81 => ?_) (fun c81 => ?_) | refine V_icmp_gt (tgt := 187) dX10_isFilled_81 (by decide) (fun c81 => ?_) (fun c81 => ?_)
        · skip
          refine V_aloadn0 dX10_isFilled_187 ?_
          first | refine V_dupa dX10_isFilled_188 ?_ | refine V_dupi dX10_isFilled_188 ?_
          refine V_getI dX10_isFilled_189 fX10_256 (Or.inl rfl) (by first | assumption | rfl) (by first | decide | omega) (by first | assumption | exact ML_4 (by assumption) | exact ML_5 (by assumption) | exact ML_6 (by assumption) | exact ML_7 (by assumption) | exact ML_8 (by assumption) | exact ML_9 (by assumption) | exact ML_10 (by assumption) | exact ML_11 (by assumption) | exact ML_12 (by assumption) | exact ML_13 (by assumption) | exact ML_15 (by assumption) | exact ML_16 (by assumption) | exact ML_17 (by assumption) | exact ML_20 (by assumption) | exact ML_23 (by assumption) | exact ML_24 (by assumption) | exact ML_30 (by assumption) | exact ML_31 (by assumption) | exact ML_32 (by assumption) | exact ML_33 (by assumption) | exact ML_35 (by assumption) | exact ML_36 (by assumption) | exact ML_37 (by assumption) | exact ML_38 (by assumption) | exact ML_41 (by assumption) | exact ML_42 (by assumption) | exact ML_43 (by assumption) | exact ML_44 (by assumption) | exact ML_45 (by assumption) | rfl) ?_
          refine V_iloadn2 dX10_isFilled_192 ?_
          first | refine U_ifB_eq (tgt := 200) dX10_isFilled_193 (by decide) (by with_reducible rfl) (fun c193 => ?_) (fun c193 => ?_) | refine U_if_eq (tgt := 200) dX10_isFilled_193 (by decide) (by with_reducible rfl) (by omega) (fun c193 => ?_) (fun c193 => ?_) | refine V_if_eq (tgt := 200) dX10_isFilled_193 (by decide) (fun c193 => ?_) (fun c193 => ?_)
          · skip
            refine V_iconst (v := nI 0) dX10_isFilled_200 (by decide) ?_
            first | refine U_iadd dX10_isFilled_201 (by with_reducible rfl) (by with_reducible rfl) ?_ | refine V_iadd dX10_isFilled_201 ?_
            refine V_putI dX10_isFilled_202 fX10_256 (by first | assumption | rfl) (by first | decide | omega) ?_
            refine V_aloadn0 dX10_isFilled_205 ?_
            first | refine V_dupa dX10_isFilled_206 ?_ | refine V_dupi dX10_isFilled_206 ?_
            refine V_getL dX10_isFilled_207 fX10_259 (by first | assumption | rfl) (by first | decide | omega) (by first | assumption | exact ML_4 (by assumption) | exact ML_5 (by assumption) | exact ML_6 (by assumption) | exact ML_7 (by assumption) | exact ML_8 (by assumption) | exact ML_9 (by assumption) | exact ML_10 (by assumption) | exact ML_11 (by assumption) | exact ML_12 (by assumption) | exact ML_13 (by assumption) | exact ML_15 (by assumption) | exact ML_16 (by assumption) | exact ML_17 (by assumption) | exact ML_20 (by assumption) | exact ML_23 (by assumption) | exact ML_24 (by assumption) | exact ML_30 (by assumption) | exact ML_31 (by assumption) | exact ML_32 (by assumption) | exact ML_33 (by assumption) | exact ML_35 (by assumption) | exact ML_36 (by assumption) | exact ML_37 (by assumption) | exact ML_38 (by assumption) | exact ML_41 (by assumption) | exact ML_42 (by assumption) | exact ML_43 (by assumption) | exact ML_44 (by assumption) | exact ML_45 (by assumption) | rfl) ?_
            refine V_lloadn3 dX10_isFilled_210 ?_
            refine V_ladd dX10_isFilled_211 ?_
            refine V_putL dX10_isFilled_212 fX10_259 (by first | assumption | rfl) (by first | decide | omega) ?_
            refine V_ret dX10_isFilled_215 rfl ?_
            exact hQ
          · skip
            cases c193
        · skip
          omega
      | true =>
        rw [hk] at hQ
        refine V_iloadw5 dX10_isFilled_75 ?_
        refine V_aloadn0 dX10_isFilled_77 ?_
        refine V_getI dX10_isFilled_78 fX10_7 (Or.inl rfl) (by first | assumption | rfl) (by first | decide | omega) (by first | assumption | exact ML_4 (by assumption) | exact ML_5 (by assumption) | exact ML_6 (by assumption) | exact ML_7 (by assumption) | exact ML_8 (by assumption) | exact ML_9 (by assumption) | exact ML_10 (by assumption) | exact ML_11 (by assumption) | exact ML_12 (by assumption) | exact ML_13 (by assumption) | exact ML_15 (by assumption) | exact ML_16 (by assumption) | exact ML_17 (by assumption) | exact ML_20 (by assumption) | exact ML_23 (by assumption) | exact ML_24 (by assumption) | exact ML_30 (by assumption) | exact ML_31 (by assumption) | exact ML_32 (by assumption) | exact ML_33 (by assumption) | exact ML_35 (by assumption) | exact ML_36 (by assumption) | exact ML_37 (by assumption) | exact ML_38 (by assumption) | exact ML_41 (by assumption) | exact ML_42 (by assumption) | exact ML_43 (by assumption) | exact ML_44 (by assumption) | exact ML_45 (by assumption) | rfl) ?_
        first | refine U_icmp_gt (tgt := 187) dX10_isFilled_81 (by decide) (by with_reducible rfl) (by with_reducible rfl) (by omega) (by omega) (fun c81 => ?_) (fun c81 => ?_) | refine V_icmp_gt (tgt := 187) dX10_isFilled_81 (by decide) (fun c81 => ?_) (fun c81 => ?_)
        · skip
          refine V_aloadn0 dX10_isFilled_187 ?_
          first | refine V_dupa dX10_isFilled_188 ?_ | refine V_dupi dX10_isFilled_188 ?_
          refine V_getI dX10_isFilled_189 fX10_256 (Or.inl rfl) (by first | assumption | rfl) (by first | decide | omega) (by first | assumption | exact ML_4 (by assumption) | exact ML_5 (by assumption) | exact ML_6 (by assumption) | exact ML_7 (by assumption) | exact ML_8 (by assumption) | exact ML_9 (by assumption) | exact ML_10 (by assumption) | exact ML_11 (by assumption) | exact ML_12 (by assumption) | exact ML_13 (by assumption) | exact ML_15 (by assumption) | exact ML_16 (by assumption) | exact ML_17 (by assumption) | exact ML_20 (by assumption) | exact ML_23 (by assumption) | exact ML_24 (by assumption) | exact ML_30 (by assumption) | exact ML_31 (by assumption) | exact ML_32 (by assumption) | exact ML_33 (by assumption) | exact ML_35 (by assumption) | exact ML_36 (by assumption) | exact ML_37 (by assumption) | exact ML_38 (by assumption) | exact ML_41 (by assumption) | exact ML_42 (by assumption) | exact ML_43 (by assumption) | exact ML_44 (by assumption) | exact ML_45 (by assumption) | rfl) ?_
          refine V_iloadn2 dX10_isFilled_192 ?_
          first | refine U_ifB_eq (tgt := 200) dX10_isFilled_193 (by decide) (by with_reducible rfl) (fun c193 => ?_) (fun c193 => ?_) | refine U_if_eq (tgt := 200) dX10_isFilled_193 (by decide) (by with_reducible rfl) (by omega) (fun c193 => ?_) (fun c193 => ?_) | refine V_if_eq (tgt := 200) dX10_isFilled_193 (by decide) (fun c193 => ?_) (fun c193 => ?_)
          · skip
            cases c193
          · skip
            refine V_iconst (v := nI 1) dX10_isFilled_196 (by decide) ?_
            refine V_goto (tgt := 201) dX10_isFilled_197 (by decide) ?_
            first | refine U_iadd dX10_isFilled_201 (by with_reducible rfl) (by with_reducible rfl) ?_ | refine V_iadd dX10_isFilled_201 ?_
            refine V_putI dX10_isFilled_202 fX10_256 (by first | assumption | rfl) (by first | decide | omega) ?_
            refine V_aloadn0 dX10_isFilled_205 ?_
            first | refine V_dupa dX10_isFilled_206 ?_ | refine V_dupi dX10_isFilled_206 ?_
            refine V_getL dX10_isFilled_207 fX10_259 (by first | assumption | rfl) (by first | decide | omega) (by first | assumption | exact ML_4 (by assumption) | exact ML_5 (by assumption) | exact ML_6 (by assumption) | exact ML_7 (by assumption) | exact ML_8 (by assumption) | exact ML_9 (by assumption) | exact ML_10 (by assumption) | exact ML_11 (by assumption) | exact ML_12 (by assumption) | exact ML_13 (by assumption) | exact ML_15 (by assumption) | exact ML_16 (by assumption) | exact ML_17 (by assumption) | exact ML_20 (by assumption) | exact ML_23 (by assumption) | exact ML_24 (by assumption) | exact ML_30 (by assumption) | exact ML_31 (by assumption) | exact ML_32 (by assumption) | exact ML_33 (by assumption) | exact ML_35 (by assumption) | exact ML_36 (by assumption) | exact ML_37 (by assumption) | exact ML_38 (by assumption) | exact ML_41 (by assumption) | exact ML_42 (by assumption) | exact ML_43 (by assumption) | exact ML_44 (by assumption) | exact ML_45 (by assumption) | rfl) ?_
            refine V_lloadn3 dX10_isFilled_210 ?_
            refine V_ladd dX10_isFilled_211 ?_
            refine V_putL dX10_isFilled_212 fX10_259 (by first | assumption | rfl) (by first | decide | omega) ?_
            refine V_ret dX10_isFilled_215 rfl ?_
            exact hQ
        · skip
          omega
    | succ f ih =>
      intro x x6 x7 hx
      have hck := ck_le W (x + 1) W.length
      have from154 : ∀ x7, V Γ mX10_isFilled d 124 124 h 154 [some (.ref 94), some (.int (nI mode)), some (.int (gBo (KX mode D W ok x))), some (.long (PX wt W (x + 1))), none, some (.int (nI (x + 1))), some (.int (nI (ck W (x + 1) W.length))), x7] [] Q := by
        intro x7
        have z := ih (x + 1) (some (.int (nI (ck W (x + 1) W.length)))) x7 (by omega)
        rw [KX] at z
        cases hk : KX mode D W ok x with
        | false =>
          rw [hk, Bool.false_and] at z
          refine V_iloadn2 dX10_isFilled_154 ?_
          first | refine U_ifB_eq (tgt := 179) dX10_isFilled_155 (by decide) (by with_reducible rfl) (fun c155 => ?_) (fun c155 => ?_) | refine U_if_eq (tgt := 179) dX10_isFilled_155 (by decide) (by with_reducible rfl) (by omega) (fun c155 => ?_) (fun c155 => ?_) | refine V_if_eq (tgt := 179) dX10_isFilled_155 (by decide) (fun c155 => ?_) (fun c155 => ?_)
          · skip
            refine V_iconst (v := nI 0) dX10_isFilled_179 (by decide) ?_
            refine V_istoren2 dX10_isFilled_180 (by decide) rfl ?_
            refine V_iinc5 dX10_isFilled_181 (by first | exact ginc1 _ | rfl) (by decide) rfl ?_
            refine V_goto (tgt := 75) dX10_isFilled_184 (by decide) ?_
            exact z
          · skip
            cases c155
        | true =>
          rw [hk, Bool.true_and] at z
          by_cases m2 : mode = 2
          · rw [decide_eq_true m2, Bool.true_or] at z
            refine V_iloadn2 dX10_isFilled_154 ?_
            first | refine U_ifB_eq (tgt := 179) dX10_isFilled_155 (by decide) (by with_reducible rfl) (fun c155 => ?_) (fun c155 => ?_) | refine U_if_eq (tgt := 179) dX10_isFilled_155 (by decide) (by with_reducible rfl) (by omega) (fun c155 => ?_) (fun c155 => ?_) | refine V_if_eq (tgt := 179) dX10_isFilled_155 (by decide) (fun c155 => ?_) (fun c155 => ?_)
            · skip
              cases c155
            · skip
              refine V_iloadn1 dX10_isFilled_158 ?_
              refine V_iconst (v := nI 2) dX10_isFilled_159 (by decide) ?_
              first | refine U_icmp_eq (tgt := 175) dX10_isFilled_160 (by decide) (by with_reducible rfl) (by with_reducible rfl) (by omega) (by omega) (fun c160 => ?_) (fun c160 => ?_) | refine V_icmp_eq (tgt := 175) dX10_isFilled_160 (by decide) (fun c160 => ?_) (fun c160 => ?_)
              · skip
                refine V_iconst (v := nI 1) dX10_isFilled_175 (by decide) ?_
                refine V_goto (tgt := 180) dX10_isFilled_176 (by decide) ?_
                refine V_istoren2 dX10_isFilled_180 (by decide) rfl ?_
                refine V_iinc5 dX10_isFilled_181 (by first | exact ginc1 _ | rfl) (by decide) rfl ?_
                refine V_goto (tgt := 75) dX10_isFilled_184 (by decide) ?_
                exact z
              · skip
                omega
          · rw [decide_eq_false m2, Bool.false_or] at z
            obtain ⟨d1, d2⟩ := hD m2 (x + 1) (by omega) (by omega)
            by_cases q : ck W (x + 1) W.length = D (x + 1)
            · rw [decide_eq_true q] at z
              refine V_iloadn2 dX10_isFilled_154 ?_
              first | refine U_ifB_eq (tgt := 179) dX10_isFilled_155 (by decide) (by with_reducible rfl) (fun c155 => ?_) (fun c155 => ?_) | refine U_if_eq (tgt := 179) dX10_isFilled_155 (by decide) (by with_reducible rfl) (by omega) (fun c155 => ?_) (fun c155 => ?_) | refine V_if_eq (tgt := 179) dX10_isFilled_155 (by decide) (fun c155 => ?_) (fun c155 => ?_)
              · skip
                cases c155
              · skip
                refine V_iloadn1 dX10_isFilled_158 ?_
                refine V_iconst (v := nI 2) dX10_isFilled_159 (by decide) ?_
                first | refine U_icmp_eq (tgt := 175) dX10_isFilled_160 (by decide) (by with_reducible rfl) (by with_reducible rfl) (by omega) (by omega) (fun c160 => ?_) (fun c160 => ?_) | refine V_icmp_eq (tgt := 175) dX10_isFilled_160 (by decide) (fun c160 => ?_) (fun c160 => ?_)
                · skip
                  omega
                · skip
                  refine V_iloadw6 dX10_isFilled_163 ?_
                  refine V_aloadn0 dX10_isFilled_165 ?_
                  refine V_getR dX10_isFilled_166 fX10_86 (by first | assumption | rfl) (by first | decide | omega) (by first | assumption | exact ML_4 (by assumption) | exact ML_5 (by assumption) | exact ML_6 (by assumption) | exact ML_7 (by assumption) | exact ML_8 (by assumption) | exact ML_9 (by assumption) | exact ML_10 (by assumption) | exact ML_11 (by assumption) | exact ML_12 (by assumption) | exact ML_13 (by assumption) | exact ML_15 (by assumption) | exact ML_16 (by assumption) | exact ML_17 (by assumption) | exact ML_20 (by assumption) | exact ML_23 (by assumption) | exact ML_24 (by assumption) | exact ML_30 (by assumption) | exact ML_31 (by assumption) | exact ML_32 (by assumption) | exact ML_33 (by assumption) | exact ML_35 (by assumption) | exact ML_36 (by assumption) | exact ML_37 (by assumption) | exact ML_38 (by assumption) | exact ML_41 (by assumption) | exact ML_42 (by assumption) | exact ML_43 (by assumption) | exact ML_44 (by assumption) | exact ML_45 (by assumption) | rfl) ?_
                  refine V_iloadw5 dX10_isFilled_169 ?_
                  refine U_iald dX10_isFilled_171 (by with_reducible rfl) (by first | assumption | rfl) (by first | decide | omega) (by omega) (by first | assumption | exact ML_4 (by assumption) | exact ML_5 (by assumption) | exact ML_6 (by assumption) | exact ML_7 (by assumption) | exact ML_8 (by assumption) | exact ML_9 (by assumption) | exact ML_10 (by assumption) | exact ML_11 (by assumption) | exact ML_12 (by assumption) | exact ML_13 (by assumption) | exact ML_15 (by assumption) | exact ML_16 (by assumption) | exact ML_17 (by assumption) | exact ML_20 (by assumption) | exact ML_23 (by assumption) | exact ML_24 (by assumption) | exact ML_30 (by assumption) | exact ML_31 (by assumption) | exact ML_32 (by assumption) | exact ML_33 (by assumption) | exact ML_35 (by assumption) | exact ML_36 (by assumption) | exact ML_37 (by assumption) | exact ML_38 (by assumption) | exact ML_41 (by assumption) | exact ML_42 (by assumption) | exact ML_43 (by assumption) | exact ML_44 (by assumption) | exact ML_45 (by assumption) | rfl) ?_
                  first | refine U_icmp_ne (tgt := 179) dX10_isFilled_172 (by decide) (by with_reducible rfl) (by with_reducible rfl) (by omega) (by omega) (fun c172 => ?_) (fun c172 => ?_) | refine V_icmp_ne (tgt := 179) dX10_isFilled_172 (by decide) (fun c172 => ?_) (fun c172 => ?_)
                  · skip
                    omega
                  · skip
                    refine V_iconst (v := nI 1) dX10_isFilled_175 (by decide) ?_
                    refine V_goto (tgt := 180) dX10_isFilled_176 (by decide) ?_
                    refine V_istoren2 dX10_isFilled_180 (by decide) rfl ?_
                    refine V_iinc5 dX10_isFilled_181 (by first | exact ginc1 _ | rfl) (by decide) rfl ?_
                    refine V_goto (tgt := 75) dX10_isFilled_184 (by decide) ?_
                    exact z
            · rw [decide_eq_false q] at z
              refine V_iloadn2 dX10_isFilled_154 ?_
              first | refine U_ifB_eq (tgt := 179) dX10_isFilled_155 (by decide) (by with_reducible rfl) (fun c155 => ?_) (fun c155 => ?_) | refine U_if_eq (tgt := 179) dX10_isFilled_155 (by decide) (by with_reducible rfl) (by omega) (fun c155 => ?_) (fun c155 => ?_) | refine V_if_eq (tgt := 179) dX10_isFilled_155 (by decide) (fun c155 => ?_) (fun c155 => ?_)
              · skip
                cases c155
              · skip
                refine V_iloadn1 dX10_isFilled_158 ?_
                refine V_iconst (v := nI 2) dX10_isFilled_159 (by decide) ?_
                first | refine U_icmp_eq (tgt := 175) dX10_isFilled_160 (by decide) (by with_reducible rfl) (by with_reducible rfl) (by omega) (by omega) (fun c160 => ?_) (fun c160 => ?_) | refine V_icmp_eq (tgt := 175) dX10_isFilled_160 (by decide) (fun c160 => ?_) (fun c160 => ?_)
                · skip
                  omega
                · skip
                  refine V_iloadw6 dX10_isFilled_163 ?_
                  refine V_aloadn0 dX10_isFilled_165 ?_
                  refine V_getR dX10_isFilled_166 fX10_86 (by first | assumption | rfl) (by first | decide | omega) (by first | assumption | exact ML_4 (by assumption) | exact ML_5 (by assumption) | exact ML_6 (by assumption) | exact ML_7 (by assumption) | exact ML_8 (by assumption) | exact ML_9 (by assumption) | exact ML_10 (by assumption) | exact ML_11 (by assumption) | exact ML_12 (by assumption) | exact ML_13 (by assumption) | exact ML_15 (by assumption) | exact ML_16 (by assumption) | exact ML_17 (by assumption) | exact ML_20 (by assumption) | exact ML_23 (by assumption) | exact ML_24 (by assumption) | exact ML_30 (by assumption) | exact ML_31 (by assumption) | exact ML_32 (by assumption) | exact ML_33 (by assumption) | exact ML_35 (by assumption) | exact ML_36 (by assumption) | exact ML_37 (by assumption) | exact ML_38 (by assumption) | exact ML_41 (by assumption) | exact ML_42 (by assumption) | exact ML_43 (by assumption) | exact ML_44 (by assumption) | exact ML_45 (by assumption) | rfl) ?_
                  refine V_iloadw5 dX10_isFilled_169 ?_
                  refine U_iald dX10_isFilled_171 (by with_reducible rfl) (by first | assumption | rfl) (by first | decide | omega) (by omega) (by first | assumption | exact ML_4 (by assumption) | exact ML_5 (by assumption) | exact ML_6 (by assumption) | exact ML_7 (by assumption) | exact ML_8 (by assumption) | exact ML_9 (by assumption) | exact ML_10 (by assumption) | exact ML_11 (by assumption) | exact ML_12 (by assumption) | exact ML_13 (by assumption) | exact ML_15 (by assumption) | exact ML_16 (by assumption) | exact ML_17 (by assumption) | exact ML_20 (by assumption) | exact ML_23 (by assumption) | exact ML_24 (by assumption) | exact ML_30 (by assumption) | exact ML_31 (by assumption) | exact ML_32 (by assumption) | exact ML_33 (by assumption) | exact ML_35 (by assumption) | exact ML_36 (by assumption) | exact ML_37 (by assumption) | exact ML_38 (by assumption) | exact ML_41 (by assumption) | exact ML_42 (by assumption) | exact ML_43 (by assumption) | exact ML_44 (by assumption) | exact ML_45 (by assumption) | rfl) ?_
                  first | refine U_icmp_ne (tgt := 179) dX10_isFilled_172 (by decide) (by with_reducible rfl) (by with_reducible rfl) (by omega) (by omega) (fun c172 => ?_) (fun c172 => ?_) | refine V_icmp_ne (tgt := 179) dX10_isFilled_172 (by decide) (fun c172 => ?_) (fun c172 => ?_)
                  · skip
                    refine V_iconst (v := nI 0) dX10_isFilled_179 (by decide) ?_
                    refine V_istoren2 dX10_isFilled_180 (by decide) rfl ?_
                    refine V_iinc5 dX10_isFilled_181 (by first | exact ginc1 _ | rfl) (by decide) rfl ?_
                    refine V_goto (tgt := 75) dX10_isFilled_184 (by decide) ?_
                    exact z
                  · skip
                    omega
      have inner : ∀ g k, k + g = W.length → V Γ mX10_isFilled d 124 124 h 90 [some (.ref 94), some (.int (nI mode)), some (.int (gBo (KX mode D W ok x))), some (.long (pk wt W (x + 1) (PX wt W x) k)), none, some (.int (nI (x + 1))), some (.int (nI (ck W (x + 1) k))), some (.int (nI k))] [] Q := by
        intro g
        induction g with
        | zero =>
          intro k hk
          have ek : k = W.length := by omega
          subst ek
          refine V_iloadw7 dX10_isFilled_90 ?_
          refine V_aloadn0 dX10_isFilled_92 ?_
          refine V_getI dX10_isFilled_93 fX10_111 (Or.inl rfl) (by first | assumption | rfl) (by first | decide | omega) (by first | assumption | exact ML_4 (by assumption) | exact ML_5 (by assumption) | exact ML_6 (by assumption) | exact ML_7 (by assumption) | exact ML_8 (by assumption) | exact ML_9 (by assumption) | exact ML_10 (by assumption) | exact ML_11 (by assumption) | exact ML_12 (by assumption) | exact ML_13 (by assumption) | exact ML_15 (by assumption) | exact ML_16 (by assumption) | exact ML_17 (by assumption) | exact ML_20 (by assumption) | exact ML_23 (by assumption) | exact ML_24 (by assumption) | exact ML_30 (by assumption) | exact ML_31 (by assumption) | exact ML_32 (by assumption) | exact ML_33 (by assumption) | exact ML_35 (by assumption) | exact ML_36 (by assumption) | exact ML_37 (by assumption) | exact ML_38 (by assumption) | exact ML_41 (by assumption) | exact ML_42 (by assumption) | exact ML_43 (by assumption) | exact ML_44 (by assumption) | exact ML_45 (by assumption) | rfl) ?_
          first | refine U_icmp_ge (tgt := 154) dX10_isFilled_96 (by decide) (by with_reducible rfl) (by with_reducible rfl) (by omega) (by omega) (fun c96 => ?_) (fun c96 => ?_) | refine V_icmp_ge (tgt := 154) dX10_isFilled_96 (by decide) (fun c96 => ?_) (fun c96 => ?_)
          · skip
            exact from154 _
          · skip
            omega
        | succ g ihg =>
          intro k hk
          have gk := w1 k (by omega)
          have k9 := w9 k
          have gw := hwt (x + 1) (by omega) (by omega)
          have gw9 := hwt9 (x + 1)
          have z := ihg (k + 1) (by omega)
          rw [pk, ck] at z
          by_cases q : W.getD k 0 = x + 1
          · rw [if_pos q, if_pos q] at z
            refine V_iloadw7 dX10_isFilled_90 ?_
            refine V_aloadn0 dX10_isFilled_92 ?_
            refine V_getI dX10_isFilled_93 fX10_111 (Or.inl rfl) (by first | assumption | rfl) (by first | decide | omega) (by first | assumption | exact ML_4 (by assumption) | exact ML_5 (by assumption) | exact ML_6 (by assumption) | exact ML_7 (by assumption) | exact ML_8 (by assumption) | exact ML_9 (by assumption) | exact ML_10 (by assumption) | exact ML_11 (by assumption) | exact ML_12 (by assumption) | exact ML_13 (by assumption) | exact ML_15 (by assumption) | exact ML_16 (by assumption) | exact ML_17 (by assumption) | exact ML_20 (by assumption) | exact ML_23 (by assumption) | exact ML_24 (by assumption) | exact ML_30 (by assumption) | exact ML_31 (by assumption) | exact ML_32 (by assumption) | exact ML_33 (by assumption) | exact ML_35 (by assumption) | exact ML_36 (by assumption) | exact ML_37 (by assumption) | exact ML_38 (by assumption) | exact ML_41 (by assumption) | exact ML_42 (by assumption) | exact ML_43 (by assumption) | exact ML_44 (by assumption) | exact ML_45 (by assumption) | rfl) ?_
            first | refine U_icmp_ge (tgt := 154) dX10_isFilled_96 (by decide) (by with_reducible rfl) (by with_reducible rfl) (by omega) (by omega) (fun c96 => ?_) (fun c96 => ?_) | refine V_icmp_ge (tgt := 154) dX10_isFilled_96 (by decide) (fun c96 => ?_) (fun c96 => ?_)
            · skip
              omega
            · skip
              refine V_iloadw6 dX10_isFilled_99 ?_
              refine V_aloadn0 dX10_isFilled_101 ?_
              refine V_getR dX10_isFilled_102 fX10_47 (by first | assumption | rfl) (by first | decide | omega) (by first | assumption | exact ML_4 (by assumption) | exact ML_5 (by assumption) | exact ML_6 (by assumption) | exact ML_7 (by assumption) | exact ML_8 (by assumption) | exact ML_9 (by assumption) | exact ML_10 (by assumption) | exact ML_11 (by assumption) | exact ML_12 (by assumption) | exact ML_13 (by assumption) | exact ML_15 (by assumption) | exact ML_16 (by assumption) | exact ML_17 (by assumption) | exact ML_20 (by assumption) | exact ML_23 (by assumption) | exact ML_24 (by assumption) | exact ML_30 (by assumption) | exact ML_31 (by assumption) | exact ML_32 (by assumption) | exact ML_33 (by assumption) | exact ML_35 (by assumption) | exact ML_36 (by assumption) | exact ML_37 (by assumption) | exact ML_38 (by assumption) | exact ML_41 (by assumption) | exact ML_42 (by assumption) | exact ML_43 (by assumption) | exact ML_44 (by assumption) | exact ML_45 (by assumption) | rfl) ?_
              refine V_iloadw7 dX10_isFilled_105 ?_
              refine U_iald dX10_isFilled_107 (by with_reducible rfl) (by first | assumption | rfl) (by first | decide | omega) (by omega) (by first | assumption | exact ML_4 (by assumption) | exact ML_5 (by assumption) | exact ML_6 (by assumption) | exact ML_7 (by assumption) | exact ML_8 (by assumption) | exact ML_9 (by assumption) | exact ML_10 (by assumption) | exact ML_11 (by assumption) | exact ML_12 (by assumption) | exact ML_13 (by assumption) | exact ML_15 (by assumption) | exact ML_16 (by assumption) | exact ML_17 (by assumption) | exact ML_20 (by assumption) | exact ML_23 (by assumption) | exact ML_24 (by assumption) | exact ML_30 (by assumption) | exact ML_31 (by assumption) | exact ML_32 (by assumption) | exact ML_33 (by assumption) | exact ML_35 (by assumption) | exact ML_36 (by assumption) | exact ML_37 (by assumption) | exact ML_38 (by assumption) | exact ML_41 (by assumption) | exact ML_42 (by assumption) | exact ML_43 (by assumption) | exact ML_44 (by assumption) | exact ML_45 (by assumption) | rfl) ?_
              refine V_iloadw5 dX10_isFilled_108 ?_
              first | refine U_icmp_ne (tgt := 117) dX10_isFilled_110 (by decide) (by with_reducible rfl) (by with_reducible rfl) (by omega) (by omega) (fun c110 => ?_) (fun c110 => ?_) | refine V_icmp_ne (tgt := 117) dX10_isFilled_110 (by decide) (fun c110 => ?_) (fun c110 => ?_)
              · skip
                omega
              · skip
                refine V_iconst (v := nI 1) dX10_isFilled_113 (by decide) ?_
                refine V_goto (tgt := 118) dX10_isFilled_114 (by decide) ?_
                first | refine U_iadd dX10_isFilled_118 (by with_reducible rfl) (by with_reducible rfl) ?_ | refine V_iadd dX10_isFilled_118 ?_
                refine V_istorew6 dX10_isFilled_119 (by decide) rfl ?_
                refine V_lloadn3 dX10_isFilled_121 ?_
                refine V_aloadn0 dX10_isFilled_122 ?_
                refine V_getR dX10_isFilled_123 fX10_47 (by first | assumption | rfl) (by first | decide | omega) (by first | assumption | exact ML_4 (by assumption) | exact ML_5 (by assumption) | exact ML_6 (by assumption) | exact ML_7 (by assumption) | exact ML_8 (by assumption) | exact ML_9 (by assumption) | exact ML_10 (by assumption) | exact ML_11 (by assumption) | exact ML_12 (by assumption) | exact ML_13 (by assumption) | exact ML_15 (by assumption) | exact ML_16 (by assumption) | exact ML_17 (by assumption) | exact ML_20 (by assumption) | exact ML_23 (by assumption) | exact ML_24 (by assumption) | exact ML_30 (by assumption) | exact ML_31 (by assumption) | exact ML_32 (by assumption) | exact ML_33 (by assumption) | exact ML_35 (by assumption) | exact ML_36 (by assumption) | exact ML_37 (by assumption) | exact ML_38 (by assumption) | exact ML_41 (by assumption) | exact ML_42 (by assumption) | exact ML_43 (by assumption) | exact ML_44 (by assumption) | exact ML_45 (by assumption) | rfl) ?_
                refine V_iloadw7 dX10_isFilled_126 ?_
                refine U_iald dX10_isFilled_128 (by with_reducible rfl) (by first | assumption | rfl) (by first | decide | omega) (by omega) (by first | assumption | exact ML_4 (by assumption) | exact ML_5 (by assumption) | exact ML_6 (by assumption) | exact ML_7 (by assumption) | exact ML_8 (by assumption) | exact ML_9 (by assumption) | exact ML_10 (by assumption) | exact ML_11 (by assumption) | exact ML_12 (by assumption) | exact ML_13 (by assumption) | exact ML_15 (by assumption) | exact ML_16 (by assumption) | exact ML_17 (by assumption) | exact ML_20 (by assumption) | exact ML_23 (by assumption) | exact ML_24 (by assumption) | exact ML_30 (by assumption) | exact ML_31 (by assumption) | exact ML_32 (by assumption) | exact ML_33 (by assumption) | exact ML_35 (by assumption) | exact ML_36 (by assumption) | exact ML_37 (by assumption) | exact ML_38 (by assumption) | exact ML_41 (by assumption) | exact ML_42 (by assumption) | exact ML_43 (by assumption) | exact ML_44 (by assumption) | exact ML_45 (by assumption) | rfl) ?_
                refine V_iloadw5 dX10_isFilled_129 ?_
                first | refine U_icmp_ne (tgt := 145) dX10_isFilled_131 (by decide) (by with_reducible rfl) (by with_reducible rfl) (by omega) (by omega) (fun c131 => ?_) (fun c131 => ?_) | refine V_icmp_ne (tgt := 145) dX10_isFilled_131 (by decide) (fun c131 => ?_) (fun c131 => ?_)
                · skip
                  omega
                · skip
                  refine V_aloadn0 dX10_isFilled_134 ?_
                  refine V_getR dX10_isFilled_135 fX10_41 (by first | assumption | rfl) (by first | decide | omega) (by first | assumption | exact ML_4 (by assumption) | exact ML_5 (by assumption) | exact ML_6 (by assumption) | exact ML_7 (by assumption) | exact ML_8 (by assumption) | exact ML_9 (by assumption) | exact ML_10 (by assumption) | exact ML_11 (by assumption) | exact ML_12 (by assumption) | exact ML_13 (by assumption) | exact ML_15 (by assumption) | exact ML_16 (by assumption) | exact ML_17 (by assumption) | exact ML_20 (by assumption) | exact ML_23 (by assumption) | exact ML_24 (by assumption) | exact ML_30 (by assumption) | exact ML_31 (by assumption) | exact ML_32 (by assumption) | exact ML_33 (by assumption) | exact ML_35 (by assumption) | exact ML_36 (by assumption) | exact ML_37 (by assumption) | exact ML_38 (by assumption) | exact ML_41 (by assumption) | exact ML_42 (by assumption) | exact ML_43 (by assumption) | exact ML_44 (by assumption) | exact ML_45 (by assumption) | rfl) ?_
                  refine V_iloadw5 dX10_isFilled_138 ?_
                  refine U_iald dX10_isFilled_140 (by with_reducible rfl) (by first | assumption | rfl) (by first | decide | omega) (by omega) (by first | assumption | exact ML_4 (by assumption) | exact ML_5 (by assumption) | exact ML_6 (by assumption) | exact ML_7 (by assumption) | exact ML_8 (by assumption) | exact ML_9 (by assumption) | exact ML_10 (by assumption) | exact ML_11 (by assumption) | exact ML_12 (by assumption) | exact ML_13 (by assumption) | exact ML_15 (by assumption) | exact ML_16 (by assumption) | exact ML_17 (by assumption) | exact ML_20 (by assumption) | exact ML_23 (by assumption) | exact ML_24 (by assumption) | exact ML_30 (by assumption) | exact ML_31 (by assumption) | exact ML_32 (by assumption) | exact ML_33 (by assumption) | exact ML_35 (by assumption) | exact ML_36 (by assumption) | exact ML_37 (by assumption) | exact ML_38 (by assumption) | exact ML_41 (by assumption) | exact ML_42 (by assumption) | exact ML_43 (by assumption) | exact ML_44 (by assumption) | exact ML_45 (by assumption) | rfl) ?_
                  first | refine U_i2l dX10_isFilled_141 (by with_reducible rfl) (by omega) ?_ | refine V_i2l dX10_isFilled_141 rfl ?_
                  refine V_goto (tgt := 146) dX10_isFilled_142 (by decide) ?_
                  refine V_lmul dX10_isFilled_146 ?_
                  refine V_lstoren3 dX10_isFilled_147 (by decide) rfl ?_
                  refine V_iinc7 dX10_isFilled_148 (by first | exact ginc1 _ | rfl) (by decide) rfl ?_
                  refine V_goto (tgt := 90) dX10_isFilled_151 (by decide) ?_
                  exact z
          · rw [if_neg q, if_neg q] at z
            refine V_iloadw7 dX10_isFilled_90 ?_
            refine V_aloadn0 dX10_isFilled_92 ?_
            refine V_getI dX10_isFilled_93 fX10_111 (Or.inl rfl) (by first | assumption | rfl) (by first | decide | omega) (by first | assumption | exact ML_4 (by assumption) | exact ML_5 (by assumption) | exact ML_6 (by assumption) | exact ML_7 (by assumption) | exact ML_8 (by assumption) | exact ML_9 (by assumption) | exact ML_10 (by assumption) | exact ML_11 (by assumption) | exact ML_12 (by assumption) | exact ML_13 (by assumption) | exact ML_15 (by assumption) | exact ML_16 (by assumption) | exact ML_17 (by assumption) | exact ML_20 (by assumption) | exact ML_23 (by assumption) | exact ML_24 (by assumption) | exact ML_30 (by assumption) | exact ML_31 (by assumption) | exact ML_32 (by assumption) | exact ML_33 (by assumption) | exact ML_35 (by assumption) | exact ML_36 (by assumption) | exact ML_37 (by assumption) | exact ML_38 (by assumption) | exact ML_41 (by assumption) | exact ML_42 (by assumption) | exact ML_43 (by assumption) | exact ML_44 (by assumption) | exact ML_45 (by assumption) | rfl) ?_
            first | refine U_icmp_ge (tgt := 154) dX10_isFilled_96 (by decide) (by with_reducible rfl) (by with_reducible rfl) (by omega) (by omega) (fun c96 => ?_) (fun c96 => ?_) | refine V_icmp_ge (tgt := 154) dX10_isFilled_96 (by decide) (fun c96 => ?_) (fun c96 => ?_)
            · skip
              omega
            · skip
              refine V_iloadw6 dX10_isFilled_99 ?_
              refine V_aloadn0 dX10_isFilled_101 ?_
              refine V_getR dX10_isFilled_102 fX10_47 (by first | assumption | rfl) (by first | decide | omega) (by first | assumption | exact ML_4 (by assumption) | exact ML_5 (by assumption) | exact ML_6 (by assumption) | exact ML_7 (by assumption) | exact ML_8 (by assumption) | exact ML_9 (by assumption) | exact ML_10 (by assumption) | exact ML_11 (by assumption) | exact ML_12 (by assumption) | exact ML_13 (by assumption) | exact ML_15 (by assumption) | exact ML_16 (by assumption) | exact ML_17 (by assumption) | exact ML_20 (by assumption) | exact ML_23 (by assumption) | exact ML_24 (by assumption) | exact ML_30 (by assumption) | exact ML_31 (by assumption) | exact ML_32 (by assumption) | exact ML_33 (by assumption) | exact ML_35 (by assumption) | exact ML_36 (by assumption) | exact ML_37 (by assumption) | exact ML_38 (by assumption) | exact ML_41 (by assumption) | exact ML_42 (by assumption) | exact ML_43 (by assumption) | exact ML_44 (by assumption) | exact ML_45 (by assumption) | rfl) ?_
              refine V_iloadw7 dX10_isFilled_105 ?_
              refine U_iald dX10_isFilled_107 (by with_reducible rfl) (by first | assumption | rfl) (by first | decide | omega) (by omega) (by first | assumption | exact ML_4 (by assumption) | exact ML_5 (by assumption) | exact ML_6 (by assumption) | exact ML_7 (by assumption) | exact ML_8 (by assumption) | exact ML_9 (by assumption) | exact ML_10 (by assumption) | exact ML_11 (by assumption) | exact ML_12 (by assumption) | exact ML_13 (by assumption) | exact ML_15 (by assumption) | exact ML_16 (by assumption) | exact ML_17 (by assumption) | exact ML_20 (by assumption) | exact ML_23 (by assumption) | exact ML_24 (by assumption) | exact ML_30 (by assumption) | exact ML_31 (by assumption) | exact ML_32 (by assumption) | exact ML_33 (by assumption) | exact ML_35 (by assumption) | exact ML_36 (by assumption) | exact ML_37 (by assumption) | exact ML_38 (by assumption) | exact ML_41 (by assumption) | exact ML_42 (by assumption) | exact ML_43 (by assumption) | exact ML_44 (by assumption) | exact ML_45 (by assumption) | rfl) ?_
              refine V_iloadw5 dX10_isFilled_108 ?_
              first | refine U_icmp_ne (tgt := 117) dX10_isFilled_110 (by decide) (by with_reducible rfl) (by with_reducible rfl) (by omega) (by omega) (fun c110 => ?_) (fun c110 => ?_) | refine V_icmp_ne (tgt := 117) dX10_isFilled_110 (by decide) (fun c110 => ?_) (fun c110 => ?_)
              · skip
                refine V_iconst (v := nI 0) dX10_isFilled_117 (by decide) ?_
                first | refine U_iadd dX10_isFilled_118 (by with_reducible rfl) (by with_reducible rfl) ?_ | refine V_iadd dX10_isFilled_118 ?_
                refine V_istorew6 dX10_isFilled_119 (by decide) rfl ?_
                refine V_lloadn3 dX10_isFilled_121 ?_
                refine V_aloadn0 dX10_isFilled_122 ?_
                refine V_getR dX10_isFilled_123 fX10_47 (by first | assumption | rfl) (by first | decide | omega) (by first | assumption | exact ML_4 (by assumption) | exact ML_5 (by assumption) | exact ML_6 (by assumption) | exact ML_7 (by assumption) | exact ML_8 (by assumption) | exact ML_9 (by assumption) | exact ML_10 (by assumption) | exact ML_11 (by assumption) | exact ML_12 (by assumption) | exact ML_13 (by assumption) | exact ML_15 (by assumption) | exact ML_16 (by assumption) | exact ML_17 (by assumption) | exact ML_20 (by assumption) | exact ML_23 (by assumption) | exact ML_24 (by assumption) | exact ML_30 (by assumption) | exact ML_31 (by assumption) | exact ML_32 (by assumption) | exact ML_33 (by assumption) | exact ML_35 (by assumption) | exact ML_36 (by assumption) | exact ML_37 (by assumption) | exact ML_38 (by assumption) | exact ML_41 (by assumption) | exact ML_42 (by assumption) | exact ML_43 (by assumption) | exact ML_44 (by assumption) | exact ML_45 (by assumption) | rfl) ?_
                refine V_iloadw7 dX10_isFilled_126 ?_
                refine U_iald dX10_isFilled_128 (by with_reducible rfl) (by first | assumption | rfl) (by first | decide | omega) (by omega) (by first | assumption | exact ML_4 (by assumption) | exact ML_5 (by assumption) | exact ML_6 (by assumption) | exact ML_7 (by assumption) | exact ML_8 (by assumption) | exact ML_9 (by assumption) | exact ML_10 (by assumption) | exact ML_11 (by assumption) | exact ML_12 (by assumption) | exact ML_13 (by assumption) | exact ML_15 (by assumption) | exact ML_16 (by assumption) | exact ML_17 (by assumption) | exact ML_20 (by assumption) | exact ML_23 (by assumption) | exact ML_24 (by assumption) | exact ML_30 (by assumption) | exact ML_31 (by assumption) | exact ML_32 (by assumption) | exact ML_33 (by assumption) | exact ML_35 (by assumption) | exact ML_36 (by assumption) | exact ML_37 (by assumption) | exact ML_38 (by assumption) | exact ML_41 (by assumption) | exact ML_42 (by assumption) | exact ML_43 (by assumption) | exact ML_44 (by assumption) | exact ML_45 (by assumption) | rfl) ?_
                refine V_iloadw5 dX10_isFilled_129 ?_
                first | refine U_icmp_ne (tgt := 145) dX10_isFilled_131 (by decide) (by with_reducible rfl) (by with_reducible rfl) (by omega) (by omega) (fun c131 => ?_) (fun c131 => ?_) | refine V_icmp_ne (tgt := 145) dX10_isFilled_131 (by decide) (fun c131 => ?_) (fun c131 => ?_)
                · skip
                  refine V_lconst (v := lN 1) dX10_isFilled_145 (by decide) ?_
                  refine V_lmul dX10_isFilled_146 ?_
                  refine V_lstoren3 dX10_isFilled_147 (by decide) rfl ?_
                  refine V_iinc7 dX10_isFilled_148 (by first | exact ginc1 _ | rfl) (by decide) rfl ?_
                  refine V_goto (tgt := 90) dX10_isFilled_151 (by decide) ?_
                  exact z
                · skip
                  omega
              · skip
                omega
      refine V_iloadw5 dX10_isFilled_75 ?_
      refine V_aloadn0 dX10_isFilled_77 ?_
      refine V_getI dX10_isFilled_78 fX10_7 (Or.inl rfl) (by first | assumption | rfl) (by first | decide | omega) (by first | assumption | exact ML_4 (by assumption) | exact ML_5 (by assumption) | exact ML_6 (by assumption) | exact ML_7 (by assumption) | exact ML_8 (by assumption) | exact ML_9 (by assumption) | exact ML_10 (by assumption) | exact ML_11 (by assumption) | exact ML_12 (by assumption) | exact ML_13 (by assumption) | exact ML_15 (by assumption) | exact ML_16 (by assumption) | exact ML_17 (by assumption) | exact ML_20 (by assumption) | exact ML_23 (by assumption) | exact ML_24 (by assumption) | exact ML_30 (by assumption) | exact ML_31 (by assumption) | exact ML_32 (by assumption) | exact ML_33 (by assumption) | exact ML_35 (by assumption) | exact ML_36 (by assumption) | exact ML_37 (by assumption) | exact ML_38 (by assumption) | exact ML_41 (by assumption) | exact ML_42 (by assumption) | exact ML_43 (by assumption) | exact ML_44 (by assumption) | exact ML_45 (by assumption) | rfl) ?_
      first | refine U_icmp_gt (tgt := 187) dX10_isFilled_81 (by decide) (by with_reducible rfl) (by with_reducible rfl) (by omega) (by omega) (fun c81 => ?_) (fun c81 => ?_) | refine V_icmp_gt (tgt := 187) dX10_isFilled_81 (by decide) (fun c81 => ?_) (fun c81 => ?_)
      · skip
        omega
      · skip
        refine V_iconst (v := nI 0) dX10_isFilled_84 (by decide) ?_
        refine V_istorew6 dX10_isFilled_85 (by decide) rfl ?_
        refine V_iconst (v := nI 0) dX10_isFilled_87 (by decide) ?_
        refine V_istorew7 dX10_isFilled_88 (by decide) rfl ?_
        exact inner W.length 0 (Nat.zero_add _)
  refine V_lconst (v := lN 1) dX10_isFilled_70 (by decide) ?_
  refine V_lstoren3 dX10_isFilled_71 (by decide) rfl ?_
  refine V_iconst (v := nI 1) dX10_isFilled_72 (by decide) ?_
  refine V_istorew5 dX10_isFilled_73 (by decide) rfl ?_
  exact outer n 0 _ _ (Nat.zero_add _)
end C78
