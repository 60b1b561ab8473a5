/-! ===== the class: questions about a slot ===== -/
theorem rnL_sum6 {n : Nat} {T : Thg} (hW : WT n T) (h2 : T.1 = 2) : T.2.2.sum = T.2.1.length := by
  rw [hW.2.2.2.2.2 h2, List.sum_reverse, rnL_sum]
theorem startF_le (L : List Nat) (r : Nat) : ∀ k, k + r + 1 ≤ L.length → startF L r k + L.getD r 0 ≤ L.sum := by
  intro k hk
  have key : ∀ (L : List Nat) (r k : Nat), k + r + 1 ≤ L.length → startF L r k + L.getD r 0 ≤ L.sum := by
    intro L
    induction L with
    | nil => intro r k h; simp at h
    | cons a L ih =>
      intro r k h
      cases r with
      | succ r =>
        have e : ∀ k, startF (a :: L) (r + 1) k = startF L r k := by
          intro k
          induction k with
          | zero => rfl
          | succ k ihk =>
            unfold startF
            rw [ihk, show r + 1 + 1 + k = (r + 1 + k) + 1 by omega, List.getD_cons_succ]
        have := ih r k (by simp at h; omega)
        rw [e, List.getD_cons_succ, List.sum_cons]
        omega
      | zero =>
        have e : ∀ k, k ≤ L.length → startF (a :: L) 0 k = (L.take k).sum := by
          intro k
          induction k with
          | zero => intro _; simp [startF]
          | succ k ihk =>
            intro hk2
            unfold startF
            rw [ihk (by omega), show 0 + 1 + k = k + 1 by omega, List.getD_cons_succ, List.take_succ, List.sum_append, List.getD_eq_getElem?_getD, List.getElem?_eq_getElem (by omega : k < L.length)]
            simp
        have h1 : (L.take k).sum ≤ L.sum := by
          have := List.take_append_drop k L
          have h2 := congrArg List.sum this
          rw [List.sum_append] at h2
          omega
        rw [e k (by simp at h; omega), List.getD_cons_zero, List.sum_cons]
        omega
  exact key L r k hk
theorem RC_F {h h' : gH} {S : GS} (hR : RC h S) (hC' : CLay h') (hF : FrGa h h') (hm : ∃ n w, n ≤ 5 ∧ w.length ≤ 6 ∧ FamOf h' n w) : RC h' S := by
  obtain ⟨c1, c2, c3, c4, c5, c6, c7, c8⟩ := hR
  exact ⟨hC', c2, RS_cg c3 (fun a _ h2 => hF.1 a (by omega) (by omega)), by rw [hF.1 0 (by omega) (by omega)]; exact c4, fun K hK => RS_cg (c5 K hK) (fun a _ h2 => hF.1 a (by omega) (by omega)), TpB_cg c6 (by rw [hF.1 43 (by omega) (by omega)]) (hF.1 44 (by omega) (by omega)), fun s hs => ShtI_cg (c7 s hs) (hF.1 _ (by omega) (by omega)) (hF.2.1 _ (by omega)), Or.inr hm⟩
section C45
variable {Γ : gM} {d : Nat} {h : gH} {Q : Option Value → gH → Prop} {S : GS}

set_option maxRecDepth 100000 in
set_option maxHeartbeats 4000000 in
theorem c_row {x r : Int32} (hd : 2 ≤ d) (hR : RC h S) (hQ : ∀ h', RC h' S → FrC h h' → Q (some (.int (g_row S x r))) h') : V Γ mX9_row d 124 124 h 0 [some (.ref 0), some (.int x), some (.int r), none] [] Q := by
  obtain ⟨hC, hW, hA, hK, hK2, hB, hSh, hFm⟩ := id hR
  have n0 := hA.1
  have hn2 := hW.1.1
  have hn5 := hW.1.2.1
  have hQ' := hQ h hR FrC.rf
  unfold g_row tS at hQ'
  cases c4 : inB x 6 with
  | false =>
    rw [if_f c4] at hQ'
    refine V_iloadn1 dX9_row_0 ?_
    refine V_callS1 (μ' := mX9_isSlot) dX9_row_1 okX9_isSlot lX9_91 (Nat.le_of_ble_eq_true rfl) (Nat.le_of_ble_eq_true rfl) (by omega) ?_
    refine c_isSlot ?_
    rw [c4]
    dsimp only [gPush]
    first | refine U_ifB_ne (tgt := 9) dX9_row_4 (by decide) (by with_reducible rfl) (fun c4 => ?_) (fun c4 => ?_) | refine U_if_ne (tgt := 9) dX9_row_4 (by decide) (by with_reducible rfl) (by omega) (fun c4 => ?_) (fun c4 => ?_) | refine V_if_ne (tgt := 9) dX9_row_4 (by decide) (fun c4 => ?_) (fun c4 => ?_)
    · skip
      cases c4
    · skip
      refine V_iconst (v := -1) dX9_row_7 (by decide) ?_
      refine V_iret dX9_row_8 rfl rfl ?_
      exact hQ'
  | true =>
    rw [if_t c4] at hQ'
    obtain ⟨s, hs, rfl⟩ := inB_t (by decide) c4
    rw [cN_nI (by omega)] at hQ'
    obtain ⟨hT, hWT⟩ := RC_slot hR hs
    obtain ⟨t0, t1, t3, tw, tL, twl, tLl, -⟩ := id hT
    have kd1 := hWT.1
    by_cases hz : (S.1.2.2.1 s).1 = 0
    · rw [if_pos hz] at hQ'
      refine V_iloadn1 dX9_row_0 ?_
      refine V_callS1 (μ' := mX9_isSlot) dX9_row_1 okX9_isSlot lX9_91 (Nat.le_of_ble_eq_true rfl) (Nat.le_of_ble_eq_true rfl) (by omega) ?_
      refine c_isSlot ?_
      rw [c4]
      dsimp only [gPush]
      first | refine U_ifB_ne (tgt := 9) dX9_row_4 (by decide) (by with_reducible rfl) (fun c4 => ?_) (fun c4 => ?_) | refine U_if_ne (tgt := 9) dX9_row_4 (by decide) (by with_reducible rfl) (by omega) (fun c4 => ?_) (fun c4 => ?_) | refine V_if_ne (tgt := 9) dX9_row_4 (by decide) (fun c4 => ?_) (fun c4 => ?_)
      · skip
        refine V_aloadn0 dX9_row_9 ?_
        refine V_iloadn1 dX9_row_10 ?_
        refine V_callV1 (μ' := mX9_isHeld) dX9_row_11 okX9_isHeld lX9_130 rfl (by first | assumption | rfl | exact lay_s0 (by omega) | exact lay_s1 (by omega) | exact lay_s2 (by omega) | exact lay_h0 (by omega) | exact lay_h1 (by omega)) (by first | decide | omega) (Nat.le_of_ble_eq_true rfl) (Nat.le_of_ble_eq_true rfl) (by omega) ?_
        refine c_isHeld hs (CL0_0 hC) (CL1_2 hC) (CL_slot hC hs) (lay_s0 hs) hT.1 hWT.1 ?_
        dsimp only [gPush]
        first | refine U_ifB_ne (tgt := 20) dX9_row_14 (by decide) (by with_reducible rfl) (fun c14 => ?_) (fun c14 => ?_) | refine U_if_ne (tgt := 20) dX9_row_14 (by decide) (by with_reducible rfl) (by omega) (fun c14 => ?_) (fun c14 => ?_) | refine V_if_ne (tgt := 20) dX9_row_14 (by decide) (fun c14 => ?_) (fun c14 => ?_)
        · skip
          exact absurd (of_decide_eq_true c14) (fun q => q hz)
        · skip
          refine V_bipush (v := -11) dX9_row_17 (by decide) ?_
          refine V_iret dX9_row_19 rfl rfl ?_
          exact hQ'
      · skip
        cases c4
    rw [if_neg hz] at hQ'
    by_cases hk : (S.1.2.2.1 s).1 = 2
    · rw [if_neg (fun q => q hk)] at hQ'
      cases hr : inB r (S.1.2.2.1 s).2.2.length with
      | true =>
        rw [if_t hr] at hQ'
        obtain ⟨q, hq, rfl⟩ := inB_t (by omega) hr
        rw [cN_nI (by omega)] at hQ'
        have hsum := rnL_sum6 hWT hk
        refine V_iloadn1 dX9_row_0 ?_
        refine V_callS1 (μ' := mX9_isSlot) dX9_row_1 okX9_isSlot lX9_91 (Nat.le_of_ble_eq_true rfl) (Nat.le_of_ble_eq_true rfl) (by omega) ?_
        refine c_isSlot ?_
        rw [c4]
        dsimp only [gPush]
        first | refine U_ifB_ne (tgt := 9) dX9_row_4 (by decide) (by with_reducible rfl) (fun c4 => ?_) (fun c4 => ?_) | refine U_if_ne (tgt := 9) dX9_row_4 (by decide) (by with_reducible rfl) (by omega) (fun c4 => ?_) (fun c4 => ?_) | refine V_if_ne (tgt := 9) dX9_row_4 (by decide) (fun c4 => ?_) (fun c4 => ?_)
        · skip
          refine V_aloadn0 dX9_row_9 ?_
          refine V_iloadn1 dX9_row_10 ?_
          refine V_callV1 (μ' := mX9_isHeld) dX9_row_11 okX9_isHeld lX9_130 rfl (by first | assumption | rfl | exact lay_s0 (by omega) | exact lay_s1 (by omega) | exact lay_s2 (by omega) | exact lay_h0 (by omega) | exact lay_h1 (by omega)) (by first | decide | omega) (Nat.le_of_ble_eq_true rfl) (Nat.le_of_ble_eq_true rfl) (by omega) ?_
          refine c_isHeld hs (CL0_0 hC) (CL1_2 hC) (CL_slot hC hs) (lay_s0 hs) hT.1 hWT.1 ?_
          dsimp only [gPush]
          first | refine U_ifB_ne (tgt := 20) dX9_row_14 (by decide) (by with_reducible rfl) (fun c14 => ?_) (fun c14 => ?_) | refine U_if_ne (tgt := 20) dX9_row_14 (by decide) (by with_reducible rfl) (by omega) (fun c14 => ?_) (fun c14 => ?_) | refine V_if_ne (tgt := 20) dX9_row_14 (by decide) (fun c14 => ?_) (fun c14 => ?_)
          · skip
            refine V_aloadn0 dX9_row_20 ?_
            refine V_getR dX9_row_21 fX9_10 (by first | assumption | rfl | exact lay_s0 (by omega) | exact lay_s1 (by omega) | exact lay_s2 (by omega) | exact lay_h0 (by omega) | exact lay_h1 (by omega)) (by first | decide | omega) (by first | assumption | exact CL0_0 (by assumption) | exact CL0_1 (by assumption) | exact CL0_3 (by assumption) | exact CL0_4 (by assumption) | exact CL0_5 (by assumption) | exact CL0_6 (by assumption) | exact CL0_7 (by assumption) | exact CL0_8 (by assumption) | exact CL0_9 (by assumption) | exact CL0_10 (by assumption) | exact CL0_11 (by assumption) | exact CL0_12 (by assumption) | exact CL0_13 (by assumption) | exact CL1_2 (by assumption) | exact CL1_3 (by assumption) | exact CL80_2 (by assumption) | exact CL_slot (by assumption) (by omega) | exact (CL_sh (by assumption) (by omega)).1 | exact (CL_sh (by assumption) (by omega)).2.1 | rfl) ?_
            refine V_getR dX9_row_24 fX9_99 (by first | assumption | rfl | exact lay_s0 (by omega) | exact lay_s1 (by omega) | exact lay_s2 (by omega) | exact lay_h0 (by omega) | exact lay_h1 (by omega)) (by first | decide | omega) (by first | assumption | exact CL0_0 (by assumption) | exact CL0_1 (by assumption) | exact CL0_3 (by assumption) | exact CL0_4 (by assumption) | exact CL0_5 (by assumption) | exact CL0_6 (by assumption) | exact CL0_7 (by assumption) | exact CL0_8 (by assumption) | exact CL0_9 (by assumption) | exact CL0_10 (by assumption) | exact CL0_11 (by assumption) | exact CL0_12 (by assumption) | exact CL0_13 (by assumption) | exact CL1_2 (by assumption) | exact CL1_3 (by assumption) | exact CL80_2 (by assumption) | exact CL_slot (by assumption) (by omega) | exact (CL_sh (by assumption) (by omega)).1 | exact (CL_sh (by assumption) (by omega)).2.1 | rfl) ?_
            refine V_iloadn1 dX9_row_27 ?_
            refine U_aald dX9_row_28 (by with_reducible rfl) (by first | assumption | rfl | exact lay_s0 (by omega) | exact lay_s1 (by omega) | exact lay_s2 (by omega) | exact lay_h0 (by omega) | exact lay_h1 (by omega)) (by decide) (by first | decide | omega) (by omega) (by first | assumption | exact CL0_0 (by assumption) | exact CL0_1 (by assumption) | exact CL0_3 (by assumption) | exact CL0_4 (by assumption) | exact CL0_5 (by assumption) | exact CL0_6 (by assumption) | exact CL0_7 (by assumption) | exact CL0_8 (by assumption) | exact CL0_9 (by assumption) | exact CL0_10 (by assumption) | exact CL0_11 (by assumption) | exact CL0_12 (by assumption) | exact CL0_13 (by assumption) | exact CL1_2 (by assumption) | exact CL1_3 (by assumption) | exact CL80_2 (by assumption) | exact CL_slot (by assumption) (by omega) | exact (CL_sh (by assumption) (by omega)).1 | exact (CL_sh (by assumption) (by omega)).2.1 | rfl) ?_
            refine V_astoren3 dX9_row_29 (by decide) rfl ?_
            refine V_aloadn3 dX9_row_30 ?_
            refine V_getI dX9_row_31 fX9_136 (Or.inl rfl) (by first | assumption | rfl | exact lay_s0 (by omega) | exact lay_s1 (by omega) | exact lay_s2 (by omega) | exact lay_h0 (by omega) | exact lay_h1 (by omega)) (by first | decide | omega) (by first | assumption | exact CL0_0 (by assumption) | exact CL0_1 (by assumption) | exact CL0_3 (by assumption) | exact CL0_4 (by assumption) | exact CL0_5 (by assumption) | exact CL0_6 (by assumption) | exact CL0_7 (by assumption) | exact CL0_8 (by assumption) | exact CL0_9 (by assumption) | exact CL0_10 (by assumption) | exact CL0_11 (by assumption) | exact CL0_12 (by assumption) | exact CL0_13 (by assumption) | exact CL1_2 (by assumption) | exact CL1_3 (by assumption) | exact CL80_2 (by assumption) | exact CL_slot (by assumption) (by omega) | exact (CL_sh (by assumption) (by omega)).1 | exact (CL_sh (by assumption) (by omega)).2.1 | rfl) ?_
            refine V_iconst (v := nI 2) dX9_row_34 (by decide) ?_
            first | refine U_icmp_eq (tgt := 41) dX9_row_35 (by decide) (by with_reducible rfl) (by with_reducible rfl) (by omega) (by omega) (fun c35 => ?_) (fun c35 => ?_) | refine V_icmp_eq (tgt := 41) dX9_row_35 (by decide) (fun c35 => ?_) (fun c35 => ?_)
            · skip
              refine V_iloadn2 dX9_row_41 ?_
              refine V_if_lt (tgt := 53) dX9_row_42 (by decide) (fun c42 => ?_) (fun c42 => ?_)
              · skip
                exact absurd c42 (nI_pos (by omega))
              · skip
                refine V_iloadn2 dX9_row_45 ?_
                refine V_aloadn3 dX9_row_46 ?_
                refine V_getI dX9_row_47 fX9_147 (Or.inl rfl) (by first | assumption | rfl | exact lay_s0 (by omega) | exact lay_s1 (by omega) | exact lay_s2 (by omega) | exact lay_h0 (by omega) | exact lay_h1 (by omega)) (by first | decide | omega) (by first | assumption | exact CL0_0 (by assumption) | exact CL0_1 (by assumption) | exact CL0_3 (by assumption) | exact CL0_4 (by assumption) | exact CL0_5 (by assumption) | exact CL0_6 (by assumption) | exact CL0_7 (by assumption) | exact CL0_8 (by assumption) | exact CL0_9 (by assumption) | exact CL0_10 (by assumption) | exact CL0_11 (by assumption) | exact CL0_12 (by assumption) | exact CL0_13 (by assumption) | exact CL1_2 (by assumption) | exact CL1_3 (by assumption) | exact CL80_2 (by assumption) | exact CL_slot (by assumption) (by omega) | exact (CL_sh (by assumption) (by omega)).1 | exact (CL_sh (by assumption) (by omega)).2.1 | rfl) ?_
                first | refine U_icmp_lt (tgt := 56) dX9_row_50 (by decide) (by with_reducible rfl) (by with_reducible rfl) (by omega) (by omega) (fun c50 => ?_) (fun c50 => ?_) | refine V_icmp_lt (tgt := 56) dX9_row_50 (by decide) (fun c50 => ?_) (fun c50 => ?_)
                · skip
                  refine V_aloadn3 dX9_row_56 ?_
                  refine V_iloadn2 dX9_row_57 ?_
                  refine V_callV1 (μ' := mX8_numberOfRow) dX9_row_58 okX8_numberOfRow lX9_150 rfl (by first | assumption | rfl | exact lay_s0 (by omega) | exact lay_s1 (by omega) | exact lay_s2 (by omega) | exact lay_h0 (by omega) | exact lay_h1 (by omega)) (by first | decide | omega) (Nat.le_of_ble_eq_true rfl) (Nat.le_of_ble_eq_true rfl) (by omega) ?_
                  refine c_numberOfRow (by omega) (CL_T hC hs) hT hq (fun k hk => by have := startF_le (S.1.2.2.1 s).2.2 q k hk; omega) ?_
                  dsimp only [gPush]
                  refine V_iret dX9_row_61 rfl rfl ?_
                  exact hQ'
                · skip
                  omega
            · skip
              omega
          · skip
            exact absurd (of_decide_eq_false c14) (fun q => q hz)
        · skip
          cases c4
      | false =>
        rw [if_f hr] at hQ'
        refine V_iloadn1 dX9_row_0 ?_
        refine V_callS1 (μ' := mX9_isSlot) dX9_row_1 okX9_isSlot lX9_91 (Nat.le_of_ble_eq_true rfl) (Nat.le_of_ble_eq_true rfl) (by omega) ?_
        refine c_isSlot ?_
        rw [c4]
        dsimp only [gPush]
        first | refine U_ifB_ne (tgt := 9) dX9_row_4 (by decide) (by with_reducible rfl) (fun c4 => ?_) (fun c4 => ?_) | refine U_if_ne (tgt := 9) dX9_row_4 (by decide) (by with_reducible rfl) (by omega) (fun c4 => ?_) (fun c4 => ?_) | refine V_if_ne (tgt := 9) dX9_row_4 (by decide) (fun c4 => ?_) (fun c4 => ?_)
        · skip
          refine V_aloadn0 dX9_row_9 ?_
          refine V_iloadn1 dX9_row_10 ?_
          refine V_callV1 (μ' := mX9_isHeld) dX9_row_11 okX9_isHeld lX9_130 rfl (by first | assumption | rfl | exact lay_s0 (by omega) | exact lay_s1 (by omega) | exact lay_s2 (by omega) | exact lay_h0 (by omega) | exact lay_h1 (by omega)) (by first | decide | omega) (Nat.le_of_ble_eq_true rfl) (Nat.le_of_ble_eq_true rfl) (by omega) ?_
          refine c_isHeld hs (CL0_0 hC) (CL1_2 hC) (CL_slot hC hs) (lay_s0 hs) hT.1 hWT.1 ?_
          dsimp only [gPush]
          first | refine U_ifB_ne (tgt := 20) dX9_row_14 (by decide) (by with_reducible rfl) (fun c14 => ?_) (fun c14 => ?_) | refine U_if_ne (tgt := 20) dX9_row_14 (by decide) (by with_reducible rfl) (by omega) (fun c14 => ?_) (fun c14 => ?_) | refine V_if_ne (tgt := 20) dX9_row_14 (by decide) (fun c14 => ?_) (fun c14 => ?_)
          · skip
            refine V_aloadn0 dX9_row_20 ?_
            refine V_getR dX9_row_21 fX9_10 (by first | assumption | rfl | exact lay_s0 (by omega) | exact lay_s1 (by omega) | exact lay_s2 (by omega) | exact lay_h0 (by omega) | exact lay_h1 (by omega)) (by first | decide | omega) (by first | assumption | exact CL0_0 (by assumption) | exact CL0_1 (by assumption) | exact CL0_3 (by assumption) | exact CL0_4 (by assumption) | exact CL0_5 (by assumption) | exact CL0_6 (by assumption) | exact CL0_7 (by assumption) | exact CL0_8 (by assumption) | exact CL0_9 (by assumption) | exact CL0_10 (by assumption) | exact CL0_11 (by assumption) | exact CL0_12 (by assumption) | exact CL0_13 (by assumption) | exact CL1_2 (by assumption) | exact CL1_3 (by assumption) | exact CL80_2 (by assumption) | exact CL_slot (by assumption) (by omega) | exact (CL_sh (by assumption) (by omega)).1 | exact (CL_sh (by assumption) (by omega)).2.1 | rfl) ?_
            refine V_getR dX9_row_24 fX9_99 (by first | assumption | rfl | exact lay_s0 (by omega) | exact lay_s1 (by omega) | exact lay_s2 (by omega) | exact lay_h0 (by omega) | exact lay_h1 (by omega)) (by first | decide | omega) (by first | assumption | exact CL0_0 (by assumption) | exact CL0_1 (by assumption) | exact CL0_3 (by assumption) | exact CL0_4 (by assumption) | exact CL0_5 (by assumption) | exact CL0_6 (by assumption) | exact CL0_7 (by assumption) | exact CL0_8 (by assumption) | exact CL0_9 (by assumption) | exact CL0_10 (by assumption) | exact CL0_11 (by assumption) | exact CL0_12 (by assumption) | exact CL0_13 (by assumption) | exact CL1_2 (by assumption) | exact CL1_3 (by assumption) | exact CL80_2 (by assumption) | exact CL_slot (by assumption) (by omega) | exact (CL_sh (by assumption) (by omega)).1 | exact (CL_sh (by assumption) (by omega)).2.1 | rfl) ?_
            refine V_iloadn1 dX9_row_27 ?_
            refine U_aald dX9_row_28 (by with_reducible rfl) (by first | assumption | rfl | exact lay_s0 (by omega) | exact lay_s1 (by omega) | exact lay_s2 (by omega) | exact lay_h0 (by omega) | exact lay_h1 (by omega)) (by decide) (by first | decide | omega) (by omega) (by first | assumption | exact CL0_0 (by assumption) | exact CL0_1 (by assumption) | exact CL0_3 (by assumption) | exact CL0_4 (by assumption) | exact CL0_5 (by assumption) | exact CL0_6 (by assumption) | exact CL0_7 (by assumption) | exact CL0_8 (by assumption) | exact CL0_9 (by assumption) | exact CL0_10 (by assumption) | exact CL0_11 (by assumption) | exact CL0_12 (by assumption) | exact CL0_13 (by assumption) | exact CL1_2 (by assumption) | exact CL1_3 (by assumption) | exact CL80_2 (by assumption) | exact CL_slot (by assumption) (by omega) | exact (CL_sh (by assumption) (by omega)).1 | exact (CL_sh (by assumption) (by omega)).2.1 | rfl) ?_
            refine V_astoren3 dX9_row_29 (by decide) rfl ?_
            refine V_aloadn3 dX9_row_30 ?_
            refine V_getI dX9_row_31 fX9_136 (Or.inl rfl) (by first | assumption | rfl | exact lay_s0 (by omega) | exact lay_s1 (by omega) | exact lay_s2 (by omega) | exact lay_h0 (by omega) | exact lay_h1 (by omega)) (by first | decide | omega) (by first | assumption | exact CL0_0 (by assumption) | exact CL0_1 (by assumption) | exact CL0_3 (by assumption) | exact CL0_4 (by assumption) | exact CL0_5 (by assumption) | exact CL0_6 (by assumption) | exact CL0_7 (by assumption) | exact CL0_8 (by assumption) | exact CL0_9 (by assumption) | exact CL0_10 (by assumption) | exact CL0_11 (by assumption) | exact CL0_12 (by assumption) | exact CL0_13 (by assumption) | exact CL1_2 (by assumption) | exact CL1_3 (by assumption) | exact CL80_2 (by assumption) | exact CL_slot (by assumption) (by omega) | exact (CL_sh (by assumption) (by omega)).1 | exact (CL_sh (by assumption) (by omega)).2.1 | rfl) ?_
            refine V_iconst (v := nI 2) dX9_row_34 (by decide) ?_
            first | refine U_icmp_eq (tgt := 41) dX9_row_35 (by decide) (by with_reducible rfl) (by with_reducible rfl) (by omega) (by omega) (fun c35 => ?_) (fun c35 => ?_) | refine V_icmp_eq (tgt := 41) dX9_row_35 (by decide) (fun c35 => ?_) (fun c35 => ?_)
            · skip
              refine V_iloadn2 dX9_row_41 ?_
              refine V_if_lt (tgt := 53) dX9_row_42 (by decide) (fun c42 => ?_) (fun c42 => ?_)
              · skip
                refine V_bipush (v := -12) dX9_row_53 (by decide) ?_
                refine V_iret dX9_row_55 rfl rfl ?_
                exact hQ'
              · skip
                refine V_iloadn2 dX9_row_45 ?_
                refine V_aloadn3 dX9_row_46 ?_
                refine V_getI dX9_row_47 fX9_147 (Or.inl rfl) (by first | assumption | rfl | exact lay_s0 (by omega) | exact lay_s1 (by omega) | exact lay_s2 (by omega) | exact lay_h0 (by omega) | exact lay_h1 (by omega)) (by first | decide | omega) (by first | assumption | exact CL0_0 (by assumption) | exact CL0_1 (by assumption) | exact CL0_3 (by assumption) | exact CL0_4 (by assumption) | exact CL0_5 (by assumption) | exact CL0_6 (by assumption) | exact CL0_7 (by assumption) | exact CL0_8 (by assumption) | exact CL0_9 (by assumption) | exact CL0_10 (by assumption) | exact CL0_11 (by assumption) | exact CL0_12 (by assumption) | exact CL0_13 (by assumption) | exact CL1_2 (by assumption) | exact CL1_3 (by assumption) | exact CL80_2 (by assumption) | exact CL_slot (by assumption) (by omega) | exact (CL_sh (by assumption) (by omega)).1 | exact (CL_sh (by assumption) (by omega)).2.1 | rfl) ?_
                first | refine U_icmp_lt (tgt := 56) dX9_row_50 (by decide) (by with_reducible rfl) (by with_reducible rfl) (by omega) (by omega) (fun c50 => ?_) (fun c50 => ?_) | refine V_icmp_lt (tgt := 56) dX9_row_50 (by decide) (fun c50 => ?_) (fun c50 => ?_)
                · skip
                  exact absurd hr (by unfold inB; rw [decide_eq_true (Int32.not_lt.mp c42), decide_eq_true c50]; exact Bool.noConfusion)
                · skip
                  refine V_bipush (v := -12) dX9_row_53 (by decide) ?_
                  refine V_iret dX9_row_55 rfl rfl ?_
                  exact hQ'
            · skip
              omega
          · skip
            exact absurd (of_decide_eq_false c14) (fun q => q hz)
        · skip
          cases c4
    · rw [if_pos hk] at hQ'
      refine V_iloadn1 dX9_row_0 ?_
      refine V_callS1 (μ' := mX9_isSlot) dX9_row_1 okX9_isSlot lX9_91 (Nat.le_of_ble_eq_true rfl) (Nat.le_of_ble_eq_true rfl) (by omega) ?_
      refine c_isSlot ?_
      rw [c4]
      dsimp only [gPush]
      first | refine U_ifB_ne (tgt := 9) dX9_row_4 (by decide) (by with_reducible rfl) (fun c4 => ?_) (fun c4 => ?_) | refine U_if_ne (tgt := 9) dX9_row_4 (by decide) (by with_reducible rfl) (by omega) (fun c4 => ?_) (fun c4 => ?_) | refine V_if_ne (tgt := 9) dX9_row_4 (by decide) (fun c4 => ?_) (fun c4 => ?_)
      · skip
        refine V_aloadn0 dX9_row_9 ?_
        refine V_iloadn1 dX9_row_10 ?_
        refine V_callV1 (μ' := mX9_isHeld) dX9_row_11 okX9_isHeld lX9_130 rfl (by first | assumption | rfl | exact lay_s0 (by omega) | exact lay_s1 (by omega) | exact lay_s2 (by omega) | exact lay_h0 (by omega) | exact lay_h1 (by omega)) (by first | decide | omega) (Nat.le_of_ble_eq_true rfl) (Nat.le_of_ble_eq_true rfl) (by omega) ?_
        refine c_isHeld hs (CL0_0 hC) (CL1_2 hC) (CL_slot hC hs) (lay_s0 hs) hT.1 hWT.1 ?_
        dsimp only [gPush]
        first | refine U_ifB_ne (tgt := 20) dX9_row_14 (by decide) (by with_reducible rfl) (fun c14 => ?_) (fun c14 => ?_) | refine U_if_ne (tgt := 20) dX9_row_14 (by decide) (by with_reducible rfl) (by omega) (fun c14 => ?_) (fun c14 => ?_) | refine V_if_ne (tgt := 20) dX9_row_14 (by decide) (fun c14 => ?_) (fun c14 => ?_)
        · skip
          refine V_aloadn0 dX9_row_20 ?_
          refine V_getR dX9_row_21 fX9_10 (by first | assumption | rfl | exact lay_s0 (by omega) | exact lay_s1 (by omega) | exact lay_s2 (by omega) | exact lay_h0 (by omega) | exact lay_h1 (by omega)) (by first | decide | omega) (by first | assumption | exact CL0_0 (by assumption) | exact CL0_1 (by assumption) | exact CL0_3 (by assumption) | exact CL0_4 (by assumption) | exact CL0_5 (by assumption) | exact CL0_6 (by assumption) | exact CL0_7 (by assumption) | exact CL0_8 (by assumption) | exact CL0_9 (by assumption) | exact CL0_10 (by assumption) | exact CL0_11 (by assumption) | exact CL0_12 (by assumption) | exact CL0_13 (by assumption) | exact CL1_2 (by assumption) | exact CL1_3 (by assumption) | exact CL80_2 (by assumption) | exact CL_slot (by assumption) (by omega) | exact (CL_sh (by assumption) (by omega)).1 | exact (CL_sh (by assumption) (by omega)).2.1 | rfl) ?_
          refine V_getR dX9_row_24 fX9_99 (by first | assumption | rfl | exact lay_s0 (by omega) | exact lay_s1 (by omega) | exact lay_s2 (by omega) | exact lay_h0 (by omega) | exact lay_h1 (by omega)) (by first | decide | omega) (by first | assumption | exact CL0_0 (by assumption) | exact CL0_1 (by assumption) | exact CL0_3 (by assumption) | exact CL0_4 (by assumption) | exact CL0_5 (by assumption) | exact CL0_6 (by assumption) | exact CL0_7 (by assumption) | exact CL0_8 (by assumption) | exact CL0_9 (by assumption) | exact CL0_10 (by assumption) | exact CL0_11 (by assumption) | exact CL0_12 (by assumption) | exact CL0_13 (by assumption) | exact CL1_2 (by assumption) | exact CL1_3 (by assumption) | exact CL80_2 (by assumption) | exact CL_slot (by assumption) (by omega) | exact (CL_sh (by assumption) (by omega)).1 | exact (CL_sh (by assumption) (by omega)).2.1 | rfl) ?_
          refine V_iloadn1 dX9_row_27 ?_
          refine U_aald dX9_row_28 (by with_reducible rfl) (by first | assumption | rfl | exact lay_s0 (by omega) | exact lay_s1 (by omega) | exact lay_s2 (by omega) | exact lay_h0 (by omega) | exact lay_h1 (by omega)) (by decide) (by first | decide | omega) (by omega) (by first | assumption | exact CL0_0 (by assumption) | exact CL0_1 (by assumption) | exact CL0_3 (by assumption) | exact CL0_4 (by assumption) | exact CL0_5 (by assumption) | exact CL0_6 (by assumption) | exact CL0_7 (by assumption) | exact CL0_8 (by assumption) | exact CL0_9 (by assumption) | exact CL0_10 (by assumption) | exact CL0_11 (by assumption) | exact CL0_12 (by assumption) | exact CL0_13 (by assumption) | exact CL1_2 (by assumption) | exact CL1_3 (by assumption) | exact CL80_2 (by assumption) | exact CL_slot (by assumption) (by omega) | exact (CL_sh (by assumption) (by omega)).1 | exact (CL_sh (by assumption) (by omega)).2.1 | rfl) ?_
          refine V_astoren3 dX9_row_29 (by decide) rfl ?_
          refine V_aloadn3 dX9_row_30 ?_
          refine V_getI dX9_row_31 fX9_136 (Or.inl rfl) (by first | assumption | rfl | exact lay_s0 (by omega) | exact lay_s1 (by omega) | exact lay_s2 (by omega) | exact lay_h0 (by omega) | exact lay_h1 (by omega)) (by first | decide | omega) (by first | assumption | exact CL0_0 (by assumption) | exact CL0_1 (by assumption) | exact CL0_3 (by assumption) | exact CL0_4 (by assumption) | exact CL0_5 (by assumption) | exact CL0_6 (by assumption) | exact CL0_7 (by assumption) | exact CL0_8 (by assumption) | exact CL0_9 (by assumption) | exact CL0_10 (by assumption) | exact CL0_11 (by assumption) | exact CL0_12 (by assumption) | exact CL0_13 (by assumption) | exact CL1_2 (by assumption) | exact CL1_3 (by assumption) | exact CL80_2 (by assumption) | exact CL_slot (by assumption) (by omega) | exact (CL_sh (by assumption) (by omega)).1 | exact (CL_sh (by assumption) (by omega)).2.1 | rfl) ?_
          refine V_iconst (v := nI 2) dX9_row_34 (by decide) ?_
          first | refine U_icmp_eq (tgt := 41) dX9_row_35 (by decide) (by with_reducible rfl) (by with_reducible rfl) (by omega) (by omega) (fun c35 => ?_) (fun c35 => ?_) | refine V_icmp_eq (tgt := 41) dX9_row_35 (by decide) (fun c35 => ?_) (fun c35 => ?_)
          · skip
            omega
          · skip
            refine V_bipush (v := -13) dX9_row_38 (by decide) ?_
            refine V_iret dX9_row_40 rfl rfl ?_
            exact hQ'
        · skip
          exact absurd (of_decide_eq_false c14) (fun q => q hz)
      · skip
        cases c4

set_option maxRecDepth 100000 in
set_option maxHeartbeats 4000000 in
theorem c_taken {x y : Int32} (hd : 1 ≤ d) (hR : RC h S) (hQ : ∀ h', RC h' S → FrC h h' → Q (some (.int (g_taken S x y))) h') : V Γ mX9_taken d 124 124 h 0 [some (.ref 0), some (.int x), some (.int y), none, none] [] Q := by
  obtain ⟨hC, hW, hA, hK, hK2, hB, hSh, hFm⟩ := id hR
  have n0 := hA.1
  have hn2 := hW.1.1
  have hn5 := hW.1.2.1
  by_cases hg : (inB x 6 && inR y 0 1) = true
  · have hg2 := hg
    rw [Bool.and_eq_true] at hg2
    obtain ⟨s, hs, rfl⟩ := inB_t (by decide) hg2.1
    obtain ⟨k, k0, k4, rfl⟩ := inR_t (by decide) (by decide) hg2.2
    obtain ⟨hT, hWT⟩ := RC_slot hR hs
    obtain ⟨t0, t1, t3, -⟩ := id hT
    have kd1 := hWT.1
    have eS : tS S (nI s) = S.1.2.2.1 s := by unfold tS; rw [cN_nI (by omega)]
    have eq0 : g_taken S (nI s) (nI k) = _ := if_t hg
    rw [eq0, eS] at hQ
    by_cases hz : (S.1.2.2.1 s).1 = 0
    · rw [if_pos hz] at hQ
      refine V_iloadn1 dX9_taken_0 ?_
      refine V_callS1 (μ' := mX9_isSlot) dX9_taken_1 okX9_isSlot lX9_91 (Nat.le_of_ble_eq_true rfl) (Nat.le_of_ble_eq_true rfl) (by omega) ?_
      refine c_isSlot ?_
      rw [hg2.1]
      dsimp only [gPush]
      first | refine U_ifB_eq (tgt := 16) dX9_taken_4 (by decide) (by with_reducible rfl) (fun c4 => ?_) (fun c4 => ?_) | refine U_if_eq (tgt := 16) dX9_taken_4 (by decide) (by with_reducible rfl) (by omega) (fun c4 => ?_) (fun c4 => ?_) | refine V_if_eq (tgt := 16) dX9_taken_4 (by decide) (fun c4 => ?_) (fun c4 => ?_)
      · skip
        cases c4
      · skip
        refine V_iloadn2 dX9_taken_7 ?_
        refine V_if_lt (tgt := 16) dX9_taken_8 (by decide) (fun c8 => ?_) (fun c8 => ?_)
        · skip
          exact absurd c8 (nI_pos (by omega))
        · skip
          refine V_iloadn2 dX9_taken_11 ?_
          refine V_iconst (v := nI 1) dX9_taken_12 (by decide) ?_
          first | refine U_icmp_le (tgt := 18) dX9_taken_13 (by decide) (by with_reducible rfl) (by with_reducible rfl) (by omega) (by omega) (fun c13 => ?_) (fun c13 => ?_) | refine V_icmp_le (tgt := 18) dX9_taken_13 (by decide) (fun c13 => ?_) (fun c13 => ?_)
          · skip
            refine V_aloadn0 dX9_taken_18 ?_
            refine V_iloadn1 dX9_taken_19 ?_
            refine V_callV1 (μ' := mX9_isHeld) dX9_taken_20 okX9_isHeld lX9_130 rfl (by first | assumption | rfl | exact lay_s0 (by omega) | exact lay_s1 (by omega) | exact lay_s2 (by omega) | exact lay_h0 (by omega) | exact lay_h1 (by omega)) (by first | decide | omega) (Nat.le_of_ble_eq_true rfl) (Nat.le_of_ble_eq_true rfl) (by omega) ?_
            refine c_isHeld hs (CL0_0 hC) (CL1_2 hC) (CL_slot hC hs) (lay_s0 hs) hT.1 hWT.1 ?_
            dsimp only [gPush]
            first | refine U_ifB_ne (tgt := 29) dX9_taken_23 (by decide) (by with_reducible rfl) (fun c23 => ?_) (fun c23 => ?_) | refine U_if_ne (tgt := 29) dX9_taken_23 (by decide) (by with_reducible rfl) (by omega) (fun c23 => ?_) (fun c23 => ?_) | refine V_if_ne (tgt := 29) dX9_taken_23 (by decide) (fun c23 => ?_) (fun c23 => ?_)
            · skip
              exact absurd (of_decide_eq_true c23) (fun q => q hz)
            · skip
              refine V_bipush (v := -11) dX9_taken_26 (by decide) ?_
              refine V_iret dX9_taken_28 rfl rfl ?_
              exact hQ h hR FrC.rf
          · skip
            omega
    · rw [if_neg hz] at hQ
      have hQ' := hQ h hR FrC.rf
      rw [cN_nI (by omega)] at hQ'
      refine V_iloadn1 dX9_taken_0 ?_
      refine V_callS1 (μ' := mX9_isSlot) dX9_taken_1 okX9_isSlot lX9_91 (Nat.le_of_ble_eq_true rfl) (Nat.le_of_ble_eq_true rfl) (by omega) ?_
      refine c_isSlot ?_
      rw [hg2.1]
      dsimp only [gPush]
      first | refine U_ifB_eq (tgt := 16) dX9_taken_4 (by decide) (by with_reducible rfl) (fun c4 => ?_) (fun c4 => ?_) | refine U_if_eq (tgt := 16) dX9_taken_4 (by decide) (by with_reducible rfl) (by omega) (fun c4 => ?_) (fun c4 => ?_) | refine V_if_eq (tgt := 16) dX9_taken_4 (by decide) (fun c4 => ?_) (fun c4 => ?_)
      · skip
        cases c4
      · skip
        refine V_iloadn2 dX9_taken_7 ?_
        refine V_if_lt (tgt := 16) dX9_taken_8 (by decide) (fun c8 => ?_) (fun c8 => ?_)
        · skip
          exact absurd c8 (nI_pos (by omega))
        · skip
          refine V_iloadn2 dX9_taken_11 ?_
          refine V_iconst (v := nI 1) dX9_taken_12 (by decide) ?_
          first | refine U_icmp_le (tgt := 18) dX9_taken_13 (by decide) (by with_reducible rfl) (by with_reducible rfl) (by omega) (by omega) (fun c13 => ?_) (fun c13 => ?_) | refine V_icmp_le (tgt := 18) dX9_taken_13 (by decide) (fun c13 => ?_) (fun c13 => ?_)
          · skip
            refine V_aloadn0 dX9_taken_18 ?_
            refine V_iloadn1 dX9_taken_19 ?_
            refine V_callV1 (μ' := mX9_isHeld) dX9_taken_20 okX9_isHeld lX9_130 rfl (by first | assumption | rfl | exact lay_s0 (by omega) | exact lay_s1 (by omega) | exact lay_s2 (by omega) | exact lay_h0 (by omega) | exact lay_h1 (by omega)) (by first | decide | omega) (Nat.le_of_ble_eq_true rfl) (Nat.le_of_ble_eq_true rfl) (by omega) ?_
            refine c_isHeld hs (CL0_0 hC) (CL1_2 hC) (CL_slot hC hs) (lay_s0 hs) hT.1 hWT.1 ?_
            dsimp only [gPush]
            first | refine U_ifB_ne (tgt := 29) dX9_taken_23 (by decide) (by with_reducible rfl) (fun c23 => ?_) (fun c23 => ?_) | refine U_if_ne (tgt := 29) dX9_taken_23 (by decide) (by with_reducible rfl) (by omega) (fun c23 => ?_) (fun c23 => ?_) | refine V_if_ne (tgt := 29) dX9_taken_23 (by decide) (fun c23 => ?_) (fun c23 => ?_)
            · skip
              refine V_aloadn0 dX9_taken_29 ?_
              refine V_getR dX9_taken_30 fX9_10 (by first | assumption | rfl | exact lay_s0 (by omega) | exact lay_s1 (by omega) | exact lay_s2 (by omega) | exact lay_h0 (by omega) | exact lay_h1 (by omega)) (by first | decide | omega) (by first | assumption | exact CL0_0 (by assumption) | exact CL0_1 (by assumption) | exact CL0_3 (by assumption) | exact CL0_4 (by assumption) | exact CL0_5 (by assumption) | exact CL0_6 (by assumption) | exact CL0_7 (by assumption) | exact CL0_8 (by assumption) | exact CL0_9 (by assumption) | exact CL0_10 (by assumption) | exact CL0_11 (by assumption) | exact CL0_12 (by assumption) | exact CL0_13 (by assumption) | exact CL1_2 (by assumption) | exact CL1_3 (by assumption) | exact CL80_2 (by assumption) | exact CL_slot (by assumption) (by omega) | exact (CL_sh (by assumption) (by omega)).1 | exact (CL_sh (by assumption) (by omega)).2.1 | rfl) ?_
              refine V_getR dX9_taken_33 fX9_99 (by first | assumption | rfl | exact lay_s0 (by omega) | exact lay_s1 (by omega) | exact lay_s2 (by omega) | exact lay_h0 (by omega) | exact lay_h1 (by omega)) (by first | decide | omega) (by first | assumption | exact CL0_0 (by assumption) | exact CL0_1 (by assumption) | exact CL0_3 (by assumption) | exact CL0_4 (by assumption) | exact CL0_5 (by assumption) | exact CL0_6 (by assumption) | exact CL0_7 (by assumption) | exact CL0_8 (by assumption) | exact CL0_9 (by assumption) | exact CL0_10 (by assumption) | exact CL0_11 (by assumption) | exact CL0_12 (by assumption) | exact CL0_13 (by assumption) | exact CL1_2 (by assumption) | exact CL1_3 (by assumption) | exact CL80_2 (by assumption) | exact CL_slot (by assumption) (by omega) | exact (CL_sh (by assumption) (by omega)).1 | exact (CL_sh (by assumption) (by omega)).2.1 | rfl) ?_
              refine V_iloadn1 dX9_taken_36 ?_
              refine U_aald dX9_taken_37 (by with_reducible rfl) (by first | assumption | rfl | exact lay_s0 (by omega) | exact lay_s1 (by omega) | exact lay_s2 (by omega) | exact lay_h0 (by omega) | exact lay_h1 (by omega)) (by decide) (by first | decide | omega) (by omega) (by first | assumption | exact CL0_0 (by assumption) | exact CL0_1 (by assumption) | exact CL0_3 (by assumption) | exact CL0_4 (by assumption) | exact CL0_5 (by assumption) | exact CL0_6 (by assumption) | exact CL0_7 (by assumption) | exact CL0_8 (by assumption) | exact CL0_9 (by assumption) | exact CL0_10 (by assumption) | exact CL0_11 (by assumption) | exact CL0_12 (by assumption) | exact CL0_13 (by assumption) | exact CL1_2 (by assumption) | exact CL1_3 (by assumption) | exact CL80_2 (by assumption) | exact CL_slot (by assumption) (by omega) | exact (CL_sh (by assumption) (by omega)).1 | exact (CL_sh (by assumption) (by omega)).2.1 | rfl) ?_
              refine V_astoren3 dX9_taken_38 (by decide) rfl ?_
              refine V_iloadn2 dX9_taken_39 ?_
              refine V_iconst (v := nI 1) dX9_taken_40 (by decide) ?_
              first | refine U_icmp_ne (tgt := 48) dX9_taken_41 (by decide) (by with_reducible rfl) (by with_reducible rfl) (by omega) (by omega) (fun c41 => ?_) (fun c41 => ?_) | refine V_icmp_ne (tgt := 48) dX9_taken_41 (by decide) (fun c41 => ?_) (fun c41 => ?_)
              · skip
                have ek : k = 0 := by omega
                subst ek
                refine V_iconst (v := nI 1) dX9_taken_48 (by decide) ?_
                refine V_istorew4 dX9_taken_49 (by decide) rfl ?_
                refine V_aloadn3 dX9_taken_51 ?_
                refine V_getI dX9_taken_52 fX9_136 (Or.inl rfl) (by first | assumption | rfl | exact lay_s0 (by omega) | exact lay_s1 (by omega) | exact lay_s2 (by omega) | exact lay_h0 (by omega) | exact lay_h1 (by omega)) (by first | decide | omega) (by first | assumption | exact CL0_0 (by assumption) | exact CL0_1 (by assumption) | exact CL0_3 (by assumption) | exact CL0_4 (by assumption) | exact CL0_5 (by assumption) | exact CL0_6 (by assumption) | exact CL0_7 (by assumption) | exact CL0_8 (by assumption) | exact CL0_9 (by assumption) | exact CL0_10 (by assumption) | exact CL0_11 (by assumption) | exact CL0_12 (by assumption) | exact CL0_13 (by assumption) | exact CL1_2 (by assumption) | exact CL1_3 (by assumption) | exact CL80_2 (by assumption) | exact CL_slot (by assumption) (by omega) | exact (CL_sh (by assumption) (by omega)).1 | exact (CL_sh (by assumption) (by omega)).2.1 | rfl) ?_
                refine V_iloadw4 dX9_taken_55 ?_
                first | refine U_icmp_ne (tgt := 67) dX9_taken_57 (by decide) (by with_reducible rfl) (by with_reducible rfl) (by omega) (by omega) (fun c57 => ?_) (fun c57 => ?_) | refine V_icmp_ne (tgt := 67) dX9_taken_57 (by decide) (fun c57 => ?_) (fun c57 => ?_)
                · skip
                  rw [if_neg (by omega)] at hQ'
                  refine V_bipush (v := -13) dX9_taken_67 (by decide) ?_
                  refine V_iret dX9_taken_69 rfl rfl ?_
                  exact hQ'
                · skip
                  rw [if_pos (by omega)] at hQ'
                  refine V_aloadn3 dX9_taken_60 ?_
                  refine V_getI dX9_taken_61 fX9_107 (Or.inl rfl) (by first | assumption | rfl | exact lay_s0 (by omega) | exact lay_s1 (by omega) | exact lay_s2 (by omega) | exact lay_h0 (by omega) | exact lay_h1 (by omega)) (by first | decide | omega) (by first | assumption | exact CL0_0 (by assumption) | exact CL0_1 (by assumption) | exact CL0_3 (by assumption) | exact CL0_4 (by assumption) | exact CL0_5 (by assumption) | exact CL0_6 (by assumption) | exact CL0_7 (by assumption) | exact CL0_8 (by assumption) | exact CL0_9 (by assumption) | exact CL0_10 (by assumption) | exact CL0_11 (by assumption) | exact CL0_12 (by assumption) | exact CL0_13 (by assumption) | exact CL1_2 (by assumption) | exact CL1_3 (by assumption) | exact CL80_2 (by assumption) | exact CL_slot (by assumption) (by omega) | exact (CL_sh (by assumption) (by omega)).1 | exact (CL_sh (by assumption) (by omega)).2.1 | rfl) ?_
                  refine V_goto (tgt := 69) dX9_taken_64 (by decide) ?_
                  refine V_iret dX9_taken_69 rfl rfl ?_
                  exact hQ'
              · skip
                have ek : k = 1 := by omega
                subst ek
                refine V_iconst (v := nI 2) dX9_taken_44 (by decide) ?_
                refine V_goto (tgt := 49) dX9_taken_45 (by decide) ?_
                refine V_istorew4 dX9_taken_49 (by decide) rfl ?_
                refine V_aloadn3 dX9_taken_51 ?_
                refine V_getI dX9_taken_52 fX9_136 (Or.inl rfl) (by first | assumption | rfl | exact lay_s0 (by omega) | exact lay_s1 (by omega) | exact lay_s2 (by omega) | exact lay_h0 (by omega) | exact lay_h1 (by omega)) (by first | decide | omega) (by first | assumption | exact CL0_0 (by assumption) | exact CL0_1 (by assumption) | exact CL0_3 (by assumption) | exact CL0_4 (by assumption) | exact CL0_5 (by assumption) | exact CL0_6 (by assumption) | exact CL0_7 (by assumption) | exact CL0_8 (by assumption) | exact CL0_9 (by assumption) | exact CL0_10 (by assumption) | exact CL0_11 (by assumption) | exact CL0_12 (by assumption) | exact CL0_13 (by assumption) | exact CL1_2 (by assumption) | exact CL1_3 (by assumption) | exact CL80_2 (by assumption) | exact CL_slot (by assumption) (by omega) | exact (CL_sh (by assumption) (by omega)).1 | exact (CL_sh (by assumption) (by omega)).2.1 | rfl) ?_
                refine V_iloadw4 dX9_taken_55 ?_
                first | refine U_icmp_ne (tgt := 67) dX9_taken_57 (by decide) (by with_reducible rfl) (by with_reducible rfl) (by omega) (by omega) (fun c57 => ?_) (fun c57 => ?_) | refine V_icmp_ne (tgt := 67) dX9_taken_57 (by decide) (fun c57 => ?_) (fun c57 => ?_)
                · skip
                  rw [if_neg (by omega)] at hQ'
                  refine V_bipush (v := -13) dX9_taken_67 (by decide) ?_
                  refine V_iret dX9_taken_69 rfl rfl ?_
                  exact hQ'
                · skip
                  rw [if_pos (by omega)] at hQ'
                  refine V_aloadn3 dX9_taken_60 ?_
                  refine V_getI dX9_taken_61 fX9_107 (Or.inl rfl) (by first | assumption | rfl | exact lay_s0 (by omega) | exact lay_s1 (by omega) | exact lay_s2 (by omega) | exact lay_h0 (by omega) | exact lay_h1 (by omega)) (by first | decide | omega) (by first | assumption | exact CL0_0 (by assumption) | exact CL0_1 (by assumption) | exact CL0_3 (by assumption) | exact CL0_4 (by assumption) | exact CL0_5 (by assumption) | exact CL0_6 (by assumption) | exact CL0_7 (by assumption) | exact CL0_8 (by assumption) | exact CL0_9 (by assumption) | exact CL0_10 (by assumption) | exact CL0_11 (by assumption) | exact CL0_12 (by assumption) | exact CL0_13 (by assumption) | exact CL1_2 (by assumption) | exact CL1_3 (by assumption) | exact CL80_2 (by assumption) | exact CL_slot (by assumption) (by omega) | exact (CL_sh (by assumption) (by omega)).1 | exact (CL_sh (by assumption) (by omega)).2.1 | rfl) ?_
                  refine V_goto (tgt := 69) dX9_taken_64 (by decide) ?_
                  refine V_iret dX9_taken_69 rfl rfl ?_
                  exact hQ'
            · skip
              exact absurd (of_decide_eq_false c23) (fun q => q hz)
          · skip
            omega
  · have hQ9 := hQ h hR FrC.rf
    have eq0 : g_taken S x y = -1 := if_neg hg
    rw [eq0] at hQ9
    refine V_iloadn1 dX9_taken_0 ?_
    refine V_callS1 (μ' := mX9_isSlot) dX9_taken_1 okX9_isSlot lX9_91 (Nat.le_of_ble_eq_true rfl) (Nat.le_of_ble_eq_true rfl) (by omega) ?_
    refine c_isSlot ?_
    dsimp only [gPush]
    first | refine U_ifB_eq (tgt := 16) dX9_taken_4 (by decide) (by with_reducible rfl) (fun c4 => ?_) (fun c4 => ?_) | refine U_if_eq (tgt := 16) dX9_taken_4 (by decide) (by with_reducible rfl) (by omega) (fun c4 => ?_) (fun c4 => ?_) | refine V_if_eq (tgt := 16) dX9_taken_4 (by decide) (fun c4 => ?_) (fun c4 => ?_)
    · skip
      refine V_iconst (v := -1) dX9_taken_16 (by decide) ?_
      refine V_iret dX9_taken_17 rfl rfl ?_
      exact hQ9
    · skip
      refine V_iloadn2 dX9_taken_7 ?_
      refine V_if_lt (tgt := 16) dX9_taken_8 (by decide) (fun c8 => ?_) (fun c8 => ?_)
      · skip
        refine V_iconst (v := -1) dX9_taken_16 (by decide) ?_
        refine V_iret dX9_taken_17 rfl rfl ?_
        exact hQ9
      · skip
        refine V_iloadn2 dX9_taken_11 ?_
        refine V_iconst (v := nI 1) dX9_taken_12 (by decide) ?_
        first | refine U_icmp_le (tgt := 18) dX9_taken_13 (by decide) (by with_reducible rfl) (by with_reducible rfl) (by omega) (by omega) (fun c13 => ?_) (fun c13 => ?_) | refine V_icmp_le (tgt := 18) dX9_taken_13 (by decide) (fun c13 => ?_) (fun c13 => ?_)
        · skip
          exact absurd (by rw [c4, inR_in0 c8 c13]; rfl) hg
        · skip
          refine V_iconst (v := -1) dX9_taken_16 (by decide) ?_
          refine V_iret dX9_taken_17 rfl rfl ?_
          exact hQ9

set_option maxRecDepth 100000 in
set_option maxHeartbeats 4000000 in
theorem c_highest {x y : Int32} (hd : 4 ≤ d) (hR : RC h S) (hQ : ∀ h', RC h' S → FrC h h' → Q (some (.int (g_highest S x y))) h') : V Γ mX9_highest d 124 124 h 0 [some (.ref 0), some (.int x), some (.int y), none] [] Q := by
  obtain ⟨hC, hW, hA, hK, hK2, hB, hSh, hFm⟩ := id hR
  have n0 := hA.1
  have hn2 := hW.1.1
  have hn5 := hW.1.2.1
  by_cases hg : (inB x 6 && inR y 0 2) = true
  · have hg2 := hg
    rw [Bool.and_eq_true] at hg2
    obtain ⟨s, hs, rfl⟩ := inB_t (by decide) hg2.1
    obtain ⟨k, k0, k4, rfl⟩ := inR_t (by decide) (by decide) hg2.2
    obtain ⟨hT, hWT⟩ := RC_slot hR hs
    obtain ⟨t0, t1, t3, -⟩ := id hT
    have kd1 := hWT.1
    have eS : tS S (nI s) = S.1.2.2.1 s := by unfold tS; rw [cN_nI (by omega)]
    have eq0 : g_highest S (nI s) (nI k) = _ := if_t hg
    rw [eq0, eS] at hQ
    by_cases hz : (S.1.2.2.1 s).1 = 0
    · rw [if_pos hz] at hQ
      refine V_iloadn1 dX9_highest_0 ?_
      refine V_callS1 (μ' := mX9_isSlot) dX9_highest_1 okX9_isSlot lX9_91 (Nat.le_of_ble_eq_true rfl) (Nat.le_of_ble_eq_true rfl) (by omega) ?_
      refine c_isSlot ?_
      rw [hg2.1]
      dsimp only [gPush]
      first | refine U_ifB_eq (tgt := 16) dX9_highest_4 (by decide) (by with_reducible rfl) (fun c4 => ?_) (fun c4 => ?_) | refine U_if_eq (tgt := 16) dX9_highest_4 (by decide) (by with_reducible rfl) (by omega) (fun c4 => ?_) (fun c4 => ?_) | refine V_if_eq (tgt := 16) dX9_highest_4 (by decide) (fun c4 => ?_) (fun c4 => ?_)
      · skip
        cases c4
      · skip
        refine V_iloadn2 dX9_highest_7 ?_
        refine V_if_lt (tgt := 16) dX9_highest_8 (by decide) (fun c8 => ?_) (fun c8 => ?_)
        · skip
          exact absurd c8 (nI_pos (by omega))
        · skip
          refine V_iloadn2 dX9_highest_11 ?_
          refine V_iconst (v := nI 2) dX9_highest_12 (by decide) ?_
          first | refine U_icmp_le (tgt := 18) dX9_highest_13 (by decide) (by with_reducible rfl) (by with_reducible rfl) (by omega) (by omega) (fun c13 => ?_) (fun c13 => ?_) | refine V_icmp_le (tgt := 18) dX9_highest_13 (by decide) (fun c13 => ?_) (fun c13 => ?_)
          · skip
            refine V_aloadn0 dX9_highest_18 ?_
            refine V_iloadn1 dX9_highest_19 ?_
            refine V_callV1 (μ' := mX9_isHeld) dX9_highest_20 okX9_isHeld lX9_130 rfl (by first | assumption | rfl | exact lay_s0 (by omega) | exact lay_s1 (by omega) | exact lay_s2 (by omega) | exact lay_h0 (by omega) | exact lay_h1 (by omega)) (by first | decide | omega) (Nat.le_of_ble_eq_true rfl) (Nat.le_of_ble_eq_true rfl) (by omega) ?_
            refine c_isHeld hs (CL0_0 hC) (CL1_2 hC) (CL_slot hC hs) (lay_s0 hs) hT.1 hWT.1 ?_
            dsimp only [gPush]
            first | refine U_ifB_ne (tgt := 29) dX9_highest_23 (by decide) (by with_reducible rfl) (fun c23 => ?_) (fun c23 => ?_) | refine U_if_ne (tgt := 29) dX9_highest_23 (by decide) (by with_reducible rfl) (by omega) (fun c23 => ?_) (fun c23 => ?_) | refine V_if_ne (tgt := 29) dX9_highest_23 (by decide) (fun c23 => ?_) (fun c23 => ?_)
            · skip
              exact absurd (of_decide_eq_true c23) (fun q => q hz)
            · skip
              refine V_bipush (v := -11) dX9_highest_26 (by decide) ?_
              refine V_iret dX9_highest_28 rfl rfl ?_
              exact hQ h hR FrC.rf
          · skip
            omega
    · rw [if_neg hz] at hQ
      have hwl := hWT.2.1
      have hlt := hWT.2.2.1
      have hsum : (S.1.2.2.1 s).2.1.sum ≤ 30 := Nat.le_trans (sum_le _ hlt) (by
        have := Nat.mul_le_mul hn5 hwl
        omega)
      have tl := (top_ok hn2 hn5 30 _ hwl hlt hsum).1
      have t30 := (top_ok hn2 hn5 30 _ hwl hlt hsum).2.2.2.2.1
      refine V_iloadn1 dX9_highest_0 ?_
      refine V_callS1 (μ' := mX9_isSlot) dX9_highest_1 okX9_isSlot lX9_91 (Nat.le_of_ble_eq_true rfl) (Nat.le_of_ble_eq_true rfl) (by omega) ?_
      refine c_isSlot ?_
      rw [hg2.1]
      dsimp only [gPush]
      first | refine U_ifB_eq (tgt := 16) dX9_highest_4 (by decide) (by with_reducible rfl) (fun c4 => ?_) (fun c4 => ?_) | refine U_if_eq (tgt := 16) dX9_highest_4 (by decide) (by with_reducible rfl) (by omega) (fun c4 => ?_) (fun c4 => ?_) | refine V_if_eq (tgt := 16) dX9_highest_4 (by decide) (fun c4 => ?_) (fun c4 => ?_)
      · skip
        cases c4
      · skip
        refine V_iloadn2 dX9_highest_7 ?_
        refine V_if_lt (tgt := 16) dX9_highest_8 (by decide) (fun c8 => ?_) (fun c8 => ?_)
        · skip
          exact absurd c8 (nI_pos (by omega))
        · skip
          refine V_iloadn2 dX9_highest_11 ?_
          refine V_iconst (v := nI 2) dX9_highest_12 (by decide) ?_
          first | refine U_icmp_le (tgt := 18) dX9_highest_13 (by decide) (by with_reducible rfl) (by with_reducible rfl) (by omega) (by omega) (fun c13 => ?_) (fun c13 => ?_) | refine V_icmp_le (tgt := 18) dX9_highest_13 (by decide) (fun c13 => ?_) (fun c13 => ?_)
          · skip
            refine V_aloadn0 dX9_highest_18 ?_
            refine V_iloadn1 dX9_highest_19 ?_
            refine V_callV1 (μ' := mX9_isHeld) dX9_highest_20 okX9_isHeld lX9_130 rfl (by first | assumption | rfl | exact lay_s0 (by omega) | exact lay_s1 (by omega) | exact lay_s2 (by omega) | exact lay_h0 (by omega) | exact lay_h1 (by omega)) (by first | decide | omega) (Nat.le_of_ble_eq_true rfl) (Nat.le_of_ble_eq_true rfl) (by omega) ?_
            refine c_isHeld hs (CL0_0 hC) (CL1_2 hC) (CL_slot hC hs) (lay_s0 hs) hT.1 hWT.1 ?_
            dsimp only [gPush]
            first | refine U_ifB_ne (tgt := 29) dX9_highest_23 (by decide) (by with_reducible rfl) (fun c23 => ?_) (fun c23 => ?_) | refine U_if_ne (tgt := 29) dX9_highest_23 (by decide) (by with_reducible rfl) (by omega) (fun c23 => ?_) (fun c23 => ?_) | refine V_if_ne (tgt := 29) dX9_highest_23 (by decide) (fun c23 => ?_) (fun c23 => ?_)
            · skip
              refine V_aloadn0 dX9_highest_29 ?_
              refine V_getR dX9_highest_30 fX9_76 (by first | assumption | rfl | exact lay_s0 (by omega) | exact lay_s1 (by omega) | exact lay_s2 (by omega) | exact lay_h0 (by omega) | exact lay_h1 (by omega)) (by first | decide | omega) (by first | assumption | exact CL0_0 (by assumption) | exact CL0_1 (by assumption) | exact CL0_3 (by assumption) | exact CL0_4 (by assumption) | exact CL0_5 (by assumption) | exact CL0_6 (by assumption) | exact CL0_7 (by assumption) | exact CL0_8 (by assumption) | exact CL0_9 (by assumption) | exact CL0_10 (by assumption) | exact CL0_11 (by assumption) | exact CL0_12 (by assumption) | exact CL0_13 (by assumption) | exact CL1_2 (by assumption) | exact CL1_3 (by assumption) | exact CL80_2 (by assumption) | exact CL_slot (by assumption) (by omega) | exact (CL_sh (by assumption) (by omega)).1 | exact (CL_sh (by assumption) (by omega)).2.1 | rfl) ?_
              refine V_aloadn0 dX9_highest_33 ?_
              refine V_getR dX9_highest_34 fX9_10 (by first | assumption | rfl | exact lay_s0 (by omega) | exact lay_s1 (by omega) | exact lay_s2 (by omega) | exact lay_h0 (by omega) | exact lay_h1 (by omega)) (by first | decide | omega) (by first | assumption | exact CL0_0 (by assumption) | exact CL0_1 (by assumption) | exact CL0_3 (by assumption) | exact CL0_4 (by assumption) | exact CL0_5 (by assumption) | exact CL0_6 (by assumption) | exact CL0_7 (by assumption) | exact CL0_8 (by assumption) | exact CL0_9 (by assumption) | exact CL0_10 (by assumption) | exact CL0_11 (by assumption) | exact CL0_12 (by assumption) | exact CL0_13 (by assumption) | exact CL1_2 (by assumption) | exact CL1_3 (by assumption) | exact CL80_2 (by assumption) | exact CL_slot (by assumption) (by omega) | exact (CL_sh (by assumption) (by omega)).1 | exact (CL_sh (by assumption) (by omega)).2.1 | rfl) ?_
              refine V_getR dX9_highest_37 fX9_99 (by first | assumption | rfl | exact lay_s0 (by omega) | exact lay_s1 (by omega) | exact lay_s2 (by omega) | exact lay_h0 (by omega) | exact lay_h1 (by omega)) (by first | decide | omega) (by first | assumption | exact CL0_0 (by assumption) | exact CL0_1 (by assumption) | exact CL0_3 (by assumption) | exact CL0_4 (by assumption) | exact CL0_5 (by assumption) | exact CL0_6 (by assumption) | exact CL0_7 (by assumption) | exact CL0_8 (by assumption) | exact CL0_9 (by assumption) | exact CL0_10 (by assumption) | exact CL0_11 (by assumption) | exact CL0_12 (by assumption) | exact CL0_13 (by assumption) | exact CL1_2 (by assumption) | exact CL1_3 (by assumption) | exact CL80_2 (by assumption) | exact CL_slot (by assumption) (by omega) | exact (CL_sh (by assumption) (by omega)).1 | exact (CL_sh (by assumption) (by omega)).2.1 | rfl) ?_
              refine V_iloadn1 dX9_highest_40 ?_
              refine U_aald dX9_highest_41 (by with_reducible rfl) (by first | assumption | rfl | exact lay_s0 (by omega) | exact lay_s1 (by omega) | exact lay_s2 (by omega) | exact lay_h0 (by omega) | exact lay_h1 (by omega)) (by decide) (by first | decide | omega) (by omega) (by first | assumption | exact CL0_0 (by assumption) | exact CL0_1 (by assumption) | exact CL0_3 (by assumption) | exact CL0_4 (by assumption) | exact CL0_5 (by assumption) | exact CL0_6 (by assumption) | exact CL0_7 (by assumption) | exact CL0_8 (by assumption) | exact CL0_9 (by assumption) | exact CL0_10 (by assumption) | exact CL0_11 (by assumption) | exact CL0_12 (by assumption) | exact CL0_13 (by assumption) | exact CL1_2 (by assumption) | exact CL1_3 (by assumption) | exact CL80_2 (by assumption) | exact CL_slot (by assumption) (by omega) | exact (CL_sh (by assumption) (by omega)).1 | exact (CL_sh (by assumption) (by omega)).2.1 | rfl) ?_
              refine V_callV1 (μ' := mX8_becomeLike) dX9_highest_42 okX8_becomeLike lX9_103 rfl (by first | assumption | rfl | exact lay_s0 (by omega) | exact lay_s1 (by omega) | exact lay_s2 (by omega) | exact lay_h0 (by omega) | exact lay_h1 (by omega)) (by first | decide | omega) (Nat.le_of_ble_eq_true rfl) (Nat.le_of_ble_eq_true rfl) (by omega) ?_
              refine c_becomeLike (by omega) (CL_80 hC) (CL_T hC hs) hT (by omega) (fun h1 hT1 hF1 => ?_)
              have hC1 := CLay_eq hC hF1.2.2
              have n1 : gI h1 1 0 = nI S.1.1 := by rw [hF1.1 1 (by omega)]; exact n0
              dsimp only [gPush]
              refine V_aloadn0 dX9_highest_45 ?_
              refine V_getR dX9_highest_46 fX9_35 (by first | assumption | rfl | exact lay_s0 (by omega) | exact lay_s1 (by omega) | exact lay_s2 (by omega) | exact lay_h0 (by omega) | exact lay_h1 (by omega)) (by first | decide | omega) (by first | assumption | exact CL0_0 (by assumption) | exact CL0_1 (by assumption) | exact CL0_3 (by assumption) | exact CL0_4 (by assumption) | exact CL0_5 (by assumption) | exact CL0_6 (by assumption) | exact CL0_7 (by assumption) | exact CL0_8 (by assumption) | exact CL0_9 (by assumption) | exact CL0_10 (by assumption) | exact CL0_11 (by assumption) | exact CL0_12 (by assumption) | exact CL0_13 (by assumption) | exact CL1_2 (by assumption) | exact CL1_3 (by assumption) | exact CL80_2 (by assumption) | exact CL_slot (by assumption) (by omega) | exact (CL_sh (by assumption) (by omega)).1 | exact (CL_sh (by assumption) (by omega)).2.1 | rfl) ?_
              refine V_aloadn0 dX9_highest_49 ?_
              refine V_getR dX9_highest_50 fX9_76 (by first | assumption | rfl | exact lay_s0 (by omega) | exact lay_s1 (by omega) | exact lay_s2 (by omega) | exact lay_h0 (by omega) | exact lay_h1 (by omega)) (by first | decide | omega) (by first | assumption | exact CL0_0 (by assumption) | exact CL0_1 (by assumption) | exact CL0_3 (by assumption) | exact CL0_4 (by assumption) | exact CL0_5 (by assumption) | exact CL0_6 (by assumption) | exact CL0_7 (by assumption) | exact CL0_8 (by assumption) | exact CL0_9 (by assumption) | exact CL0_10 (by assumption) | exact CL0_11 (by assumption) | exact CL0_12 (by assumption) | exact CL0_13 (by assumption) | exact CL1_2 (by assumption) | exact CL1_3 (by assumption) | exact CL80_2 (by assumption) | exact CL_slot (by assumption) (by omega) | exact (CL_sh (by assumption) (by omega)).1 | exact (CL_sh (by assumption) (by omega)).2.1 | rfl) ?_
              refine V_aloadn0 dX9_highest_53 ?_
              refine V_getR dX9_highest_54 fX9_10 (by first | assumption | rfl | exact lay_s0 (by omega) | exact lay_s1 (by omega) | exact lay_s2 (by omega) | exact lay_h0 (by omega) | exact lay_h1 (by omega)) (by first | decide | omega) (by first | assumption | exact CL0_0 (by assumption) | exact CL0_1 (by assumption) | exact CL0_3 (by assumption) | exact CL0_4 (by assumption) | exact CL0_5 (by assumption) | exact CL0_6 (by assumption) | exact CL0_7 (by assumption) | exact CL0_8 (by assumption) | exact CL0_9 (by assumption) | exact CL0_10 (by assumption) | exact CL0_11 (by assumption) | exact CL0_12 (by assumption) | exact CL0_13 (by assumption) | exact CL1_2 (by assumption) | exact CL1_3 (by assumption) | exact CL80_2 (by assumption) | exact CL_slot (by assumption) (by omega) | exact (CL_sh (by assumption) (by omega)).1 | exact (CL_sh (by assumption) (by omega)).2.1 | rfl) ?_
              refine V_getI dX9_highest_57 fX9_84 (Or.inl rfl) (by first | assumption | rfl | exact lay_s0 (by omega) | exact lay_s1 (by omega) | exact lay_s2 (by omega) | exact lay_h0 (by omega) | exact lay_h1 (by omega)) (by first | decide | omega) (by first | assumption | exact CL0_0 (by assumption) | exact CL0_1 (by assumption) | exact CL0_3 (by assumption) | exact CL0_4 (by assumption) | exact CL0_5 (by assumption) | exact CL0_6 (by assumption) | exact CL0_7 (by assumption) | exact CL0_8 (by assumption) | exact CL0_9 (by assumption) | exact CL0_10 (by assumption) | exact CL0_11 (by assumption) | exact CL0_12 (by assumption) | exact CL0_13 (by assumption) | exact CL1_2 (by assumption) | exact CL1_3 (by assumption) | exact CL80_2 (by assumption) | exact CL_slot (by assumption) (by omega) | exact (CL_sh (by assumption) (by omega)).1 | exact (CL_sh (by assumption) (by omega)).2.1 | rfl) ?_
              refine V_callV2 (μ' := mX3_raiseToHighest) dX9_highest_60 okX3_raiseToHighest lX9_186 rfl (by first | assumption | rfl | exact lay_s0 (by omega) | exact lay_s1 (by omega) | exact lay_s2 (by omega) | exact lay_h0 (by omega) | exact lay_h1 (by omega)) (by first | decide | omega) (Nat.le_of_ble_eq_true rfl) (Nat.le_of_ble_eq_true rfl) (by omega) ?_
              refine c_raiseToHighest (by omega) (CL_80 hC1) hT1 (by omega) hn5 (by omega) (fun h2 hT2 hF2 => ?_)
              have hC2 := CLay_eq hC1 hF2.2.2
              have n2 : gI h2 1 0 = nI S.1.1 := by rw [hF2.1 1 (by omega) (by omega)]; exact n1
              have hQ' := hQ h2 (RC_S hR ⟨fun a ha => by rw [hF2.1 a (by omega) (by omega), hF1.1 a (by omega)], by rw [hF2.1 43 (by omega) (by omega), hF1.1 43 (by omega)], fun a ha => by rw [hF2.2.1, hF1.2.1], hC2⟩) ((hF1.toC (by omega)).tr (hF2.toC (by omega)))
              dsimp only [gPush]
              refine V_istoren3 dX9_highest_63 (by decide) rfl ?_
              refine V_iloadn2 dX9_highest_64 ?_
              first | refine U_ifB_ne (tgt := 70) dX9_highest_65 (by decide) (by with_reducible rfl) (fun c65 => ?_) (fun c65 => ?_) | refine U_if_ne (tgt := 70) dX9_highest_65 (by decide) (by with_reducible rfl) (by omega) (fun c65 => ?_) (fun c65 => ?_) | refine V_if_ne (tgt := 70) dX9_highest_65 (by decide) (fun c65 => ?_) (fun c65 => ?_)
              · skip
                rw [if_neg (fun q => c65 ((nI_eq (by omega) (by omega)).mp q))] at hQ'
                refine V_iloadn2 dX9_highest_70 ?_
                refine V_iconst (v := nI 1) dX9_highest_71 (by decide) ?_
                first | refine U_icmp_ne (tgt := 85) dX9_highest_72 (by decide) (by with_reducible rfl) (by with_reducible rfl) (by omega) (by omega) (fun c72 => ?_) (fun c72 => ?_) | refine V_icmp_ne (tgt := 85) dX9_highest_72 (by decide) (fun c72 => ?_) (fun c72 => ?_)
                · skip
                  rw [if_neg (fun q => c72 ((nI_eq (by omega) (by omega)).mp q))] at hQ'
                  refine V_aloadn0 dX9_highest_85 ?_
                  refine V_getR dX9_highest_86 fX9_76 (by first | assumption | rfl | exact lay_s0 (by omega) | exact lay_s1 (by omega) | exact lay_s2 (by omega) | exact lay_h0 (by omega) | exact lay_h1 (by omega)) (by first | decide | omega) (by first | assumption | exact CL0_0 (by assumption) | exact CL0_1 (by assumption) | exact CL0_3 (by assumption) | exact CL0_4 (by assumption) | exact CL0_5 (by assumption) | exact CL0_6 (by assumption) | exact CL0_7 (by assumption) | exact CL0_8 (by assumption) | exact CL0_9 (by assumption) | exact CL0_10 (by assumption) | exact CL0_11 (by assumption) | exact CL0_12 (by assumption) | exact CL0_13 (by assumption) | exact CL1_2 (by assumption) | exact CL1_3 (by assumption) | exact CL80_2 (by assumption) | exact CL_slot (by assumption) (by omega) | exact (CL_sh (by assumption) (by omega)).1 | exact (CL_sh (by assumption) (by omega)).2.1 | rfl) ?_
                  refine V_aloadn0 dX9_highest_89 ?_
                  refine V_getR dX9_highest_90 fX9_10 (by first | assumption | rfl | exact lay_s0 (by omega) | exact lay_s1 (by omega) | exact lay_s2 (by omega) | exact lay_h0 (by omega) | exact lay_h1 (by omega)) (by first | decide | omega) (by first | assumption | exact CL0_0 (by assumption) | exact CL0_1 (by assumption) | exact CL0_3 (by assumption) | exact CL0_4 (by assumption) | exact CL0_5 (by assumption) | exact CL0_6 (by assumption) | exact CL0_7 (by assumption) | exact CL0_8 (by assumption) | exact CL0_9 (by assumption) | exact CL0_10 (by assumption) | exact CL0_11 (by assumption) | exact CL0_12 (by assumption) | exact CL0_13 (by assumption) | exact CL1_2 (by assumption) | exact CL1_3 (by assumption) | exact CL80_2 (by assumption) | exact CL_slot (by assumption) (by omega) | exact (CL_sh (by assumption) (by omega)).1 | exact (CL_sh (by assumption) (by omega)).2.1 | rfl) ?_
                  refine V_getI dX9_highest_93 fX9_84 (Or.inl rfl) (by first | assumption | rfl | exact lay_s0 (by omega) | exact lay_s1 (by omega) | exact lay_s2 (by omega) | exact lay_h0 (by omega) | exact lay_h1 (by omega)) (by first | decide | omega) (by first | assumption | exact CL0_0 (by assumption) | exact CL0_1 (by assumption) | exact CL0_3 (by assumption) | exact CL0_4 (by assumption) | exact CL0_5 (by assumption) | exact CL0_6 (by assumption) | exact CL0_7 (by assumption) | exact CL0_8 (by assumption) | exact CL0_9 (by assumption) | exact CL0_10 (by assumption) | exact CL0_11 (by assumption) | exact CL0_12 (by assumption) | exact CL0_13 (by assumption) | exact CL1_2 (by assumption) | exact CL1_3 (by assumption) | exact CL80_2 (by assumption) | exact CL_slot (by assumption) (by omega) | exact (CL_sh (by assumption) (by omega)).1 | exact (CL_sh (by assumption) (by omega)).2.1 | rfl) ?_
                  refine V_callV1 (μ' := mX8_content) dX9_highest_96 okX8_content lX9_143 rfl (by first | assumption | rfl | exact lay_s0 (by omega) | exact lay_s1 (by omega) | exact lay_s2 (by omega) | exact lay_h0 (by omega) | exact lay_h1 (by omega)) (by first | decide | omega) (Nat.le_of_ble_eq_true rfl) (Nat.le_of_ble_eq_true rfl) (by omega) ?_
                  refine c_content hn5 (CL_80 hC2) hT2 ?_
                  dsimp only [gPush]
                  refine V_iret dX9_highest_99 rfl rfl ?_
                  exact hQ'
                · skip
                  rw [if_pos (by rw [c72])] at hQ'
                  refine V_aloadn0 dX9_highest_75 ?_
                  refine V_getR dX9_highest_76 fX9_76 (by first | assumption | rfl | exact lay_s0 (by omega) | exact lay_s1 (by omega) | exact lay_s2 (by omega) | exact lay_h0 (by omega) | exact lay_h1 (by omega)) (by first | decide | omega) (by first | assumption | exact CL0_0 (by assumption) | exact CL0_1 (by assumption) | exact CL0_3 (by assumption) | exact CL0_4 (by assumption) | exact CL0_5 (by assumption) | exact CL0_6 (by assumption) | exact CL0_7 (by assumption) | exact CL0_8 (by assumption) | exact CL0_9 (by assumption) | exact CL0_10 (by assumption) | exact CL0_11 (by assumption) | exact CL0_12 (by assumption) | exact CL0_13 (by assumption) | exact CL1_2 (by assumption) | exact CL1_3 (by assumption) | exact CL80_2 (by assumption) | exact CL_slot (by assumption) (by omega) | exact (CL_sh (by assumption) (by omega)).1 | exact (CL_sh (by assumption) (by omega)).2.1 | rfl) ?_
                  refine V_callV0 (μ' := mX8_number) dX9_highest_79 okX8_number lX9_139 rfl (by first | assumption | rfl | exact lay_s0 (by omega) | exact lay_s1 (by omega) | exact lay_s2 (by omega) | exact lay_h0 (by omega) | exact lay_h1 (by omega)) (by first | decide | omega) (Nat.le_of_ble_eq_true rfl) (Nat.le_of_ble_eq_true rfl) (by omega) ?_
                  refine c_number (by omega) (CL_80 hC2) hT2 ?_
                  rw [tl]
                  dsimp only [gPush]
                  refine V_goto (tgt := 99) dX9_highest_82 (by decide) ?_
                  refine V_iret dX9_highest_99 rfl rfl ?_
                  exact hQ'
              · skip
                rw [if_pos (by rw [c65])] at hQ'
                refine V_iloadn3 dX9_highest_68 ?_
                refine V_iret dX9_highest_69 rfl rfl ?_
                exact hQ'
            · skip
              exact absurd (of_decide_eq_false c23) (fun q => q hz)
          · skip
            omega
  · have hQ9 := hQ h hR FrC.rf
    have eq0 : g_highest S x y = -1 := if_neg hg
    rw [eq0] at hQ9
    refine V_iloadn1 dX9_highest_0 ?_
    refine V_callS1 (μ' := mX9_isSlot) dX9_highest_1 okX9_isSlot lX9_91 (Nat.le_of_ble_eq_true rfl) (Nat.le_of_ble_eq_true rfl) (by omega) ?_
    refine c_isSlot ?_
    dsimp only [gPush]
    first | refine U_ifB_eq (tgt := 16) dX9_highest_4 (by decide) (by with_reducible rfl) (fun c4 => ?_) (fun c4 => ?_) | refine U_if_eq (tgt := 16) dX9_highest_4 (by decide) (by with_reducible rfl) (by omega) (fun c4 => ?_) (fun c4 => ?_) | refine V_if_eq (tgt := 16) dX9_highest_4 (by decide) (fun c4 => ?_) (fun c4 => ?_)
    · skip
      refine V_iconst (v := -1) dX9_highest_16 (by decide) ?_
      refine V_iret dX9_highest_17 rfl rfl ?_
      exact hQ9
    · skip
      refine V_iloadn2 dX9_highest_7 ?_
      refine V_if_lt (tgt := 16) dX9_highest_8 (by decide) (fun c8 => ?_) (fun c8 => ?_)
      · skip
        refine V_iconst (v := -1) dX9_highest_16 (by decide) ?_
        refine V_iret dX9_highest_17 rfl rfl ?_
        exact hQ9
      · skip
        refine V_iloadn2 dX9_highest_11 ?_
        refine V_iconst (v := nI 2) dX9_highest_12 (by decide) ?_
        first | refine U_icmp_le (tgt := 18) dX9_highest_13 (by decide) (by with_reducible rfl) (by with_reducible rfl) (by omega) (by omega) (fun c13 => ?_) (fun c13 => ?_) | refine V_icmp_le (tgt := 18) dX9_highest_13 (by decide) (fun c13 => ?_) (fun c13 => ?_)
        · skip
          exact absurd (by rw [c4, inR_in0 c8 c13]; rfl) hg
        · skip
          refine V_iconst (v := -1) dX9_highest_16 (by decide) ?_
          refine V_iret dX9_highest_17 rfl rfl ?_
          exact hQ9

set_option maxRecDepth 100000 in
set_option maxHeartbeats 4000000 in
theorem c_way {x : Int32} (hd : 4 ≤ d) (hR : RC h S) (hQ : ∀ h', RC h' S → FrC h h' → Q (some (.int (g_way S x))) h') : V Γ mX9_way d 124 124 h 0 [some (.ref 0), some (.int x)] [] Q := by
  obtain ⟨hC, hW, hA, hK, hK2, hB, hSh, hFm⟩ := id hR
  have n0 := hA.1
  have hn2 := hW.1.1
  have hn5 := hW.1.2.1
  cases hg : inB x 6 with
  | false =>
    have hQ9 := hQ h hR FrC.rf
    have eq0 : g_way S x = -1 := if_f hg
    rw [eq0] at hQ9
    refine V_iloadn1 dX9_way_0 ?_
    refine V_callS1 (μ' := mX9_isSlot) dX9_way_1 okX9_isSlot lX9_91 (Nat.le_of_ble_eq_true rfl) (Nat.le_of_ble_eq_true rfl) (by omega) ?_
    refine c_isSlot ?_
    rw [hg]
    dsimp only [gPush]
    first | refine U_ifB_ne (tgt := 9) dX9_way_4 (by decide) (by with_reducible rfl) (fun c4 => ?_) (fun c4 => ?_) | refine U_if_ne (tgt := 9) dX9_way_4 (by decide) (by with_reducible rfl) (by omega) (fun c4 => ?_) (fun c4 => ?_) | refine V_if_ne (tgt := 9) dX9_way_4 (by decide) (fun c4 => ?_) (fun c4 => ?_)
    · skip
      cases c4
    · skip
      refine V_iconst (v := -1) dX9_way_7 (by decide) ?_
      refine V_iret dX9_way_8 rfl rfl ?_
      exact hQ9
  | true =>
    obtain ⟨s, hs, rfl⟩ := inB_t (by decide) hg
    obtain ⟨hT, hWT⟩ := RC_slot hR hs
    obtain ⟨t0, t1, t3, -⟩ := id hT
    have kd1 := hWT.1
    have eS : tS S (nI s) = S.1.2.2.1 s := by unfold tS; rw [cN_nI (by omega)]
    have eq0 : g_way S (nI s) = _ := if_t hg
    rw [eq0, eS] at hQ
    by_cases hz : (S.1.2.2.1 s).1 = 0
    · rw [if_pos hz] at hQ
      refine V_iloadn1 dX9_way_0 ?_
      refine V_callS1 (μ' := mX9_isSlot) dX9_way_1 okX9_isSlot lX9_91 (Nat.le_of_ble_eq_true rfl) (Nat.le_of_ble_eq_true rfl) (by omega) ?_
      refine c_isSlot ?_
      rw [hg]
      dsimp only [gPush]
      first | refine U_ifB_ne (tgt := 9) dX9_way_4 (by decide) (by with_reducible rfl) (fun c4 => ?_) (fun c4 => ?_) | refine U_if_ne (tgt := 9) dX9_way_4 (by decide) (by with_reducible rfl) (by omega) (fun c4 => ?_) (fun c4 => ?_) | refine V_if_ne (tgt := 9) dX9_way_4 (by decide) (fun c4 => ?_) (fun c4 => ?_)
      · skip
        refine V_aloadn0 dX9_way_9 ?_
        refine V_iloadn1 dX9_way_10 ?_
        refine V_callV1 (μ' := mX9_isHeld) dX9_way_11 okX9_isHeld lX9_130 rfl (by first | assumption | rfl | exact lay_s0 (by omega) | exact lay_s1 (by omega) | exact lay_s2 (by omega) | exact lay_h0 (by omega) | exact lay_h1 (by omega)) (by first | decide | omega) (Nat.le_of_ble_eq_true rfl) (Nat.le_of_ble_eq_true rfl) (by omega) ?_
        refine c_isHeld hs (CL0_0 hC) (CL1_2 hC) (CL_slot hC hs) (lay_s0 hs) hT.1 hWT.1 ?_
        dsimp only [gPush]
        first | refine U_ifB_ne (tgt := 20) dX9_way_14 (by decide) (by with_reducible rfl) (fun c14 => ?_) (fun c14 => ?_) | refine U_if_ne (tgt := 20) dX9_way_14 (by decide) (by with_reducible rfl) (by omega) (fun c14 => ?_) (fun c14 => ?_) | refine V_if_ne (tgt := 20) dX9_way_14 (by decide) (fun c14 => ?_) (fun c14 => ?_)
        · skip
          exact absurd (of_decide_eq_true c14) (fun q => q hz)
        · skip
          refine V_bipush (v := -11) dX9_way_17 (by decide) ?_
          refine V_iret dX9_way_19 rfl rfl ?_
          exact hQ h hR FrC.rf
      · skip
        cases c4
    · rw [if_neg hz] at hQ
      have hwl := hWT.2.1
      have hlt := hWT.2.2.1
      refine V_iloadn1 dX9_way_0 ?_
      refine V_callS1 (μ' := mX9_isSlot) dX9_way_1 okX9_isSlot lX9_91 (Nat.le_of_ble_eq_true rfl) (Nat.le_of_ble_eq_true rfl) (by omega) ?_
      refine c_isSlot ?_
      rw [hg]
      dsimp only [gPush]
      first | refine U_ifB_ne (tgt := 9) dX9_way_4 (by decide) (by with_reducible rfl) (fun c4 => ?_) (fun c4 => ?_) | refine U_if_ne (tgt := 9) dX9_way_4 (by decide) (by with_reducible rfl) (by omega) (fun c4 => ?_) (fun c4 => ?_) | refine V_if_ne (tgt := 9) dX9_way_4 (by decide) (fun c4 => ?_) (fun c4 => ?_)
      · skip
        refine V_aloadn0 dX9_way_9 ?_
        refine V_iloadn1 dX9_way_10 ?_
        refine V_callV1 (μ' := mX9_isHeld) dX9_way_11 okX9_isHeld lX9_130 rfl (by first | assumption | rfl | exact lay_s0 (by omega) | exact lay_s1 (by omega) | exact lay_s2 (by omega) | exact lay_h0 (by omega) | exact lay_h1 (by omega)) (by first | decide | omega) (Nat.le_of_ble_eq_true rfl) (Nat.le_of_ble_eq_true rfl) (by omega) ?_
        refine c_isHeld hs (CL0_0 hC) (CL1_2 hC) (CL_slot hC hs) (lay_s0 hs) hT.1 hWT.1 ?_
        dsimp only [gPush]
        first | refine U_ifB_ne (tgt := 20) dX9_way_14 (by decide) (by with_reducible rfl) (fun c14 => ?_) (fun c14 => ?_) | refine U_if_ne (tgt := 20) dX9_way_14 (by decide) (by with_reducible rfl) (by omega) (fun c14 => ?_) (fun c14 => ?_) | refine V_if_ne (tgt := 20) dX9_way_14 (by decide) (fun c14 => ?_) (fun c14 => ?_)
        · skip
          refine V_aloadn0 dX9_way_20 ?_
          refine V_getR dX9_way_21 fX9_76 (by first | assumption | rfl | exact lay_s0 (by omega) | exact lay_s1 (by omega) | exact lay_s2 (by omega) | exact lay_h0 (by omega) | exact lay_h1 (by omega)) (by first | decide | omega) (by first | assumption | exact CL0_0 (by assumption) | exact CL0_1 (by assumption) | exact CL0_3 (by assumption) | exact CL0_4 (by assumption) | exact CL0_5 (by assumption) | exact CL0_6 (by assumption) | exact CL0_7 (by assumption) | exact CL0_8 (by assumption) | exact CL0_9 (by assumption) | exact CL0_10 (by assumption) | exact CL0_11 (by assumption) | exact CL0_12 (by assumption) | exact CL0_13 (by assumption) | exact CL1_2 (by assumption) | exact CL1_3 (by assumption) | exact CL80_2 (by assumption) | exact CL_slot (by assumption) (by omega) | exact (CL_sh (by assumption) (by omega)).1 | exact (CL_sh (by assumption) (by omega)).2.1 | rfl) ?_
          refine V_aloadn0 dX9_way_24 ?_
          refine V_getR dX9_way_25 fX9_10 (by first | assumption | rfl | exact lay_s0 (by omega) | exact lay_s1 (by omega) | exact lay_s2 (by omega) | exact lay_h0 (by omega) | exact lay_h1 (by omega)) (by first | decide | omega) (by first | assumption | exact CL0_0 (by assumption) | exact CL0_1 (by assumption) | exact CL0_3 (by assumption) | exact CL0_4 (by assumption) | exact CL0_5 (by assumption) | exact CL0_6 (by assumption) | exact CL0_7 (by assumption) | exact CL0_8 (by assumption) | exact CL0_9 (by assumption) | exact CL0_10 (by assumption) | exact CL0_11 (by assumption) | exact CL0_12 (by assumption) | exact CL0_13 (by assumption) | exact CL1_2 (by assumption) | exact CL1_3 (by assumption) | exact CL80_2 (by assumption) | exact CL_slot (by assumption) (by omega) | exact (CL_sh (by assumption) (by omega)).1 | exact (CL_sh (by assumption) (by omega)).2.1 | rfl) ?_
          refine V_getR dX9_way_28 fX9_99 (by first | assumption | rfl | exact lay_s0 (by omega) | exact lay_s1 (by omega) | exact lay_s2 (by omega) | exact lay_h0 (by omega) | exact lay_h1 (by omega)) (by first | decide | omega) (by first | assumption | exact CL0_0 (by assumption) | exact CL0_1 (by assumption) | exact CL0_3 (by assumption) | exact CL0_4 (by assumption) | exact CL0_5 (by assumption) | exact CL0_6 (by assumption) | exact CL0_7 (by assumption) | exact CL0_8 (by assumption) | exact CL0_9 (by assumption) | exact CL0_10 (by assumption) | exact CL0_11 (by assumption) | exact CL0_12 (by assumption) | exact CL0_13 (by assumption) | exact CL1_2 (by assumption) | exact CL1_3 (by assumption) | exact CL80_2 (by assumption) | exact CL_slot (by assumption) (by omega) | exact (CL_sh (by assumption) (by omega)).1 | exact (CL_sh (by assumption) (by omega)).2.1 | rfl) ?_
          refine V_iloadn1 dX9_way_31 ?_
          refine U_aald dX9_way_32 (by with_reducible rfl) (by first | assumption | rfl | exact lay_s0 (by omega) | exact lay_s1 (by omega) | exact lay_s2 (by omega) | exact lay_h0 (by omega) | exact lay_h1 (by omega)) (by decide) (by first | decide | omega) (by omega) (by first | assumption | exact CL0_0 (by assumption) | exact CL0_1 (by assumption) | exact CL0_3 (by assumption) | exact CL0_4 (by assumption) | exact CL0_5 (by assumption) | exact CL0_6 (by assumption) | exact CL0_7 (by assumption) | exact CL0_8 (by assumption) | exact CL0_9 (by assumption) | exact CL0_10 (by assumption) | exact CL0_11 (by assumption) | exact CL0_12 (by assumption) | exact CL0_13 (by assumption) | exact CL1_2 (by assumption) | exact CL1_3 (by assumption) | exact CL80_2 (by assumption) | exact CL_slot (by assumption) (by omega) | exact (CL_sh (by assumption) (by omega)).1 | exact (CL_sh (by assumption) (by omega)).2.1 | rfl) ?_
          refine V_callV1 (μ' := mX8_becomeLike) dX9_way_33 okX8_becomeLike lX9_103 rfl (by first | assumption | rfl | exact lay_s0 (by omega) | exact lay_s1 (by omega) | exact lay_s2 (by omega) | exact lay_h0 (by omega) | exact lay_h1 (by omega)) (by first | decide | omega) (Nat.le_of_ble_eq_true rfl) (Nat.le_of_ble_eq_true rfl) (by omega) ?_
          refine c_becomeLike (by omega) (CL_80 hC) (CL_T hC hs) hT (by omega) (fun h1 hT1 hF1 => ?_)
          have hC1 := CLay_eq hC hF1.2.2
          have n1 : gI h1 1 0 = nI S.1.1 := by rw [hF1.1 1 (by omega)]; exact n0
          dsimp only [gPush]
          refine V_aloadn0 dX9_way_36 ?_
          refine V_getR dX9_way_37 fX9_35 (by first | assumption | rfl | exact lay_s0 (by omega) | exact lay_s1 (by omega) | exact lay_s2 (by omega) | exact lay_h0 (by omega) | exact lay_h1 (by omega)) (by first | decide | omega) (by first | assumption | exact CL0_0 (by assumption) | exact CL0_1 (by assumption) | exact CL0_3 (by assumption) | exact CL0_4 (by assumption) | exact CL0_5 (by assumption) | exact CL0_6 (by assumption) | exact CL0_7 (by assumption) | exact CL0_8 (by assumption) | exact CL0_9 (by assumption) | exact CL0_10 (by assumption) | exact CL0_11 (by assumption) | exact CL0_12 (by assumption) | exact CL0_13 (by assumption) | exact CL1_2 (by assumption) | exact CL1_3 (by assumption) | exact CL80_2 (by assumption) | exact CL_slot (by assumption) (by omega) | exact (CL_sh (by assumption) (by omega)).1 | exact (CL_sh (by assumption) (by omega)).2.1 | rfl) ?_
          refine V_aloadn0 dX9_way_40 ?_
          refine V_getR dX9_way_41 fX9_76 (by first | assumption | rfl | exact lay_s0 (by omega) | exact lay_s1 (by omega) | exact lay_s2 (by omega) | exact lay_h0 (by omega) | exact lay_h1 (by omega)) (by first | decide | omega) (by first | assumption | exact CL0_0 (by assumption) | exact CL0_1 (by assumption) | exact CL0_3 (by assumption) | exact CL0_4 (by assumption) | exact CL0_5 (by assumption) | exact CL0_6 (by assumption) | exact CL0_7 (by assumption) | exact CL0_8 (by assumption) | exact CL0_9 (by assumption) | exact CL0_10 (by assumption) | exact CL0_11 (by assumption) | exact CL0_12 (by assumption) | exact CL0_13 (by assumption) | exact CL1_2 (by assumption) | exact CL1_3 (by assumption) | exact CL80_2 (by assumption) | exact CL_slot (by assumption) (by omega) | exact (CL_sh (by assumption) (by omega)).1 | exact (CL_sh (by assumption) (by omega)).2.1 | rfl) ?_
          refine V_aloadn0 dX9_way_44 ?_
          refine V_getR dX9_way_45 fX9_10 (by first | assumption | rfl | exact lay_s0 (by omega) | exact lay_s1 (by omega) | exact lay_s2 (by omega) | exact lay_h0 (by omega) | exact lay_h1 (by omega)) (by first | decide | omega) (by first | assumption | exact CL0_0 (by assumption) | exact CL0_1 (by assumption) | exact CL0_3 (by assumption) | exact CL0_4 (by assumption) | exact CL0_5 (by assumption) | exact CL0_6 (by assumption) | exact CL0_7 (by assumption) | exact CL0_8 (by assumption) | exact CL0_9 (by assumption) | exact CL0_10 (by assumption) | exact CL0_11 (by assumption) | exact CL0_12 (by assumption) | exact CL0_13 (by assumption) | exact CL1_2 (by assumption) | exact CL1_3 (by assumption) | exact CL80_2 (by assumption) | exact CL_slot (by assumption) (by omega) | exact (CL_sh (by assumption) (by omega)).1 | exact (CL_sh (by assumption) (by omega)).2.1 | rfl) ?_
          refine V_getI dX9_way_48 fX9_84 (Or.inl rfl) (by first | assumption | rfl | exact lay_s0 (by omega) | exact lay_s1 (by omega) | exact lay_s2 (by omega) | exact lay_h0 (by omega) | exact lay_h1 (by omega)) (by first | decide | omega) (by first | assumption | exact CL0_0 (by assumption) | exact CL0_1 (by assumption) | exact CL0_3 (by assumption) | exact CL0_4 (by assumption) | exact CL0_5 (by assumption) | exact CL0_6 (by assumption) | exact CL0_7 (by assumption) | exact CL0_8 (by assumption) | exact CL0_9 (by assumption) | exact CL0_10 (by assumption) | exact CL0_11 (by assumption) | exact CL0_12 (by assumption) | exact CL0_13 (by assumption) | exact CL1_2 (by assumption) | exact CL1_3 (by assumption) | exact CL80_2 (by assumption) | exact CL_slot (by assumption) (by omega) | exact (CL_sh (by assumption) (by omega)).1 | exact (CL_sh (by assumption) (by omega)).2.1 | rfl) ?_
          refine V_callV2 (μ' := mX3_raiseToHighest) dX9_way_51 okX3_raiseToHighest lX9_186 rfl (by first | assumption | rfl | exact lay_s0 (by omega) | exact lay_s1 (by omega) | exact lay_s2 (by omega) | exact lay_h0 (by omega) | exact lay_h1 (by omega)) (by first | decide | omega) (Nat.le_of_ble_eq_true rfl) (Nat.le_of_ble_eq_true rfl) (by omega) ?_
          refine c_raiseToHighest (by omega) (CL_80 hC1) hT1 (by omega) hn5 (by omega) (fun h2 hT2 hF2 => ?_)
          have hC2 := CLay_eq hC1 hF2.2.2
          have n2 : gI h2 1 0 = nI S.1.1 := by rw [hF2.1 1 (by omega) (by omega)]; exact n1
          dsimp only [gPush]
          refine V_popi dX9_way_54 ?_
          refine V_aloadn0 dX9_way_55 ?_
          refine V_getR dX9_way_56 fX9_35 (by first | assumption | rfl | exact lay_s0 (by omega) | exact lay_s1 (by omega) | exact lay_s2 (by omega) | exact lay_h0 (by omega) | exact lay_h1 (by omega)) (by first | decide | omega) (by first | assumption | exact CL0_0 (by assumption) | exact CL0_1 (by assumption) | exact CL0_3 (by assumption) | exact CL0_4 (by assumption) | exact CL0_5 (by assumption) | exact CL0_6 (by assumption) | exact CL0_7 (by assumption) | exact CL0_8 (by assumption) | exact CL0_9 (by assumption) | exact CL0_10 (by assumption) | exact CL0_11 (by assumption) | exact CL0_12 (by assumption) | exact CL0_13 (by assumption) | exact CL1_2 (by assumption) | exact CL1_3 (by assumption) | exact CL80_2 (by assumption) | exact CL_slot (by assumption) (by omega) | exact (CL_sh (by assumption) (by omega)).1 | exact (CL_sh (by assumption) (by omega)).2.1 | rfl) ?_
          refine V_aloadn0 dX9_way_59 ?_
          refine V_getR dX9_way_60 fX9_76 (by first | assumption | rfl | exact lay_s0 (by omega) | exact lay_s1 (by omega) | exact lay_s2 (by omega) | exact lay_h0 (by omega) | exact lay_h1 (by omega)) (by first | decide | omega) (by first | assumption | exact CL0_0 (by assumption) | exact CL0_1 (by assumption) | exact CL0_3 (by assumption) | exact CL0_4 (by assumption) | exact CL0_5 (by assumption) | exact CL0_6 (by assumption) | exact CL0_7 (by assumption) | exact CL0_8 (by assumption) | exact CL0_9 (by assumption) | exact CL0_10 (by assumption) | exact CL0_11 (by assumption) | exact CL0_12 (by assumption) | exact CL0_13 (by assumption) | exact CL1_2 (by assumption) | exact CL1_3 (by assumption) | exact CL80_2 (by assumption) | exact CL_slot (by assumption) (by omega) | exact (CL_sh (by assumption) (by omega)).1 | exact (CL_sh (by assumption) (by omega)).2.1 | rfl) ?_
          refine V_aloadn0 dX9_way_63 ?_
          refine V_getR dX9_way_64 fX9_10 (by first | assumption | rfl | exact lay_s0 (by omega) | exact lay_s1 (by omega) | exact lay_s2 (by omega) | exact lay_h0 (by omega) | exact lay_h1 (by omega)) (by first | decide | omega) (by first | assumption | exact CL0_0 (by assumption) | exact CL0_1 (by assumption) | exact CL0_3 (by assumption) | exact CL0_4 (by assumption) | exact CL0_5 (by assumption) | exact CL0_6 (by assumption) | exact CL0_7 (by assumption) | exact CL0_8 (by assumption) | exact CL0_9 (by assumption) | exact CL0_10 (by assumption) | exact CL0_11 (by assumption) | exact CL0_12 (by assumption) | exact CL0_13 (by assumption) | exact CL1_2 (by assumption) | exact CL1_3 (by assumption) | exact CL80_2 (by assumption) | exact CL_slot (by assumption) (by omega) | exact (CL_sh (by assumption) (by omega)).1 | exact (CL_sh (by assumption) (by omega)).2.1 | rfl) ?_
          refine V_getI dX9_way_67 fX9_84 (Or.inl rfl) (by first | assumption | rfl | exact lay_s0 (by omega) | exact lay_s1 (by omega) | exact lay_s2 (by omega) | exact lay_h0 (by omega) | exact lay_h1 (by omega)) (by first | decide | omega) (by first | assumption | exact CL0_0 (by assumption) | exact CL0_1 (by assumption) | exact CL0_3 (by assumption) | exact CL0_4 (by assumption) | exact CL0_5 (by assumption) | exact CL0_6 (by assumption) | exact CL0_7 (by assumption) | exact CL0_8 (by assumption) | exact CL0_9 (by assumption) | exact CL0_10 (by assumption) | exact CL0_11 (by assumption) | exact CL0_12 (by assumption) | exact CL0_13 (by assumption) | exact CL1_2 (by assumption) | exact CL1_3 (by assumption) | exact CL80_2 (by assumption) | exact CL_slot (by assumption) (by omega) | exact (CL_sh (by assumption) (by omega)).1 | exact (CL_sh (by assumption) (by omega)).2.1 | rfl) ?_
          refine V_callV2 (μ' := mX3_lowerToLowest) dX9_way_70 okX3_lowerToLowest lX9_204 rfl (by first | assumption | rfl | exact lay_s0 (by omega) | exact lay_s1 (by omega) | exact lay_s2 (by omega) | exact lay_h0 (by omega) | exact lay_h1 (by omega)) (by first | decide | omega) (Nat.le_of_ble_eq_true rfl) (Nat.le_of_ble_eq_true rfl) (by omega) ?_
          refine c_lowerToLowest (by omega) (CL_80 hC2) hT2 (by omega) hn5 (by omega) (fun h3 hT3 hF3 => ?_)
          have hQ' := hQ h3 (RC_S hR ⟨fun a ha => by rw [hF3.1 a (by omega) (by omega), hF2.1 a (by omega) (by omega), hF1.1 a (by omega)], by rw [hF3.1 43 (by omega) (by omega), hF2.1 43 (by omega) (by omega), hF1.1 43 (by omega)], fun a ha => by rw [hF3.2.1, hF2.2.1, hF1.2.1], CLay_eq hC2 hF3.2.2⟩) ((hF1.toC (by omega)).tr ((hF2.toC (by omega)).tr (hF3.toC (by omega))))
          dsimp only [gPush]
          refine V_iret dX9_way_73 rfl rfl ?_
          exact hQ'
        · skip
          exact absurd (of_decide_eq_false c14) (fun q => q hz)
      · skip
        cases c4

set_option maxRecDepth 100000 in
set_option maxHeartbeats 4000000 in
theorem c_stands {x : Int32} (hd : 5 ≤ d) (hR : RC h S) (hQ : ∀ h', RC h' S → FrC h h' → Q (some (.int (g_stands S x))) h') : V Γ mX9_stands d 124 124 h 0 [some (.ref 0), some (.int x)] [] Q := by
  obtain ⟨hC, hW, hA, hK, hK2, hB, hSh, hFm⟩ := id hR
  have n0 := hA.1
  have hn2 := hW.1.1
  have hn5 := hW.1.2.1
  cases hg : inB x 6 with
  | false =>
    have hQ9 := hQ h hR FrC.rf
    have eq0 : g_stands S x = -1 := if_f hg
    rw [eq0] at hQ9
    refine V_iloadn1 dX9_stands_0 ?_
    refine V_callS1 (μ' := mX9_isSlot) dX9_stands_1 okX9_isSlot lX9_91 (Nat.le_of_ble_eq_true rfl) (Nat.le_of_ble_eq_true rfl) (by omega) ?_
    refine c_isSlot ?_
    rw [hg]
    dsimp only [gPush]
    first | refine U_ifB_ne (tgt := 9) dX9_stands_4 (by decide) (by with_reducible rfl) (fun c4 => ?_) (fun c4 => ?_) | refine U_if_ne (tgt := 9) dX9_stands_4 (by decide) (by with_reducible rfl) (by omega) (fun c4 => ?_) (fun c4 => ?_) | refine V_if_ne (tgt := 9) dX9_stands_4 (by decide) (fun c4 => ?_) (fun c4 => ?_)
    · skip
      cases c4
    · skip
      refine V_iconst (v := -1) dX9_stands_7 (by decide) ?_
      refine V_iret dX9_stands_8 rfl rfl ?_
      exact hQ9
  | true =>
    obtain ⟨s, hs, rfl⟩ := inB_t (by decide) hg
    obtain ⟨hT, hWT⟩ := RC_slot hR hs
    obtain ⟨t0, t1, t3, -⟩ := id hT
    have kd1 := hWT.1
    have eS : tS S (nI s) = S.1.2.2.1 s := by unfold tS; rw [cN_nI (by omega)]
    have eq0 : g_stands S (nI s) = _ := if_t hg
    rw [eq0, eS] at hQ
    by_cases hz : (S.1.2.2.1 s).1 = 0
    · rw [if_pos hz] at hQ
      refine V_iloadn1 dX9_stands_0 ?_
      refine V_callS1 (μ' := mX9_isSlot) dX9_stands_1 okX9_isSlot lX9_91 (Nat.le_of_ble_eq_true rfl) (Nat.le_of_ble_eq_true rfl) (by omega) ?_
      refine c_isSlot ?_
      rw [hg]
      dsimp only [gPush]
      first | refine U_ifB_ne (tgt := 9) dX9_stands_4 (by decide) (by with_reducible rfl) (fun c4 => ?_) (fun c4 => ?_) | refine U_if_ne (tgt := 9) dX9_stands_4 (by decide) (by with_reducible rfl) (by omega) (fun c4 => ?_) (fun c4 => ?_) | refine V_if_ne (tgt := 9) dX9_stands_4 (by decide) (fun c4 => ?_) (fun c4 => ?_)
      · skip
        refine V_aloadn0 dX9_stands_9 ?_
        refine V_iloadn1 dX9_stands_10 ?_
        refine V_callV1 (μ' := mX9_isHeld) dX9_stands_11 okX9_isHeld lX9_130 rfl (by first | assumption | rfl | exact lay_s0 (by omega) | exact lay_s1 (by omega) | exact lay_s2 (by omega) | exact lay_h0 (by omega) | exact lay_h1 (by omega)) (by first | decide | omega) (Nat.le_of_ble_eq_true rfl) (Nat.le_of_ble_eq_true rfl) (by omega) ?_
        refine c_isHeld hs (CL0_0 hC) (CL1_2 hC) (CL_slot hC hs) (lay_s0 hs) hT.1 hWT.1 ?_
        dsimp only [gPush]
        first | refine U_ifB_ne (tgt := 20) dX9_stands_14 (by decide) (by with_reducible rfl) (fun c14 => ?_) (fun c14 => ?_) | refine U_if_ne (tgt := 20) dX9_stands_14 (by decide) (by with_reducible rfl) (by omega) (fun c14 => ?_) (fun c14 => ?_) | refine V_if_ne (tgt := 20) dX9_stands_14 (by decide) (fun c14 => ?_) (fun c14 => ?_)
        · skip
          exact absurd (of_decide_eq_true c14) (fun q => q hz)
        · skip
          refine V_bipush (v := -11) dX9_stands_17 (by decide) ?_
          refine V_iret dX9_stands_19 rfl rfl ?_
          exact hQ h hR FrC.rf
      · skip
        cases c4
    · rw [if_neg hz] at hQ
      have hwl := hWT.2.1
      have hlt := hWT.2.2.1
      refine V_iloadn1 dX9_stands_0 ?_
      refine V_callS1 (μ' := mX9_isSlot) dX9_stands_1 okX9_isSlot lX9_91 (Nat.le_of_ble_eq_true rfl) (Nat.le_of_ble_eq_true rfl) (by omega) ?_
      refine c_isSlot ?_
      rw [hg]
      dsimp only [gPush]
      first | refine U_ifB_ne (tgt := 9) dX9_stands_4 (by decide) (by with_reducible rfl) (fun c4 => ?_) (fun c4 => ?_) | refine U_if_ne (tgt := 9) dX9_stands_4 (by decide) (by with_reducible rfl) (by omega) (fun c4 => ?_) (fun c4 => ?_) | refine V_if_ne (tgt := 9) dX9_stands_4 (by decide) (fun c4 => ?_) (fun c4 => ?_)
      · skip
        refine V_aloadn0 dX9_stands_9 ?_
        refine V_iloadn1 dX9_stands_10 ?_
        refine V_callV1 (μ' := mX9_isHeld) dX9_stands_11 okX9_isHeld lX9_130 rfl (by first | assumption | rfl | exact lay_s0 (by omega) | exact lay_s1 (by omega) | exact lay_s2 (by omega) | exact lay_h0 (by omega) | exact lay_h1 (by omega)) (by first | decide | omega) (Nat.le_of_ble_eq_true rfl) (Nat.le_of_ble_eq_true rfl) (by omega) ?_
        refine c_isHeld hs (CL0_0 hC) (CL1_2 hC) (CL_slot hC hs) (lay_s0 hs) hT.1 hWT.1 ?_
        dsimp only [gPush]
        first | refine U_ifB_ne (tgt := 20) dX9_stands_14 (by decide) (by with_reducible rfl) (fun c14 => ?_) (fun c14 => ?_) | refine U_if_ne (tgt := 20) dX9_stands_14 (by decide) (by with_reducible rfl) (by omega) (fun c14 => ?_) (fun c14 => ?_) | refine V_if_ne (tgt := 20) dX9_stands_14 (by decide) (fun c14 => ?_) (fun c14 => ?_)
        · skip
          refine V_aloadn0 dX9_stands_20 ?_
          refine V_getR dX9_stands_21 fX9_49 (by first | assumption | rfl | exact lay_s0 (by omega) | exact lay_s1 (by omega) | exact lay_s2 (by omega) | exact lay_h0 (by omega) | exact lay_h1 (by omega)) (by first | decide | omega) (by first | assumption | exact CL0_0 (by assumption) | exact CL0_1 (by assumption) | exact CL0_3 (by assumption) | exact CL0_4 (by assumption) | exact CL0_5 (by assumption) | exact CL0_6 (by assumption) | exact CL0_7 (by assumption) | exact CL0_8 (by assumption) | exact CL0_9 (by assumption) | exact CL0_10 (by assumption) | exact CL0_11 (by assumption) | exact CL0_12 (by assumption) | exact CL0_13 (by assumption) | exact CL1_2 (by assumption) | exact CL1_3 (by assumption) | exact CL80_2 (by assumption) | exact CL_slot (by assumption) (by omega) | exact (CL_sh (by assumption) (by omega)).1 | exact (CL_sh (by assumption) (by omega)).2.1 | rfl) ?_
          refine V_aloadn0 dX9_stands_24 ?_
          refine V_getR dX9_stands_25 fX9_10 (by first | assumption | rfl | exact lay_s0 (by omega) | exact lay_s1 (by omega) | exact lay_s2 (by omega) | exact lay_h0 (by omega) | exact lay_h1 (by omega)) (by first | decide | omega) (by first | assumption | exact CL0_0 (by assumption) | exact CL0_1 (by assumption) | exact CL0_3 (by assumption) | exact CL0_4 (by assumption) | exact CL0_5 (by assumption) | exact CL0_6 (by assumption) | exact CL0_7 (by assumption) | exact CL0_8 (by assumption) | exact CL0_9 (by assumption) | exact CL0_10 (by assumption) | exact CL0_11 (by assumption) | exact CL0_12 (by assumption) | exact CL0_13 (by assumption) | exact CL1_2 (by assumption) | exact CL1_3 (by assumption) | exact CL80_2 (by assumption) | exact CL_slot (by assumption) (by omega) | exact (CL_sh (by assumption) (by omega)).1 | exact (CL_sh (by assumption) (by omega)).2.1 | rfl) ?_
          refine V_getR dX9_stands_28 fX9_99 (by first | assumption | rfl | exact lay_s0 (by omega) | exact lay_s1 (by omega) | exact lay_s2 (by omega) | exact lay_h0 (by omega) | exact lay_h1 (by omega)) (by first | decide | omega) (by first | assumption | exact CL0_0 (by assumption) | exact CL0_1 (by assumption) | exact CL0_3 (by assumption) | exact CL0_4 (by assumption) | exact CL0_5 (by assumption) | exact CL0_6 (by assumption) | exact CL0_7 (by assumption) | exact CL0_8 (by assumption) | exact CL0_9 (by assumption) | exact CL0_10 (by assumption) | exact CL0_11 (by assumption) | exact CL0_12 (by assumption) | exact CL0_13 (by assumption) | exact CL1_2 (by assumption) | exact CL1_3 (by assumption) | exact CL80_2 (by assumption) | exact CL_slot (by assumption) (by omega) | exact (CL_sh (by assumption) (by omega)).1 | exact (CL_sh (by assumption) (by omega)).2.1 | rfl) ?_
          refine V_iloadn1 dX9_stands_31 ?_
          refine U_aald dX9_stands_32 (by with_reducible rfl) (by first | assumption | rfl | exact lay_s0 (by omega) | exact lay_s1 (by omega) | exact lay_s2 (by omega) | exact lay_h0 (by omega) | exact lay_h1 (by omega)) (by decide) (by first | decide | omega) (by omega) (by first | assumption | exact CL0_0 (by assumption) | exact CL0_1 (by assumption) | exact CL0_3 (by assumption) | exact CL0_4 (by assumption) | exact CL0_5 (by assumption) | exact CL0_6 (by assumption) | exact CL0_7 (by assumption) | exact CL0_8 (by assumption) | exact CL0_9 (by assumption) | exact CL0_10 (by assumption) | exact CL0_11 (by assumption) | exact CL0_12 (by assumption) | exact CL0_13 (by assumption) | exact CL1_2 (by assumption) | exact CL1_3 (by assumption) | exact CL80_2 (by assumption) | exact CL_slot (by assumption) (by omega) | exact (CL_sh (by assumption) (by omega)).1 | exact (CL_sh (by assumption) (by omega)).2.1 | rfl) ?_
          refine V_aloadn0 dX9_stands_33 ?_
          refine V_getR dX9_stands_34 fX9_10 (by first | assumption | rfl | exact lay_s0 (by omega) | exact lay_s1 (by omega) | exact lay_s2 (by omega) | exact lay_h0 (by omega) | exact lay_h1 (by omega)) (by first | decide | omega) (by first | assumption | exact CL0_0 (by assumption) | exact CL0_1 (by assumption) | exact CL0_3 (by assumption) | exact CL0_4 (by assumption) | exact CL0_5 (by assumption) | exact CL0_6 (by assumption) | exact CL0_7 (by assumption) | exact CL0_8 (by assumption) | exact CL0_9 (by assumption) | exact CL0_10 (by assumption) | exact CL0_11 (by assumption) | exact CL0_12 (by assumption) | exact CL0_13 (by assumption) | exact CL1_2 (by assumption) | exact CL1_3 (by assumption) | exact CL80_2 (by assumption) | exact CL_slot (by assumption) (by omega) | exact (CL_sh (by assumption) (by omega)).1 | exact (CL_sh (by assumption) (by omega)).2.1 | rfl) ?_
          refine V_getI dX9_stands_37 fX9_84 (Or.inl rfl) (by first | assumption | rfl | exact lay_s0 (by omega) | exact lay_s1 (by omega) | exact lay_s2 (by omega) | exact lay_h0 (by omega) | exact lay_h1 (by omega)) (by first | decide | omega) (by first | assumption | exact CL0_0 (by assumption) | exact CL0_1 (by assumption) | exact CL0_3 (by assumption) | exact CL0_4 (by assumption) | exact CL0_5 (by assumption) | exact CL0_6 (by assumption) | exact CL0_7 (by assumption) | exact CL0_8 (by assumption) | exact CL0_9 (by assumption) | exact CL0_10 (by assumption) | exact CL0_11 (by assumption) | exact CL0_12 (by assumption) | exact CL0_13 (by assumption) | exact CL1_2 (by assumption) | exact CL1_3 (by assumption) | exact CL80_2 (by assumption) | exact CL_slot (by assumption) (by omega) | exact (CL_sh (by assumption) (by omega)).1 | exact (CL_sh (by assumption) (by omega)).2.1 | rfl) ?_
          refine V_aloadn0 dX9_stands_40 ?_
          refine V_getR dX9_stands_41 fX9_35 (by first | assumption | rfl | exact lay_s0 (by omega) | exact lay_s1 (by omega) | exact lay_s2 (by omega) | exact lay_h0 (by omega) | exact lay_h1 (by omega)) (by first | decide | omega) (by first | assumption | exact CL0_0 (by assumption) | exact CL0_1 (by assumption) | exact CL0_3 (by assumption) | exact CL0_4 (by assumption) | exact CL0_5 (by assumption) | exact CL0_6 (by assumption) | exact CL0_7 (by assumption) | exact CL0_8 (by assumption) | exact CL0_9 (by assumption) | exact CL0_10 (by assumption) | exact CL0_11 (by assumption) | exact CL0_12 (by assumption) | exact CL0_13 (by assumption) | exact CL1_2 (by assumption) | exact CL1_3 (by assumption) | exact CL80_2 (by assumption) | exact CL_slot (by assumption) (by omega) | exact (CL_sh (by assumption) (by omega)).1 | exact (CL_sh (by assumption) (by omega)).2.1 | rfl) ?_
          refine V_callV3 (μ' := mX0_gather) dX9_stands_44 okX0_gather lX9_190 rfl (by first | assumption | rfl | exact lay_s0 (by omega) | exact lay_s1 (by omega) | exact lay_s2 (by omega) | exact lay_h0 (by omega) | exact lay_h1 (by omega)) (by first | decide | omega) (Nat.le_of_ble_eq_true rfl) (Nat.le_of_ble_eq_true rfl) (by omega) ?_
          refine c_gather (by omega) hn2 hn5 (CL_Fm hC) (CL_T hC hs) hT hlt (by omega) hFm (fun h1 hO1 hF1 => ?_)
          have hC1 := CLay_eq hC hF1.2.2
          have hR1 := RC_F hR hC1 hF1 ⟨S.1.1, (S.1.2.2.1 s).2.1, hn5, hwl, hO1⟩
          dsimp only [gPush]
          refine V_aloadn0 dX9_stands_47 ?_
          refine V_getR dX9_stands_48 fX9_49 (by first | assumption | rfl | exact lay_s0 (by omega) | exact lay_s1 (by omega) | exact lay_s2 (by omega) | exact lay_h0 (by omega) | exact lay_h1 (by omega)) (by first | decide | omega) (by first | assumption | exact CL0_0 (by assumption) | exact CL0_1 (by assumption) | exact CL0_3 (by assumption) | exact CL0_4 (by assumption) | exact CL0_5 (by assumption) | exact CL0_6 (by assumption) | exact CL0_7 (by assumption) | exact CL0_8 (by assumption) | exact CL0_9 (by assumption) | exact CL0_10 (by assumption) | exact CL0_11 (by assumption) | exact CL0_12 (by assumption) | exact CL0_13 (by assumption) | exact CL1_2 (by assumption) | exact CL1_3 (by assumption) | exact CL80_2 (by assumption) | exact CL_slot (by assumption) (by omega) | exact (CL_sh (by assumption) (by omega)).1 | exact (CL_sh (by assumption) (by omega)).2.1 | rfl) ?_
          refine V_aloadn0 dX9_stands_51 ?_
          refine V_getR dX9_stands_52 fX9_10 (by first | assumption | rfl | exact lay_s0 (by omega) | exact lay_s1 (by omega) | exact lay_s2 (by omega) | exact lay_h0 (by omega) | exact lay_h1 (by omega)) (by first | decide | omega) (by first | assumption | exact CL0_0 (by assumption) | exact CL0_1 (by assumption) | exact CL0_3 (by assumption) | exact CL0_4 (by assumption) | exact CL0_5 (by assumption) | exact CL0_6 (by assumption) | exact CL0_7 (by assumption) | exact CL0_8 (by assumption) | exact CL0_9 (by assumption) | exact CL0_10 (by assumption) | exact CL0_11 (by assumption) | exact CL0_12 (by assumption) | exact CL0_13 (by assumption) | exact CL1_2 (by assumption) | exact CL1_3 (by assumption) | exact CL80_2 (by assumption) | exact CL_slot (by assumption) (by omega) | exact (CL_sh (by assumption) (by omega)).1 | exact (CL_sh (by assumption) (by omega)).2.1 | rfl) ?_
          refine V_getR dX9_stands_55 fX9_99 (by first | assumption | rfl | exact lay_s0 (by omega) | exact lay_s1 (by omega) | exact lay_s2 (by omega) | exact lay_h0 (by omega) | exact lay_h1 (by omega)) (by first | decide | omega) (by first | assumption | exact CL0_0 (by assumption) | exact CL0_1 (by assumption) | exact CL0_3 (by assumption) | exact CL0_4 (by assumption) | exact CL0_5 (by assumption) | exact CL0_6 (by assumption) | exact CL0_7 (by assumption) | exact CL0_8 (by assumption) | exact CL0_9 (by assumption) | exact CL0_10 (by assumption) | exact CL0_11 (by assumption) | exact CL0_12 (by assumption) | exact CL0_13 (by assumption) | exact CL1_2 (by assumption) | exact CL1_3 (by assumption) | exact CL80_2 (by assumption) | exact CL_slot (by assumption) (by omega) | exact (CL_sh (by assumption) (by omega)).1 | exact (CL_sh (by assumption) (by omega)).2.1 | rfl) ?_
          refine V_iloadn1 dX9_stands_58 ?_
          refine U_aald dX9_stands_59 (by with_reducible rfl) (by first | assumption | rfl | exact lay_s0 (by omega) | exact lay_s1 (by omega) | exact lay_s2 (by omega) | exact lay_h0 (by omega) | exact lay_h1 (by omega)) (by decide) (by first | decide | omega) (by omega) (by first | assumption | exact CL0_0 (by assumption) | exact CL0_1 (by assumption) | exact CL0_3 (by assumption) | exact CL0_4 (by assumption) | exact CL0_5 (by assumption) | exact CL0_6 (by assumption) | exact CL0_7 (by assumption) | exact CL0_8 (by assumption) | exact CL0_9 (by assumption) | exact CL0_10 (by assumption) | exact CL0_11 (by assumption) | exact CL0_12 (by assumption) | exact CL0_13 (by assumption) | exact CL1_2 (by assumption) | exact CL1_3 (by assumption) | exact CL80_2 (by assumption) | exact CL_slot (by assumption) (by omega) | exact (CL_sh (by assumption) (by omega)).1 | exact (CL_sh (by assumption) (by omega)).2.1 | rfl) ?_
          refine V_callV1 (μ' := mX0_placeOf) dX9_stands_60 okX0_placeOf lX9_200 rfl (by first | assumption | rfl | exact lay_s0 (by omega) | exact lay_s1 (by omega) | exact lay_s2 (by omega) | exact lay_h0 (by omega) | exact lay_h1 (by omega)) (by first | decide | omega) (Nat.le_of_ble_eq_true rfl) (Nat.le_of_ble_eq_true rfl) (by omega) ?_
          refine c_placeOf (by omega) hn2 hn5 (CL_Fm hC1) (CL_T hC1 hs) (RC_slot hR1 hs).1 hlt hO1 ?_
          dsimp only [gPush]
          refine V_iret dX9_stands_63 rfl rfl ?_
          exact hQ h1 hR1 hF1.toC
        · skip
          exact absurd (of_decide_eq_false c14) (fun q => q hz)
      · skip
        cases c4

end C45
