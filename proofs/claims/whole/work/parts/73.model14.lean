/-! ===== the reference: the tape, a tableau told ===== -/
def hrV (B : List Nat) (a : Nat) : Int32 := if skp B a < B.length then nI (B.getD (skp B a) 0) else -1
def FrH (h h' : gH) : Prop := (∀ x b, ¬ (x = 94 ∧ b = 22) → gI h' x b = gI h x b) ∧ gL h' = gL h ∧ gR h' = gR h
theorem FrH.rf {h : gH} : FrH h h := ⟨fun _ _ _ => rfl, rfl, rfl⟩
theorem FrH.tr {h h' h'' : gH} (a : FrH h h') (b : FrH h' h'') : FrH h h'' := ⟨fun x y z => (b.1 x y z).trans (a.1 x y z), b.2.1.trans a.2.1, b.2.2.trans a.2.2⟩
theorem FrH.c {h h' : gH} (a : FrH h h') {x : Nat} (hx : x ≠ 94) : gI h' x = gI h x := funext (fun b => a.1 x b (by omega))
theorem FrH.X {h h' : gH} (a : FrH h h') : FrX h h' := ⟨fun q hq => a.c (by omega), fun k hk => a.1 94 k (by omega), fun q _ => by rw [a.2.1], a.2.2⟩
theorem MB_H {h h' : gH} {B : List Nat} (hB : MB h B) (a : FrH h h') : MB h' B := MB_cg hB (a.1 94 21 (by omega)) (a.c (by omega))
theorem frh_sI {h h' : gH} {v : Int32} (f : FrH h h') : FrH h (sI h' 94 22 v) := ⟨fun x b hb => by rw [gI_sI, if_neg hb]; exact f.1 x b hb, f.2.1, f.2.2⟩
theorem dig_in : ∀ b, b < 256 → ∀ n, n < 6 → inR (nI b - nI 48) 1 n = decide (49 ≤ b ∧ b ≤ 48 + n) := by decide +kernel
theorem end_in : ∀ n, n < 6 → inR (-1 - nI 48) 1 n = false := by decide
def msB (P : List (List Nat)) (r y : Nat) : Bool := decide ((P.getD r []).length < 6) && ((decide ((P.getD r []).length = 0) || decide ((P.getD r []).getD ((P.getD r []).length - 1) 0 ≤ y)) && (decide (r = 0) || (decide ((P.getD r []).length < (P.getD (r - 1) []).length) && decide ((P.getD (r - 1) []).getD (P.getD r []).length 0 < y))))
theorem ms_tk {P : List (List Nat)} {r y : Nat} (hr : r < 6) (hs : szL P < 6) : tkB P r y = msB P r y := by
  unfold tkB msB
  have := row_le_sz P r
  rw [decide_eq_true (show szL P < 6 ∧ r < 6 from ⟨hs, hr⟩), decide_eq_true (show (P.getD r []).length < 6 by omega)]
section C73
variable {Γ : gM} {d : Nat} {h : gH} {Q : Option Value → gH → Prop} {S : GS}
set_option maxRecDepth 100000 in
set_option maxHeartbeats 4000000 in
theorem m_here {B : List Nat} {a : Nat} (hM : MLay h) (hB : MB h B) (h60 : B.length ≤ 60) (h255 : ∀ p, B.getD p 0 ≤ 255) (g22 : gI h 94 22 = nI a) (ha : a ≤ B.length) (hQ : ∀ h', gI h' 94 22 = nI (skp B a) → FrH h h' → Q (some (.int (hrV B a))) h') : V Γ mX10_here d 124 124 h 0 [some (.ref 94)] [] Q := by
  have fin : ∀ b h1, b ≤ B.length → skp B b = b → skp B a = b → gI h1 94 22 = nI b → FrH h h1 → V Γ mX10_here d 124 124 h1 38 [some (.ref 94)] [] Q := by
    intro b h1 hb hs hab g1 hF
    have hM1 := MLay_eq hM hF.2.2
    have hB1 := MB_H hB hF
    have g21 := hB1.1
    have h9 := h255 b
    unfold hrV at hQ
    rw [hab] at hQ
    have hQ9 := hQ h1 g1 hF
    refine V_aloadn0 dX10_here_38 ?_
    refine V_getI dX10_here_39 fX10_130 (Or.inl rfl) (by first | assumption | rfl) (by first | decide | omega) (by first | assumption | exact hB1.2 _ (by omega) | exact ML_4 (by assumption) | exact ML_5 (by assumption) | exact ML_6 (by assumption) | exact ML_7 (by assumption) | exact ML_8 (by assumption) | exact ML_9 (by assumption) | exact ML_10 (by assumption) | exact ML_11 (by assumption) | exact ML_12 (by assumption) | exact ML_13 (by assumption) | exact ML_15 (by assumption) | exact ML_16 (by assumption) | exact ML_17 (by assumption) | exact ML_20 (by assumption) | exact ML_23 (by assumption) | exact ML_24 (by assumption) | exact ML_30 (by assumption) | exact ML_31 (by assumption) | exact ML_32 (by assumption) | exact ML_33 (by assumption) | exact ML_35 (by assumption) | exact ML_36 (by assumption) | exact ML_37 (by assumption) | exact ML_38 (by assumption) | exact ML_41 (by assumption) | exact ML_42 (by assumption) | exact ML_43 (by assumption) | exact ML_44 (by assumption) | exact ML_45 (by assumption) | rfl) ?_
    refine V_aloadn0 dX10_here_42 ?_
    refine V_getI dX10_here_43 fX10_125 (Or.inl rfl) (by first | assumption | rfl) (by first | decide | omega) (by first | assumption | exact hB1.2 _ (by omega) | exact ML_4 (by assumption) | exact ML_5 (by assumption) | exact ML_6 (by assumption) | exact ML_7 (by assumption) | exact ML_8 (by assumption) | exact ML_9 (by assumption) | exact ML_10 (by assumption) | exact ML_11 (by assumption) | exact ML_12 (by assumption) | exact ML_13 (by assumption) | exact ML_15 (by assumption) | exact ML_16 (by assumption) | exact ML_17 (by assumption) | exact ML_20 (by assumption) | exact ML_23 (by assumption) | exact ML_24 (by assumption) | exact ML_30 (by assumption) | exact ML_31 (by assumption) | exact ML_32 (by assumption) | exact ML_33 (by assumption) | exact ML_35 (by assumption) | exact ML_36 (by assumption) | exact ML_37 (by assumption) | exact ML_38 (by assumption) | exact ML_41 (by assumption) | exact ML_42 (by assumption) | exact ML_43 (by assumption) | exact ML_44 (by assumption) | exact ML_45 (by assumption) | rfl) ?_
    first | refine U_icmp_ge (tgt := 61) dX10_here_46 (by decide) (by with_reducible rfl) (by with_reducible rfl) (by omega) (by omega) (fun c46 => ?_) (fun c46 => ?_) | refine V_icmp_ge (tgt := 61) dX10_here_46 (by decide) (fun c46 => ?_) (fun c46 => ?_)
    · skip
      rw [if_neg (by omega)] at hQ9
      refine V_iconst (v := -1) dX10_here_61 (by decide) ?_
      refine V_iret dX10_here_62 rfl rfl ?_
      exact hQ9
    · skip
      rw [if_pos (by omega)] at hQ9
      refine V_aloadn0 dX10_here_49 ?_
      refine V_getR dX10_here_50 fX10_56 (by first | assumption | rfl) (by first | decide | omega) (by first | assumption | exact hB1.2 _ (by omega) | exact ML_4 (by assumption) | exact ML_5 (by assumption) | exact ML_6 (by assumption) | exact ML_7 (by assumption) | exact ML_8 (by assumption) | exact ML_9 (by assumption) | exact ML_10 (by assumption) | exact ML_11 (by assumption) | exact ML_12 (by assumption) | exact ML_13 (by assumption) | exact ML_15 (by assumption) | exact ML_16 (by assumption) | exact ML_17 (by assumption) | exact ML_20 (by assumption) | exact ML_23 (by assumption) | exact ML_24 (by assumption) | exact ML_30 (by assumption) | exact ML_31 (by assumption) | exact ML_32 (by assumption) | exact ML_33 (by assumption) | exact ML_35 (by assumption) | exact ML_36 (by assumption) | exact ML_37 (by assumption) | exact ML_38 (by assumption) | exact ML_41 (by assumption) | exact ML_42 (by assumption) | exact ML_43 (by assumption) | exact ML_44 (by assumption) | exact ML_45 (by assumption) | rfl) ?_
      refine V_aloadn0 dX10_here_53 ?_
      refine V_getI dX10_here_54 fX10_130 (Or.inl rfl) (by first | assumption | rfl) (by first | decide | omega) (by first | assumption | exact hB1.2 _ (by omega) | exact ML_4 (by assumption) | exact ML_5 (by assumption) | exact ML_6 (by assumption) | exact ML_7 (by assumption) | exact ML_8 (by assumption) | exact ML_9 (by assumption) | exact ML_10 (by assumption) | exact ML_11 (by assumption) | exact ML_12 (by assumption) | exact ML_13 (by assumption) | exact ML_15 (by assumption) | exact ML_16 (by assumption) | exact ML_17 (by assumption) | exact ML_20 (by assumption) | exact ML_23 (by assumption) | exact ML_24 (by assumption) | exact ML_30 (by assumption) | exact ML_31 (by assumption) | exact ML_32 (by assumption) | exact ML_33 (by assumption) | exact ML_35 (by assumption) | exact ML_36 (by assumption) | exact ML_37 (by assumption) | exact ML_38 (by assumption) | exact ML_41 (by assumption) | exact ML_42 (by assumption) | exact ML_43 (by assumption) | exact ML_44 (by assumption) | exact ML_45 (by assumption) | rfl) ?_
      refine U_iald dX10_here_57 (by with_reducible rfl) (by first | assumption | rfl) (by first | decide | omega) (by omega) (by first | assumption | exact hB1.2 _ (by omega) | exact ML_4 (by assumption) | exact ML_5 (by assumption) | exact ML_6 (by assumption) | exact ML_7 (by assumption) | exact ML_8 (by assumption) | exact ML_9 (by assumption) | exact ML_10 (by assumption) | exact ML_11 (by assumption) | exact ML_12 (by assumption) | exact ML_13 (by assumption) | exact ML_15 (by assumption) | exact ML_16 (by assumption) | exact ML_17 (by assumption) | exact ML_20 (by assumption) | exact ML_23 (by assumption) | exact ML_24 (by assumption) | exact ML_30 (by assumption) | exact ML_31 (by assumption) | exact ML_32 (by assumption) | exact ML_33 (by assumption) | exact ML_35 (by assumption) | exact ML_36 (by assumption) | exact ML_37 (by assumption) | exact ML_38 (by assumption) | exact ML_41 (by assumption) | exact ML_42 (by assumption) | exact ML_43 (by assumption) | exact ML_44 (by assumption) | exact ML_45 (by assumption) | rfl) ?_
      refine V_goto (tgt := 62) dX10_here_58 (by decide) ?_
      refine V_iret dX10_here_62 rfl rfl ?_
      exact hQ9
  have loop : ∀ k b h1, B.length - b = k → b ≤ B.length → skp B a = skp B b → gI h1 94 22 = nI b → FrH h h1 → V Γ mX10_here d 124 124 h1 0 [some (.ref 94)] [] Q := by
    intro k
    induction k using Nat.strongRecOn with
    | _ k ih =>
      intro b h1 hk hb hab g1 hF
      have hM1 := MLay_eq hM hF.2.2
      have hB1 := MB_H hB hF
      have g21 := hB1.1
      have h9 := h255 b
      by_cases hlt : b < B.length
      · have gb := hB1.2 b hlt
        by_cases hbl : B.getD b 0 = 32
        · skip
          refine V_aloadn0 dX10_here_0 ?_
          refine V_getI dX10_here_1 fX10_130 (Or.inl rfl) (by first | assumption | rfl) (by first | decide | omega) (by first | assumption | exact ML_4 (by assumption) | exact ML_5 (by assumption) | exact ML_6 (by assumption) | exact ML_7 (by assumption) | exact ML_8 (by assumption) | exact ML_9 (by assumption) | exact ML_10 (by assumption) | exact ML_11 (by assumption) | exact ML_12 (by assumption) | exact ML_13 (by assumption) | exact ML_15 (by assumption) | exact ML_16 (by assumption) | exact ML_17 (by assumption) | exact ML_20 (by assumption) | exact ML_23 (by assumption) | exact ML_24 (by assumption) | exact ML_30 (by assumption) | exact ML_31 (by assumption) | exact ML_32 (by assumption) | exact ML_33 (by assumption) | exact ML_35 (by assumption) | exact ML_36 (by assumption) | exact ML_37 (by assumption) | exact ML_38 (by assumption) | exact ML_41 (by assumption) | exact ML_42 (by assumption) | exact ML_43 (by assumption) | exact ML_44 (by assumption) | exact ML_45 (by assumption) | rfl) ?_
          refine V_aloadn0 dX10_here_4 ?_
          refine V_getI dX10_here_5 fX10_125 (Or.inl rfl) (by first | assumption | rfl) (by first | decide | omega) (by first | assumption | exact ML_4 (by assumption) | exact ML_5 (by assumption) | exact ML_6 (by assumption) | exact ML_7 (by assumption) | exact ML_8 (by assumption) | exact ML_9 (by assumption) | exact ML_10 (by assumption) | exact ML_11 (by assumption) | exact ML_12 (by assumption) | exact ML_13 (by assumption) | exact ML_15 (by assumption) | exact ML_16 (by assumption) | exact ML_17 (by assumption) | exact ML_20 (by assumption) | exact ML_23 (by assumption) | exact ML_24 (by assumption) | exact ML_30 (by assumption) | exact ML_31 (by assumption) | exact ML_32 (by assumption) | exact ML_33 (by assumption) | exact ML_35 (by assumption) | exact ML_36 (by assumption) | exact ML_37 (by assumption) | exact ML_38 (by assumption) | exact ML_41 (by assumption) | exact ML_42 (by assumption) | exact ML_43 (by assumption) | exact ML_44 (by assumption) | exact ML_45 (by assumption) | rfl) ?_
          first | refine U_icmp_ge (tgt := 38) dX10_here_8 (by decide) (by with_reducible rfl) (by with_reducible rfl) (by omega) (by omega) (fun c8 => ?_) (fun c8 => ?_) | refine V_icmp_ge (tgt := 38) dX10_here_8 (by decide) (fun c8 => ?_) (fun c8 => ?_)
          · skip
            omega
          · skip
            refine V_aloadn0 dX10_here_11 ?_
            refine V_getR dX10_here_12 fX10_56 (by first | assumption | rfl) (by first | decide | omega) (by first | assumption | exact ML_4 (by assumption) | exact ML_5 (by assumption) | exact ML_6 (by assumption) | exact ML_7 (by assumption) | exact ML_8 (by assumption) | exact ML_9 (by assumption) | exact ML_10 (by assumption) | exact ML_11 (by assumption) | exact ML_12 (by assumption) | exact ML_13 (by assumption) | exact ML_15 (by assumption) | exact ML_16 (by assumption) | exact ML_17 (by assumption) | exact ML_20 (by assumption) | exact ML_23 (by assumption) | exact ML_24 (by assumption) | exact ML_30 (by assumption) | exact ML_31 (by assumption) | exact ML_32 (by assumption) | exact ML_33 (by assumption) | exact ML_35 (by assumption) | exact ML_36 (by assumption) | exact ML_37 (by assumption) | exact ML_38 (by assumption) | exact ML_41 (by assumption) | exact ML_42 (by assumption) | exact ML_43 (by assumption) | exact ML_44 (by assumption) | exact ML_45 (by assumption) | rfl) ?_
            refine V_aloadn0 dX10_here_15 ?_
            refine V_getI dX10_here_16 fX10_130 (Or.inl rfl) (by first | assumption | rfl) (by first | decide | omega) (by first | assumption | exact ML_4 (by assumption) | exact ML_5 (by assumption) | exact ML_6 (by assumption) | exact ML_7 (by assumption) | exact ML_8 (by assumption) | exact ML_9 (by assumption) | exact ML_10 (by assumption) | exact ML_11 (by assumption) | exact ML_12 (by assumption) | exact ML_13 (by assumption) | exact ML_15 (by assumption) | exact ML_16 (by assumption) | exact ML_17 (by assumption) | exact ML_20 (by assumption) | exact ML_23 (by assumption) | exact ML_24 (by assumption) | exact ML_30 (by assumption) | exact ML_31 (by assumption) | exact ML_32 (by assumption) | exact ML_33 (by assumption) | exact ML_35 (by assumption) | exact ML_36 (by assumption) | exact ML_37 (by assumption) | exact ML_38 (by assumption) | exact ML_41 (by assumption) | exact ML_42 (by assumption) | exact ML_43 (by assumption) | exact ML_44 (by assumption) | exact ML_45 (by assumption) | rfl) ?_
            refine U_iald dX10_here_19 (by with_reducible rfl) (by first | assumption | rfl) (by first | decide | omega) (by omega) (by first | assumption | exact ML_4 (by assumption) | exact ML_5 (by assumption) | exact ML_6 (by assumption) | exact ML_7 (by assumption) | exact ML_8 (by assumption) | exact ML_9 (by assumption) | exact ML_10 (by assumption) | exact ML_11 (by assumption) | exact ML_12 (by assumption) | exact ML_13 (by assumption) | exact ML_15 (by assumption) | exact ML_16 (by assumption) | exact ML_17 (by assumption) | exact ML_20 (by assumption) | exact ML_23 (by assumption) | exact ML_24 (by assumption) | exact ML_30 (by assumption) | exact ML_31 (by assumption) | exact ML_32 (by assumption) | exact ML_33 (by assumption) | exact ML_35 (by assumption) | exact ML_36 (by assumption) | exact ML_37 (by assumption) | exact ML_38 (by assumption) | exact ML_41 (by assumption) | exact ML_42 (by assumption) | exact ML_43 (by assumption) | exact ML_44 (by assumption) | exact ML_45 (by assumption) | rfl) ?_
            refine V_bipush (v := nI 32) dX10_here_20 (by decide) ?_
            first | refine U_icmp_ne (tgt := 38) dX10_here_22 (by decide) (by with_reducible rfl) (by with_reducible rfl) (by omega) (by omega) (fun c22 => ?_) (fun c22 => ?_) | refine V_icmp_ne (tgt := 38) dX10_here_22 (by decide) (fun c22 => ?_) (fun c22 => ?_)
            · skip
              omega
            · skip
              refine V_aloadn0 dX10_here_25 ?_
              first | refine V_dupa dX10_here_26 ?_ | refine V_dupi dX10_here_26 ?_
              refine V_getI dX10_here_27 fX10_130 (Or.inl rfl) (by first | assumption | rfl) (by first | decide | omega) (by first | assumption | exact ML_4 (by assumption) | exact ML_5 (by assumption) | exact ML_6 (by assumption) | exact ML_7 (by assumption) | exact ML_8 (by assumption) | exact ML_9 (by assumption) | exact ML_10 (by assumption) | exact ML_11 (by assumption) | exact ML_12 (by assumption) | exact ML_13 (by assumption) | exact ML_15 (by assumption) | exact ML_16 (by assumption) | exact ML_17 (by assumption) | exact ML_20 (by assumption) | exact ML_23 (by assumption) | exact ML_24 (by assumption) | exact ML_30 (by assumption) | exact ML_31 (by assumption) | exact ML_32 (by assumption) | exact ML_33 (by assumption) | exact ML_35 (by assumption) | exact ML_36 (by assumption) | exact ML_37 (by assumption) | exact ML_38 (by assumption) | exact ML_41 (by assumption) | exact ML_42 (by assumption) | exact ML_43 (by assumption) | exact ML_44 (by assumption) | exact ML_45 (by assumption) | rfl) ?_
              refine V_iconst (v := nI 1) dX10_here_30 (by decide) ?_
              first | refine U_iadd dX10_here_31 (by with_reducible rfl) (by with_reducible rfl) ?_ | refine V_iadd dX10_here_31 ?_
              refine V_putI dX10_here_32 fX10_130 (by first | assumption | rfl) (by first | decide | omega) ?_
              refine V_goto (tgt := 0) dX10_here_35 (by decide) ?_
              exact ih (B.length - (b + 1)) (by omega) (b + 1) _ rfl (by omega) (by rw [hab, skp_blank hlt hbl]) (by rw [gI_sI, if_pos ⟨rfl, rfl⟩]) (frh_sI hF)
        · have hs := skp_stop (B := B) (p := b) (Or.inr hbl)
          refine V_aloadn0 dX10_here_0 ?_
          refine V_getI dX10_here_1 fX10_130 (Or.inl rfl) (by first | assumption | rfl) (by first | decide | omega) (by first | assumption | exact ML_4 (by assumption) | exact ML_5 (by assumption) | exact ML_6 (by assumption) | exact ML_7 (by assumption) | exact ML_8 (by assumption) | exact ML_9 (by assumption) | exact ML_10 (by assumption) | exact ML_11 (by assumption) | exact ML_12 (by assumption) | exact ML_13 (by assumption) | exact ML_15 (by assumption) | exact ML_16 (by assumption) | exact ML_17 (by assumption) | exact ML_20 (by assumption) | exact ML_23 (by assumption) | exact ML_24 (by assumption) | exact ML_30 (by assumption) | exact ML_31 (by assumption) | exact ML_32 (by assumption) | exact ML_33 (by assumption) | exact ML_35 (by assumption) | exact ML_36 (by assumption) | exact ML_37 (by assumption) | exact ML_38 (by assumption) | exact ML_41 (by assumption) | exact ML_42 (by assumption) | exact ML_43 (by assumption) | exact ML_44 (by assumption) | exact ML_45 (by assumption) | rfl) ?_
          refine V_aloadn0 dX10_here_4 ?_
          refine V_getI dX10_here_5 fX10_125 (Or.inl rfl) (by first | assumption | rfl) (by first | decide | omega) (by first | assumption | exact ML_4 (by assumption) | exact ML_5 (by assumption) | exact ML_6 (by assumption) | exact ML_7 (by assumption) | exact ML_8 (by assumption) | exact ML_9 (by assumption) | exact ML_10 (by assumption) | exact ML_11 (by assumption) | exact ML_12 (by assumption) | exact ML_13 (by assumption) | exact ML_15 (by assumption) | exact ML_16 (by assumption) | exact ML_17 (by assumption) | exact ML_20 (by assumption) | exact ML_23 (by assumption) | exact ML_24 (by assumption) | exact ML_30 (by assumption) | exact ML_31 (by assumption) | exact ML_32 (by assumption) | exact ML_33 (by assumption) | exact ML_35 (by assumption) | exact ML_36 (by assumption) | exact ML_37 (by assumption) | exact ML_38 (by assumption) | exact ML_41 (by assumption) | exact ML_42 (by assumption) | exact ML_43 (by assumption) | exact ML_44 (by assumption) | exact ML_45 (by assumption) | rfl) ?_
          first | refine U_icmp_ge (tgt := 38) dX10_here_8 (by decide) (by with_reducible rfl) (by with_reducible rfl) (by omega) (by omega) (fun c8 => ?_) (fun c8 => ?_) | refine V_icmp_ge (tgt := 38) dX10_here_8 (by decide) (fun c8 => ?_) (fun c8 => ?_)
          · skip
            omega
          · skip
            refine V_aloadn0 dX10_here_11 ?_
            refine V_getR dX10_here_12 fX10_56 (by first | assumption | rfl) (by first | decide | omega) (by first | assumption | exact ML_4 (by assumption) | exact ML_5 (by assumption) | exact ML_6 (by assumption) | exact ML_7 (by assumption) | exact ML_8 (by assumption) | exact ML_9 (by assumption) | exact ML_10 (by assumption) | exact ML_11 (by assumption) | exact ML_12 (by assumption) | exact ML_13 (by assumption) | exact ML_15 (by assumption) | exact ML_16 (by assumption) | exact ML_17 (by assumption) | exact ML_20 (by assumption) | exact ML_23 (by assumption) | exact ML_24 (by assumption) | exact ML_30 (by assumption) | exact ML_31 (by assumption) | exact ML_32 (by assumption) | exact ML_33 (by assumption) | exact ML_35 (by assumption) | exact ML_36 (by assumption) | exact ML_37 (by assumption) | exact ML_38 (by assumption) | exact ML_41 (by assumption) | exact ML_42 (by assumption) | exact ML_43 (by assumption) | exact ML_44 (by assumption) | exact ML_45 (by assumption) | rfl) ?_
            refine V_aloadn0 dX10_here_15 ?_
            refine V_getI dX10_here_16 fX10_130 (Or.inl rfl) (by first | assumption | rfl) (by first | decide | omega) (by first | assumption | exact ML_4 (by assumption) | exact ML_5 (by assumption) | exact ML_6 (by assumption) | exact ML_7 (by assumption) | exact ML_8 (by assumption) | exact ML_9 (by assumption) | exact ML_10 (by assumption) | exact ML_11 (by assumption) | exact ML_12 (by assumption) | exact ML_13 (by assumption) | exact ML_15 (by assumption) | exact ML_16 (by assumption) | exact ML_17 (by assumption) | exact ML_20 (by assumption) | exact ML_23 (by assumption) | exact ML_24 (by assumption) | exact ML_30 (by assumption) | exact ML_31 (by assumption) | exact ML_32 (by assumption) | exact ML_33 (by assumption) | exact ML_35 (by assumption) | exact ML_36 (by assumption) | exact ML_37 (by assumption) | exact ML_38 (by assumption) | exact ML_41 (by assumption) | exact ML_42 (by assumption) | exact ML_43 (by assumption) | exact ML_44 (by assumption) | exact ML_45 (by assumption) | rfl) ?_
            refine U_iald dX10_here_19 (by with_reducible rfl) (by first | assumption | rfl) (by first | decide | omega) (by omega) (by first | assumption | exact ML_4 (by assumption) | exact ML_5 (by assumption) | exact ML_6 (by assumption) | exact ML_7 (by assumption) | exact ML_8 (by assumption) | exact ML_9 (by assumption) | exact ML_10 (by assumption) | exact ML_11 (by assumption) | exact ML_12 (by assumption) | exact ML_13 (by assumption) | exact ML_15 (by assumption) | exact ML_16 (by assumption) | exact ML_17 (by assumption) | exact ML_20 (by assumption) | exact ML_23 (by assumption) | exact ML_24 (by assumption) | exact ML_30 (by assumption) | exact ML_31 (by assumption) | exact ML_32 (by assumption) | exact ML_33 (by assumption) | exact ML_35 (by assumption) | exact ML_36 (by assumption) | exact ML_37 (by assumption) | exact ML_38 (by assumption) | exact ML_41 (by assumption) | exact ML_42 (by assumption) | exact ML_43 (by assumption) | exact ML_44 (by assumption) | exact ML_45 (by assumption) | rfl) ?_
            refine V_bipush (v := nI 32) dX10_here_20 (by decide) ?_
            first | refine U_icmp_ne (tgt := 38) dX10_here_22 (by decide) (by with_reducible rfl) (by with_reducible rfl) (by omega) (by omega) (fun c22 => ?_) (fun c22 => ?_) | refine V_icmp_ne (tgt := 38) dX10_here_22 (by decide) (fun c22 => ?_) (fun c22 => ?_)
            · skip
              exact fin b h1 hb hs (hab.trans hs) g1 hF
            · skip
              omega
      · have hs := skp_stop (B := B) (p := b) (Or.inl (by omega))
        refine V_aloadn0 dX10_here_0 ?_
        refine V_getI dX10_here_1 fX10_130 (Or.inl rfl) (by first | assumption | rfl) (by first | decide | omega) (by first | assumption | exact ML_4 (by assumption) | exact ML_5 (by assumption) | exact ML_6 (by assumption) | exact ML_7 (by assumption) | exact ML_8 (by assumption) | exact ML_9 (by assumption) | exact ML_10 (by assumption) | exact ML_11 (by assumption) | exact ML_12 (by assumption) | exact ML_13 (by assumption) | exact ML_15 (by assumption) | exact ML_16 (by assumption) | exact ML_17 (by assumption) | exact ML_20 (by assumption) | exact ML_23 (by assumption) | exact ML_24 (by assumption) | exact ML_30 (by assumption) | exact ML_31 (by assumption) | exact ML_32 (by assumption) | exact ML_33 (by assumption) | exact ML_35 (by assumption) | exact ML_36 (by assumption) | exact ML_37 (by assumption) | exact ML_38 (by assumption) | exact ML_41 (by assumption) | exact ML_42 (by assumption) | exact ML_43 (by assumption) | exact ML_44 (by assumption) | exact ML_45 (by assumption) | rfl) ?_
        refine V_aloadn0 dX10_here_4 ?_
        refine V_getI dX10_here_5 fX10_125 (Or.inl rfl) (by first | assumption | rfl) (by first | decide | omega) (by first | assumption | exact ML_4 (by assumption) | exact ML_5 (by assumption) | exact ML_6 (by assumption) | exact ML_7 (by assumption) | exact ML_8 (by assumption) | exact ML_9 (by assumption) | exact ML_10 (by assumption) | exact ML_11 (by assumption) | exact ML_12 (by assumption) | exact ML_13 (by assumption) | exact ML_15 (by assumption) | exact ML_16 (by assumption) | exact ML_17 (by assumption) | exact ML_20 (by assumption) | exact ML_23 (by assumption) | exact ML_24 (by assumption) | exact ML_30 (by assumption) | exact ML_31 (by assumption) | exact ML_32 (by assumption) | exact ML_33 (by assumption) | exact ML_35 (by assumption) | exact ML_36 (by assumption) | exact ML_37 (by assumption) | exact ML_38 (by assumption) | exact ML_41 (by assumption) | exact ML_42 (by assumption) | exact ML_43 (by assumption) | exact ML_44 (by assumption) | exact ML_45 (by assumption) | rfl) ?_
        first | refine U_icmp_ge (tgt := 38) dX10_here_8 (by decide) (by with_reducible rfl) (by with_reducible rfl) (by omega) (by omega) (fun c8 => ?_) (fun c8 => ?_) | refine V_icmp_ge (tgt := 38) dX10_here_8 (by decide) (fun c8 => ?_) (fun c8 => ?_)
        · skip
          exact fin b h1 hb hs (hab.trans hs) g1 hF
        · skip
          omega
  exact loop _ a h rfl ha rfl g22 FrH.rf
set_option maxRecDepth 100000 in
set_option maxHeartbeats 4000000 in
theorem m_fault {B : List Nat} {a : Nat} (hd : 1 ≤ d) (hM : MLay h) (hB : MB h B) (h60 : B.length ≤ 60) (h255 : ∀ p, B.getD p 0 ≤ 255) (g22 : gI h 94 22 = nI a) (ha : a ≤ B.length) (hQ : ∀ h', gI h' 94 21 = nI 0 → (∀ x b, ¬ (x = 94 ∧ (b = 22 ∨ b = 21)) → gI h' x b = gI h x b) → gL h' = gL h → gR h' = gR h → Q (some (.int (-100 - nI (skp B a)))) h') : V Γ mX10_fault d 124 124 h 0 [some (.ref 94), none] [] Q := by
  have hsl := skp_le ha
  have h9 := h255 (skp B a)
  by_cases hlt : skp B a < B.length
  · have e : hrV B a = nI (B.getD (skp B a) 0) := if_pos hlt
    refine V_aloadn0 dX10_fault_0 ?_
    refine V_callV0 (μ' := mX10_here) dX10_fault_1 okX10_here lX10_133 rfl (by first | assumption | rfl) (by first | decide | omega) (Nat.le_of_ble_eq_true rfl) (Nat.le_of_ble_eq_true rfl) (by omega) ?_
    refine m_here hM hB h60 h255 g22 ha (fun h1 g1 hF1 => ?_)
    rw [e]
    dsimp only [gPush]
    refine V_if_ge (tgt := 17) dX10_fault_4 (by decide) (fun c4 => ?_) (fun c4 => ?_)
    · skip
      refine V_bipush (v := -100) dX10_fault_17 (by decide) ?_
      refine V_aloadn0 dX10_fault_19 ?_
      refine V_getI dX10_fault_20 fX10_130 (Or.inl rfl) (by first | assumption | rfl) (by first | decide | omega) (by first | assumption | exact ML_4 (by assumption) | exact ML_5 (by assumption) | exact ML_6 (by assumption) | exact ML_7 (by assumption) | exact ML_8 (by assumption) | exact ML_9 (by assumption) | exact ML_10 (by assumption) | exact ML_11 (by assumption) | exact ML_12 (by assumption) | exact ML_13 (by assumption) | exact ML_15 (by assumption) | exact ML_16 (by assumption) | exact ML_17 (by assumption) | exact ML_20 (by assumption) | exact ML_23 (by assumption) | exact ML_24 (by assumption) | exact ML_30 (by assumption) | exact ML_31 (by assumption) | exact ML_32 (by assumption) | exact ML_33 (by assumption) | exact ML_35 (by assumption) | exact ML_36 (by assumption) | exact ML_37 (by assumption) | exact ML_38 (by assumption) | exact ML_41 (by assumption) | exact ML_42 (by assumption) | exact ML_43 (by assumption) | exact ML_44 (by assumption) | exact ML_45 (by assumption) | rfl) ?_
      first | refine U_isub dX10_fault_23 (by with_reducible rfl) (by with_reducible rfl) (by omega) ?_ | refine V_isub dX10_fault_23 ?_
      refine V_istoren1 dX10_fault_24 (by decide) rfl ?_
      refine V_aloadn0 dX10_fault_25 ?_
      refine V_iconst (v := nI 0) dX10_fault_26 (by decide) ?_
      refine V_putI dX10_fault_27 fX10_125 (by first | assumption | rfl) (by first | decide | omega) ?_
      refine V_iloadn1 dX10_fault_30 ?_
      refine V_iret dX10_fault_31 rfl rfl ?_
      exact hQ _ (by rw [gI_sI, if_pos ⟨rfl, rfl⟩]) (fun x b hb => by rw [gI_sI, if_neg (by omega)]; exact hF1.1 x b (by omega)) hF1.2.1 hF1.2.2
    · skip
      exact absurd (nI_pos' (by omega)) c4
  · have e : hrV B a = -1 := if_neg hlt
    have e2 : skp B a = B.length := by omega
    rw [e2] at hQ
    refine V_aloadn0 dX10_fault_0 ?_
    refine V_callV0 (μ' := mX10_here) dX10_fault_1 okX10_here lX10_133 rfl (by first | assumption | rfl) (by first | decide | omega) (Nat.le_of_ble_eq_true rfl) (Nat.le_of_ble_eq_true rfl) (by omega) ?_
    refine m_here hM hB h60 h255 g22 ha (fun h1 g1 hF1 => ?_)
    rw [e]
    have g21 := (MB_H hB hF1).1
    dsimp only [gPush]
    refine V_if_ge (tgt := 17) dX10_fault_4 (by decide) (fun c4 => ?_) (fun c4 => ?_)
    · skip
      exact absurd c4 (by decide)
    · skip
      refine V_bipush (v := -100) dX10_fault_7 (by decide) ?_
      refine V_aloadn0 dX10_fault_9 ?_
      refine V_getI dX10_fault_10 fX10_125 (Or.inl rfl) (by first | assumption | rfl) (by first | decide | omega) (by first | assumption | exact ML_4 (by assumption) | exact ML_5 (by assumption) | exact ML_6 (by assumption) | exact ML_7 (by assumption) | exact ML_8 (by assumption) | exact ML_9 (by assumption) | exact ML_10 (by assumption) | exact ML_11 (by assumption) | exact ML_12 (by assumption) | exact ML_13 (by assumption) | exact ML_15 (by assumption) | exact ML_16 (by assumption) | exact ML_17 (by assumption) | exact ML_20 (by assumption) | exact ML_23 (by assumption) | exact ML_24 (by assumption) | exact ML_30 (by assumption) | exact ML_31 (by assumption) | exact ML_32 (by assumption) | exact ML_33 (by assumption) | exact ML_35 (by assumption) | exact ML_36 (by assumption) | exact ML_37 (by assumption) | exact ML_38 (by assumption) | exact ML_41 (by assumption) | exact ML_42 (by assumption) | exact ML_43 (by assumption) | exact ML_44 (by assumption) | exact ML_45 (by assumption) | rfl) ?_
      first | refine U_isub dX10_fault_13 (by with_reducible rfl) (by with_reducible rfl) (by omega) ?_ | refine V_isub dX10_fault_13 ?_
      refine V_goto (tgt := 24) dX10_fault_14 (by decide) ?_
      refine V_istoren1 dX10_fault_24 (by decide) rfl ?_
      refine V_aloadn0 dX10_fault_25 ?_
      refine V_iconst (v := nI 0) dX10_fault_26 (by decide) ?_
      refine V_putI dX10_fault_27 fX10_125 (by first | assumption | rfl) (by first | decide | omega) ?_
      refine V_iloadn1 dX10_fault_30 ?_
      refine V_iret dX10_fault_31 rfl rfl ?_
      exact hQ _ (by rw [gI_sI, if_pos ⟨rfl, rfl⟩]) (fun x b hb => by rw [gI_sI, if_neg (by omega)]; exact hF1.1 x b (by omega)) hF1.2.1 hF1.2.2
set_option maxRecDepth 100000 in
set_option maxHeartbeats 4000000 in
theorem m_mayBad {n r : Nat} {x : Int32} {c : Int32} (hd : 1 ≤ d) (r0 : gI h 94 0 = nI n) (hx : inR x 1 n = false) (hQ : Q (some (.int (gBo false))) h) : V Γ mX10_mayStand d 124 124 h 0 [some (.ref 94), some (.int x), some (.int (nI r)), some (.int c), none] [] Q := by
  refine V_iloadn1 dX10_mayStand_0 ?_
  refine V_iconst (v := nI 1) dX10_mayStand_1 (by decide) ?_
  refine V_aloadn0 dX10_mayStand_2 ?_
  refine V_getI dX10_mayStand_3 fX10_7 (Or.inl rfl) (by first | assumption | rfl) (by first | decide | omega) (by first | assumption | exact ML_4 (by assumption) | exact ML_5 (by assumption) | exact ML_6 (by assumption) | exact ML_7 (by assumption) | exact ML_8 (by assumption) | exact ML_9 (by assumption) | exact ML_10 (by assumption) | exact ML_11 (by assumption) | exact ML_12 (by assumption) | exact ML_13 (by assumption) | exact ML_15 (by assumption) | exact ML_16 (by assumption) | exact ML_17 (by assumption) | exact ML_20 (by assumption) | exact ML_23 (by assumption) | exact ML_24 (by assumption) | exact ML_30 (by assumption) | exact ML_31 (by assumption) | exact ML_32 (by assumption) | exact ML_33 (by assumption) | exact ML_35 (by assumption) | exact ML_36 (by assumption) | exact ML_37 (by assumption) | exact ML_38 (by assumption) | exact ML_41 (by assumption) | exact ML_42 (by assumption) | exact ML_43 (by assumption) | exact ML_44 (by assumption) | exact ML_45 (by assumption) | rfl) ?_
  refine V_callS3 (μ' := mX10_in) dX10_mayStand_6 okX10_in lX10_104 (Nat.le_of_ble_eq_true rfl) (Nat.le_of_ble_eq_true rfl) (by omega) ?_
  refine m_inR ?_
  rw [hx]
  dsimp only [gPush]
  first | refine U_ifB_eq (tgt := 28) dX10_mayStand_9 (by decide) (by with_reducible rfl) (fun c9 => ?_) (fun c9 => ?_) | refine U_if_eq (tgt := 28) dX10_mayStand_9 (by decide) (by with_reducible rfl) (by omega) (fun c9 => ?_) (fun c9 => ?_) | refine V_if_eq (tgt := 28) dX10_mayStand_9 (by decide) (fun c9 => ?_) (fun c9 => ?_)
  · skip
    refine V_iconst (v := nI 0) dX10_mayStand_28 (by decide) ?_
    refine V_istorew4 dX10_mayStand_29 (by decide) rfl ?_
    refine V_iloadw4 dX10_mayStand_31 ?_
    first | refine U_ifB_eq (tgt := 61) dX10_mayStand_33 (by decide) (by with_reducible rfl) (fun c33 => ?_) (fun c33 => ?_) | refine U_if_eq (tgt := 61) dX10_mayStand_33 (by decide) (by with_reducible rfl) (by omega) (fun c33 => ?_) (fun c33 => ?_) | refine V_if_eq (tgt := 61) dX10_mayStand_33 (by decide) (fun c33 => ?_) (fun c33 => ?_)
    · skip
      refine V_iconst (v := nI 0) dX10_mayStand_61 (by decide) ?_
      refine V_istorew4 dX10_mayStand_62 (by decide) rfl ?_
      refine V_iloadw4 dX10_mayStand_64 ?_
      first | refine U_ifB_eq (tgt := 106) dX10_mayStand_66 (by decide) (by with_reducible rfl) (fun c66 => ?_) (fun c66 => ?_) | refine U_if_eq (tgt := 106) dX10_mayStand_66 (by decide) (by with_reducible rfl) (by omega) (fun c66 => ?_) (fun c66 => ?_) | refine V_if_eq (tgt := 106) dX10_mayStand_66 (by decide) (fun c66 => ?_) (fun c66 => ?_)
      · skip
        refine V_iconst (v := nI 0) dX10_mayStand_106 (by decide) ?_
        refine V_iret dX10_mayStand_107 rfl (by first | exact gBo_nar _ | rfl | decide) ?_
        exact hQ
      · skip
        omega
    · skip
      omega
  · skip
    cases c9
set_option maxRecDepth 100000 in
set_option maxHeartbeats 4000000 in
theorem m_may {n r y : Nat} {P : List (List Nat)} (hd : 1 ≤ d) (hn5 : n ≤ 5) (hM : MLay h) (r0 : gI h 94 0 = nI n) (hC : CG h P) (hr : r < 6) (hy1 : 1 ≤ y) (hyn : y ≤ n) (hQ : Q (some (.int (gBo (msB P r y)))) h) : V Γ mX10_mayStand d 124 124 h 0 [some (.ref 94), some (.int (nI y)), some (.int (nI r)), some (.int (nI (P.getD r []).length)), none] [] Q := by
  have h6 := CG_row6 hC r
  have h6' := CG_row6 hC (r - 1)
  obtain ⟨a1, a2, a3, a4, a5⟩ := id hC
  have hin := inR_nI hy1 hyn (by omega)
  unfold msB at hQ
  have third : ∀ x4, (decide ((P.getD r []).length < 6) && (decide ((P.getD r []).length = 0) || decide ((P.getD r []).getD ((P.getD r []).length - 1) 0 ≤ y))) = true → V Γ mX10_mayStand d 124 124 h 69 [some (.ref 94), some (.int (nI y)), some (.int (nI r)), some (.int (nI (P.getD r []).length)), x4] [] Q := by
    intro x4 ok
    rw [Bool.and_eq_true] at ok
    rw [ok.1, ok.2, Bool.true_and, Bool.true_and] at hQ
    by_cases hr0 : r = 0
    · rw [decide_eq_true hr0, Bool.true_or] at hQ
      refine V_iloadn2 dX10_mayStand_69 ?_
      first | refine U_ifB_eq (tgt := 102) dX10_mayStand_70 (by decide) (by with_reducible rfl) (fun c70 => ?_) (fun c70 => ?_) | refine U_if_eq (tgt := 102) dX10_mayStand_70 (by decide) (by with_reducible rfl) (by omega) (fun c70 => ?_) (fun c70 => ?_) | refine V_if_eq (tgt := 102) dX10_mayStand_70 (by decide) (fun c70 => ?_) (fun c70 => ?_)
      · skip
        refine V_iconst (v := nI 1) dX10_mayStand_102 (by decide) ?_
        refine V_goto (tgt := 107) dX10_mayStand_103 (by decide) ?_
        refine V_iret dX10_mayStand_107 rfl (by first | exact gBo_nar _ | rfl | decide) ?_
        exact hQ
      · skip
        omega
    · rw [decide_eq_false hr0, Bool.false_or] at hQ
      have g106 := a1 (r - 1) (by omega)
      by_cases hc : (P.getD r []).length < (P.getD (r - 1) []).length
      · rw [decide_eq_true hc, Bool.true_and] at hQ
        have g109 := a2 (r - 1) (P.getD r []).length (by omega) hc
        have h9 := a5 (r - 1) (P.getD r []).length
        refine V_iloadn2 dX10_mayStand_69 ?_
        first | refine U_ifB_eq (tgt := 102) dX10_mayStand_70 (by decide) (by with_reducible rfl) (fun c70 => ?_) (fun c70 => ?_) | refine U_if_eq (tgt := 102) dX10_mayStand_70 (by decide) (by with_reducible rfl) (by omega) (fun c70 => ?_) (fun c70 => ?_) | refine V_if_eq (tgt := 102) dX10_mayStand_70 (by decide) (fun c70 => ?_) (fun c70 => ?_)
        · skip
          omega
        · skip
          refine V_iloadn3 dX10_mayStand_73 ?_
          refine V_aloadn0 dX10_mayStand_74 ?_
          refine V_getR dX10_mayStand_75 fX10_50 (by first | assumption | rfl) (by first | decide | omega) (by first | assumption | exact ML_4 (by assumption) | exact ML_5 (by assumption) | exact ML_6 (by assumption) | exact ML_7 (by assumption) | exact ML_8 (by assumption) | exact ML_9 (by assumption) | exact ML_10 (by assumption) | exact ML_11 (by assumption) | exact ML_12 (by assumption) | exact ML_13 (by assumption) | exact ML_15 (by assumption) | exact ML_16 (by assumption) | exact ML_17 (by assumption) | exact ML_20 (by assumption) | exact ML_23 (by assumption) | exact ML_24 (by assumption) | exact ML_30 (by assumption) | exact ML_31 (by assumption) | exact ML_32 (by assumption) | exact ML_33 (by assumption) | exact ML_35 (by assumption) | exact ML_36 (by assumption) | exact ML_37 (by assumption) | exact ML_38 (by assumption) | exact ML_41 (by assumption) | exact ML_42 (by assumption) | exact ML_43 (by assumption) | exact ML_44 (by assumption) | exact ML_45 (by assumption) | rfl) ?_
          refine V_iloadn2 dX10_mayStand_78 ?_
          refine V_iconst (v := nI 1) dX10_mayStand_79 (by decide) ?_
          first | refine U_isub dX10_mayStand_80 (by with_reducible rfl) (by with_reducible rfl) (by omega) ?_ | refine V_isub dX10_mayStand_80 ?_
          refine U_iald dX10_mayStand_81 (by with_reducible rfl) (by first | assumption | rfl) (by first | decide | omega) (by omega) (by first | assumption | exact ML_4 (by assumption) | exact ML_5 (by assumption) | exact ML_6 (by assumption) | exact ML_7 (by assumption) | exact ML_8 (by assumption) | exact ML_9 (by assumption) | exact ML_10 (by assumption) | exact ML_11 (by assumption) | exact ML_12 (by assumption) | exact ML_13 (by assumption) | exact ML_15 (by assumption) | exact ML_16 (by assumption) | exact ML_17 (by assumption) | exact ML_20 (by assumption) | exact ML_23 (by assumption) | exact ML_24 (by assumption) | exact ML_30 (by assumption) | exact ML_31 (by assumption) | exact ML_32 (by assumption) | exact ML_33 (by assumption) | exact ML_35 (by assumption) | exact ML_36 (by assumption) | exact ML_37 (by assumption) | exact ML_38 (by assumption) | exact ML_41 (by assumption) | exact ML_42 (by assumption) | exact ML_43 (by assumption) | exact ML_44 (by assumption) | exact ML_45 (by assumption) | rfl) ?_
          first | refine U_icmp_ge (tgt := 106) dX10_mayStand_82 (by decide) (by with_reducible rfl) (by with_reducible rfl) (by omega) (by omega) (fun c82 => ?_) (fun c82 => ?_) | refine V_icmp_ge (tgt := 106) dX10_mayStand_82 (by decide) (fun c82 => ?_) (fun c82 => ?_)
          · skip
            omega
          · skip
            refine V_aloadn0 dX10_mayStand_85 ?_
            refine V_getR dX10_mayStand_86 fX10_59 (by first | assumption | rfl) (by first | decide | omega) (by first | assumption | exact ML_4 (by assumption) | exact ML_5 (by assumption) | exact ML_6 (by assumption) | exact ML_7 (by assumption) | exact ML_8 (by assumption) | exact ML_9 (by assumption) | exact ML_10 (by assumption) | exact ML_11 (by assumption) | exact ML_12 (by assumption) | exact ML_13 (by assumption) | exact ML_15 (by assumption) | exact ML_16 (by assumption) | exact ML_17 (by assumption) | exact ML_20 (by assumption) | exact ML_23 (by assumption) | exact ML_24 (by assumption) | exact ML_30 (by assumption) | exact ML_31 (by assumption) | exact ML_32 (by assumption) | exact ML_33 (by assumption) | exact ML_35 (by assumption) | exact ML_36 (by assumption) | exact ML_37 (by assumption) | exact ML_38 (by assumption) | exact ML_41 (by assumption) | exact ML_42 (by assumption) | exact ML_43 (by assumption) | exact ML_44 (by assumption) | exact ML_45 (by assumption) | rfl) ?_
            refine V_bipush (v := nI 6) dX10_mayStand_89 (by decide) ?_
            refine V_iloadn2 dX10_mayStand_91 ?_
            refine V_iconst (v := nI 1) dX10_mayStand_92 (by decide) ?_
            first | refine U_isub dX10_mayStand_93 (by with_reducible rfl) (by with_reducible rfl) (by omega) ?_ | refine V_isub dX10_mayStand_93 ?_
            first | refine U_imul dX10_mayStand_94 (by with_reducible rfl) (by with_reducible rfl) ?_ | refine V_imul dX10_mayStand_94 ?_
            refine V_iloadn3 dX10_mayStand_95 ?_
            first | refine U_iadd dX10_mayStand_96 (by with_reducible rfl) (by with_reducible rfl) ?_ | refine V_iadd dX10_mayStand_96 ?_
            refine U_iald dX10_mayStand_97 (by with_reducible rfl) (by first | assumption | rfl) (by first | decide | omega) (by omega) (by first | assumption | exact ML_4 (by assumption) | exact ML_5 (by assumption) | exact ML_6 (by assumption) | exact ML_7 (by assumption) | exact ML_8 (by assumption) | exact ML_9 (by assumption) | exact ML_10 (by assumption) | exact ML_11 (by assumption) | exact ML_12 (by assumption) | exact ML_13 (by assumption) | exact ML_15 (by assumption) | exact ML_16 (by assumption) | exact ML_17 (by assumption) | exact ML_20 (by assumption) | exact ML_23 (by assumption) | exact ML_24 (by assumption) | exact ML_30 (by assumption) | exact ML_31 (by assumption) | exact ML_32 (by assumption) | exact ML_33 (by assumption) | exact ML_35 (by assumption) | exact ML_36 (by assumption) | exact ML_37 (by assumption) | exact ML_38 (by assumption) | exact ML_41 (by assumption) | exact ML_42 (by assumption) | exact ML_43 (by assumption) | exact ML_44 (by assumption) | exact ML_45 (by assumption) | rfl) ?_
            refine V_iloadn1 dX10_mayStand_98 ?_
            first | refine U_icmp_ge (tgt := 106) dX10_mayStand_99 (by decide) (by with_reducible rfl) (by with_reducible rfl) (by omega) (by omega) (fun c99 => ?_) (fun c99 => ?_) | refine V_icmp_ge (tgt := 106) dX10_mayStand_99 (by decide) (fun c99 => ?_) (fun c99 => ?_)
            · skip
              rw [decide_eq_false (by omega)] at hQ
              refine V_iconst (v := nI 0) dX10_mayStand_106 (by decide) ?_
              refine V_iret dX10_mayStand_107 rfl (by first | exact gBo_nar _ | rfl | decide) ?_
              exact hQ
            · skip
              rw [decide_eq_true (by omega)] at hQ
              refine V_iconst (v := nI 1) dX10_mayStand_102 (by decide) ?_
              refine V_goto (tgt := 107) dX10_mayStand_103 (by decide) ?_
              refine V_iret dX10_mayStand_107 rfl (by first | exact gBo_nar _ | rfl | decide) ?_
              exact hQ
      · rw [decide_eq_false hc, Bool.false_and] at hQ
        refine V_iloadn2 dX10_mayStand_69 ?_
        first | refine U_ifB_eq (tgt := 102) dX10_mayStand_70 (by decide) (by with_reducible rfl) (fun c70 => ?_) (fun c70 => ?_) | refine U_if_eq (tgt := 102) dX10_mayStand_70 (by decide) (by with_reducible rfl) (by omega) (fun c70 => ?_) (fun c70 => ?_) | refine V_if_eq (tgt := 102) dX10_mayStand_70 (by decide) (fun c70 => ?_) (fun c70 => ?_)
        · skip
          omega
        · skip
          refine V_iloadn3 dX10_mayStand_73 ?_
          refine V_aloadn0 dX10_mayStand_74 ?_
          refine V_getR dX10_mayStand_75 fX10_50 (by first | assumption | rfl) (by first | decide | omega) (by first | assumption | exact ML_4 (by assumption) | exact ML_5 (by assumption) | exact ML_6 (by assumption) | exact ML_7 (by assumption) | exact ML_8 (by assumption) | exact ML_9 (by assumption) | exact ML_10 (by assumption) | exact ML_11 (by assumption) | exact ML_12 (by assumption) | exact ML_13 (by assumption) | exact ML_15 (by assumption) | exact ML_16 (by assumption) | exact ML_17 (by assumption) | exact ML_20 (by assumption) | exact ML_23 (by assumption) | exact ML_24 (by assumption) | exact ML_30 (by assumption) | exact ML_31 (by assumption) | exact ML_32 (by assumption) | exact ML_33 (by assumption) | exact ML_35 (by assumption) | exact ML_36 (by assumption) | exact ML_37 (by assumption) | exact ML_38 (by assumption) | exact ML_41 (by assumption) | exact ML_42 (by assumption) | exact ML_43 (by assumption) | exact ML_44 (by assumption) | exact ML_45 (by assumption) | rfl) ?_
          refine V_iloadn2 dX10_mayStand_78 ?_
          refine V_iconst (v := nI 1) dX10_mayStand_79 (by decide) ?_
          first | refine U_isub dX10_mayStand_80 (by with_reducible rfl) (by with_reducible rfl) (by omega) ?_ | refine V_isub dX10_mayStand_80 ?_
          refine U_iald dX10_mayStand_81 (by with_reducible rfl) (by first | assumption | rfl) (by first | decide | omega) (by omega) (by first | assumption | exact ML_4 (by assumption) | exact ML_5 (by assumption) | exact ML_6 (by assumption) | exact ML_7 (by assumption) | exact ML_8 (by assumption) | exact ML_9 (by assumption) | exact ML_10 (by assumption) | exact ML_11 (by assumption) | exact ML_12 (by assumption) | exact ML_13 (by assumption) | exact ML_15 (by assumption) | exact ML_16 (by assumption) | exact ML_17 (by assumption) | exact ML_20 (by assumption) | exact ML_23 (by assumption) | exact ML_24 (by assumption) | exact ML_30 (by assumption) | exact ML_31 (by assumption) | exact ML_32 (by assumption) | exact ML_33 (by assumption) | exact ML_35 (by assumption) | exact ML_36 (by assumption) | exact ML_37 (by assumption) | exact ML_38 (by assumption) | exact ML_41 (by assumption) | exact ML_42 (by assumption) | exact ML_43 (by assumption) | exact ML_44 (by assumption) | exact ML_45 (by assumption) | rfl) ?_
          first | refine U_icmp_ge (tgt := 106) dX10_mayStand_82 (by decide) (by with_reducible rfl) (by with_reducible rfl) (by omega) (by omega) (fun c82 => ?_) (fun c82 => ?_) | refine V_icmp_ge (tgt := 106) dX10_mayStand_82 (by decide) (fun c82 => ?_) (fun c82 => ?_)
          · skip
            refine V_iconst (v := nI 0) dX10_mayStand_106 (by decide) ?_
            refine V_iret dX10_mayStand_107 rfl (by first | exact gBo_nar _ | rfl | decide) ?_
            exact hQ
          · skip
            omega
  by_cases hl6 : (P.getD r []).length < 6
  · by_cases hl0 : (P.getD r []).length = 0
    · skip
      refine V_iloadn1 dX10_mayStand_0 ?_
      refine V_iconst (v := nI 1) dX10_mayStand_1 (by decide) ?_
      refine V_aloadn0 dX10_mayStand_2 ?_
      refine V_getI dX10_mayStand_3 fX10_7 (Or.inl rfl) (by first | assumption | rfl) (by first | decide | omega) (by first | assumption | exact ML_4 (by assumption) | exact ML_5 (by assumption) | exact ML_6 (by assumption) | exact ML_7 (by assumption) | exact ML_8 (by assumption) | exact ML_9 (by assumption) | exact ML_10 (by assumption) | exact ML_11 (by assumption) | exact ML_12 (by assumption) | exact ML_13 (by assumption) | exact ML_15 (by assumption) | exact ML_16 (by assumption) | exact ML_17 (by assumption) | exact ML_20 (by assumption) | exact ML_23 (by assumption) | exact ML_24 (by assumption) | exact ML_30 (by assumption) | exact ML_31 (by assumption) | exact ML_32 (by assumption) | exact ML_33 (by assumption) | exact ML_35 (by assumption) | exact ML_36 (by assumption) | exact ML_37 (by assumption) | exact ML_38 (by assumption) | exact ML_41 (by assumption) | exact ML_42 (by assumption) | exact ML_43 (by assumption) | exact ML_44 (by assumption) | exact ML_45 (by assumption) | rfl) ?_
      refine V_callS3 (μ' := mX10_in) dX10_mayStand_6 okX10_in lX10_104 (Nat.le_of_ble_eq_true rfl) (Nat.le_of_ble_eq_true rfl) (by omega) ?_
      refine m_inR ?_
      rw [hin]
      dsimp only [gPush]
      first | refine U_ifB_eq (tgt := 28) dX10_mayStand_9 (by decide) (by with_reducible rfl) (fun c9 => ?_) (fun c9 => ?_) | refine U_if_eq (tgt := 28) dX10_mayStand_9 (by decide) (by with_reducible rfl) (by omega) (fun c9 => ?_) (fun c9 => ?_) | refine V_if_eq (tgt := 28) dX10_mayStand_9 (by decide) (fun c9 => ?_) (fun c9 => ?_)
      · skip
        cases c9
      · skip
        refine V_iloadn2 dX10_mayStand_12 ?_
        refine V_bipush (v := nI 6) dX10_mayStand_13 (by decide) ?_
        first | refine U_icmp_ge (tgt := 28) dX10_mayStand_15 (by decide) (by with_reducible rfl) (by with_reducible rfl) (by omega) (by omega) (fun c15 => ?_) (fun c15 => ?_) | refine V_icmp_ge (tgt := 28) dX10_mayStand_15 (by decide) (fun c15 => ?_) (fun c15 => ?_)
        · skip
          omega
        · skip
          refine V_iloadn3 dX10_mayStand_18 ?_
          refine V_bipush (v := nI 6) dX10_mayStand_19 (by decide) ?_
          first | refine U_icmp_ge (tgt := 28) dX10_mayStand_21 (by decide) (by with_reducible rfl) (by with_reducible rfl) (by omega) (by omega) (fun c21 => ?_) (fun c21 => ?_) | refine V_icmp_ge (tgt := 28) dX10_mayStand_21 (by decide) (fun c21 => ?_) (fun c21 => ?_)
          · skip
            omega
          · skip
            refine V_iconst (v := nI 1) dX10_mayStand_24 (by decide) ?_
            refine V_goto (tgt := 29) dX10_mayStand_25 (by decide) ?_
            refine V_istorew4 dX10_mayStand_29 (by decide) rfl ?_
            refine V_iloadw4 dX10_mayStand_31 ?_
            first | refine U_ifB_eq (tgt := 61) dX10_mayStand_33 (by decide) (by with_reducible rfl) (fun c33 => ?_) (fun c33 => ?_) | refine U_if_eq (tgt := 61) dX10_mayStand_33 (by decide) (by with_reducible rfl) (by omega) (fun c33 => ?_) (fun c33 => ?_) | refine V_if_eq (tgt := 61) dX10_mayStand_33 (by decide) (fun c33 => ?_) (fun c33 => ?_)
            · skip
              omega
            · skip
              refine V_iloadn3 dX10_mayStand_36 ?_
              first | refine U_ifB_eq (tgt := 57) dX10_mayStand_37 (by decide) (by with_reducible rfl) (fun c37 => ?_) (fun c37 => ?_) | refine U_if_eq (tgt := 57) dX10_mayStand_37 (by decide) (by with_reducible rfl) (by omega) (fun c37 => ?_) (fun c37 => ?_) | refine V_if_eq (tgt := 57) dX10_mayStand_37 (by decide) (fun c37 => ?_) (fun c37 => ?_)
              · skip
                refine V_iconst (v := nI 1) dX10_mayStand_57 (by decide) ?_
                refine V_goto (tgt := 62) dX10_mayStand_58 (by decide) ?_
                refine V_istorew4 dX10_mayStand_62 (by decide) rfl ?_
                refine V_iloadw4 dX10_mayStand_64 ?_
                first | refine U_ifB_eq (tgt := 106) dX10_mayStand_66 (by decide) (by with_reducible rfl) (fun c66 => ?_) (fun c66 => ?_) | refine U_if_eq (tgt := 106) dX10_mayStand_66 (by decide) (by with_reducible rfl) (by omega) (fun c66 => ?_) (fun c66 => ?_) | refine V_if_eq (tgt := 106) dX10_mayStand_66 (by decide) (fun c66 => ?_) (fun c66 => ?_)
                · skip
                  omega
                · skip
                  exact third _ (by rw [decide_eq_true hl6, decide_eq_true hl0]; rfl)
              · skip
                omega
    · have g109 : gI h 109 (6 * r + (P.getD r []).length - 1) = nI ((P.getD r []).getD ((P.getD r []).length - 1) 0) := by
        have := a2 r ((P.getD r []).length - 1) hr (by omega)
        rw [show 6 * r + ((P.getD r []).length - 1) = 6 * r + (P.getD r []).length - 1 by omega] at this
        exact this
      have h9 := a5 r ((P.getD r []).length - 1)
      by_cases hle : (P.getD r []).getD ((P.getD r []).length - 1) 0 ≤ y
      · skip
        refine V_iloadn1 dX10_mayStand_0 ?_
        refine V_iconst (v := nI 1) dX10_mayStand_1 (by decide) ?_
        refine V_aloadn0 dX10_mayStand_2 ?_
        refine V_getI dX10_mayStand_3 fX10_7 (Or.inl rfl) (by first | assumption | rfl) (by first | decide | omega) (by first | assumption | exact ML_4 (by assumption) | exact ML_5 (by assumption) | exact ML_6 (by assumption) | exact ML_7 (by assumption) | exact ML_8 (by assumption) | exact ML_9 (by assumption) | exact ML_10 (by assumption) | exact ML_11 (by assumption) | exact ML_12 (by assumption) | exact ML_13 (by assumption) | exact ML_15 (by assumption) | exact ML_16 (by assumption) | exact ML_17 (by assumption) | exact ML_20 (by assumption) | exact ML_23 (by assumption) | exact ML_24 (by assumption) | exact ML_30 (by assumption) | exact ML_31 (by assumption) | exact ML_32 (by assumption) | exact ML_33 (by assumption) | exact ML_35 (by assumption) | exact ML_36 (by assumption) | exact ML_37 (by assumption) | exact ML_38 (by assumption) | exact ML_41 (by assumption) | exact ML_42 (by assumption) | exact ML_43 (by assumption) | exact ML_44 (by assumption) | exact ML_45 (by assumption) | rfl) ?_
        refine V_callS3 (μ' := mX10_in) dX10_mayStand_6 okX10_in lX10_104 (Nat.le_of_ble_eq_true rfl) (Nat.le_of_ble_eq_true rfl) (by omega) ?_
        refine m_inR ?_
        rw [hin]
        dsimp only [gPush]
        first | refine U_ifB_eq (tgt := 28) dX10_mayStand_9 (by decide) (by with_reducible rfl) (fun c9 => ?_) (fun c9 => ?_) | refine U_if_eq (tgt := 28) dX10_mayStand_9 (by decide) (by with_reducible rfl) (by omega) (fun c9 => ?_) (fun c9 => ?_) | refine V_if_eq (tgt := 28) dX10_mayStand_9 (by decide) (fun c9 => ?_) (fun c9 => ?_)
        · skip
          cases c9
        · skip
          refine V_iloadn2 dX10_mayStand_12 ?_
          refine V_bipush (v := nI 6) dX10_mayStand_13 (by decide) ?_
          first | refine U_icmp_ge (tgt := 28) dX10_mayStand_15 (by decide) (by with_reducible rfl) (by with_reducible rfl) (by omega) (by omega) (fun c15 => ?_) (fun c15 => ?_) | refine V_icmp_ge (tgt := 28) dX10_mayStand_15 (by decide) (fun c15 => ?_) (fun c15 => ?_)
          · skip
            omega
          · skip
            refine V_iloadn3 dX10_mayStand_18 ?_
            refine V_bipush (v := nI 6) dX10_mayStand_19 (by decide) ?_
            first | refine U_icmp_ge (tgt := 28) dX10_mayStand_21 (by decide) (by with_reducible rfl) (by with_reducible rfl) (by omega) (by omega) (fun c21 => ?_) (fun c21 => ?_) | refine V_icmp_ge (tgt := 28) dX10_mayStand_21 (by decide) (fun c21 => ?_) (fun c21 => ?_)
            · skip
              omega
            · skip
              refine V_iconst (v := nI 1) dX10_mayStand_24 (by decide) ?_
              refine V_goto (tgt := 29) dX10_mayStand_25 (by decide) ?_
              refine V_istorew4 dX10_mayStand_29 (by decide) rfl ?_
              refine V_iloadw4 dX10_mayStand_31 ?_
              first | refine U_ifB_eq (tgt := 61) dX10_mayStand_33 (by decide) (by with_reducible rfl) (fun c33 => ?_) (fun c33 => ?_) | refine U_if_eq (tgt := 61) dX10_mayStand_33 (by decide) (by with_reducible rfl) (by omega) (fun c33 => ?_) (fun c33 => ?_) | refine V_if_eq (tgt := 61) dX10_mayStand_33 (by decide) (fun c33 => ?_) (fun c33 => ?_)
              · skip
                omega
              · skip
                refine V_iloadn3 dX10_mayStand_36 ?_
                first | refine U_ifB_eq (tgt := 57) dX10_mayStand_37 (by decide) (by with_reducible rfl) (fun c37 => ?_) (fun c37 => ?_) | refine U_if_eq (tgt := 57) dX10_mayStand_37 (by decide) (by with_reducible rfl) (by omega) (fun c37 => ?_) (fun c37 => ?_) | refine V_if_eq (tgt := 57) dX10_mayStand_37 (by decide) (fun c37 => ?_) (fun c37 => ?_)
                · skip
                  omega
                · skip
                  refine V_aloadn0 dX10_mayStand_40 ?_
                  refine V_getR dX10_mayStand_41 fX10_59 (by first | assumption | rfl) (by first | decide | omega) (by first | assumption | exact ML_4 (by assumption) | exact ML_5 (by assumption) | exact ML_6 (by assumption) | exact ML_7 (by assumption) | exact ML_8 (by assumption) | exact ML_9 (by assumption) | exact ML_10 (by assumption) | exact ML_11 (by assumption) | exact ML_12 (by assumption) | exact ML_13 (by assumption) | exact ML_15 (by assumption) | exact ML_16 (by assumption) | exact ML_17 (by assumption) | exact ML_20 (by assumption) | exact ML_23 (by assumption) | exact ML_24 (by assumption) | exact ML_30 (by assumption) | exact ML_31 (by assumption) | exact ML_32 (by assumption) | exact ML_33 (by assumption) | exact ML_35 (by assumption) | exact ML_36 (by assumption) | exact ML_37 (by assumption) | exact ML_38 (by assumption) | exact ML_41 (by assumption) | exact ML_42 (by assumption) | exact ML_43 (by assumption) | exact ML_44 (by assumption) | exact ML_45 (by assumption) | rfl) ?_
                  refine V_bipush (v := nI 6) dX10_mayStand_44 (by decide) ?_
                  refine V_iloadn2 dX10_mayStand_46 ?_
                  first | refine U_imul dX10_mayStand_47 (by with_reducible rfl) (by with_reducible rfl) ?_ | refine V_imul dX10_mayStand_47 ?_
                  refine V_iloadn3 dX10_mayStand_48 ?_
                  first | refine U_iadd dX10_mayStand_49 (by with_reducible rfl) (by with_reducible rfl) ?_ | refine V_iadd dX10_mayStand_49 ?_
                  refine V_iconst (v := nI 1) dX10_mayStand_50 (by decide) ?_
                  first | refine U_isub dX10_mayStand_51 (by with_reducible rfl) (by with_reducible rfl) (by omega) ?_ | refine V_isub dX10_mayStand_51 ?_
                  refine U_iald dX10_mayStand_52 (by with_reducible rfl) (by first | assumption | rfl) (by first | decide | omega) (by omega) (by first | assumption | exact ML_4 (by assumption) | exact ML_5 (by assumption) | exact ML_6 (by assumption) | exact ML_7 (by assumption) | exact ML_8 (by assumption) | exact ML_9 (by assumption) | exact ML_10 (by assumption) | exact ML_11 (by assumption) | exact ML_12 (by assumption) | exact ML_13 (by assumption) | exact ML_15 (by assumption) | exact ML_16 (by assumption) | exact ML_17 (by assumption) | exact ML_20 (by assumption) | exact ML_23 (by assumption) | exact ML_24 (by assumption) | exact ML_30 (by assumption) | exact ML_31 (by assumption) | exact ML_32 (by assumption) | exact ML_33 (by assumption) | exact ML_35 (by assumption) | exact ML_36 (by assumption) | exact ML_37 (by assumption) | exact ML_38 (by assumption) | exact ML_41 (by assumption) | exact ML_42 (by assumption) | exact ML_43 (by assumption) | exact ML_44 (by assumption) | exact ML_45 (by assumption) | rfl) ?_
                  refine V_iloadn1 dX10_mayStand_53 ?_
                  first | refine U_icmp_gt (tgt := 61) dX10_mayStand_54 (by decide) (by with_reducible rfl) (by with_reducible rfl) (by omega) (by omega) (fun c54 => ?_) (fun c54 => ?_) | refine V_icmp_gt (tgt := 61) dX10_mayStand_54 (by decide) (fun c54 => ?_) (fun c54 => ?_)
                  · skip
                    omega
                  · skip
                    refine V_iconst (v := nI 1) dX10_mayStand_57 (by decide) ?_
                    refine V_goto (tgt := 62) dX10_mayStand_58 (by decide) ?_
                    refine V_istorew4 dX10_mayStand_62 (by decide) rfl ?_
                    refine V_iloadw4 dX10_mayStand_64 ?_
                    first | refine U_ifB_eq (tgt := 106) dX10_mayStand_66 (by decide) (by with_reducible rfl) (fun c66 => ?_) (fun c66 => ?_) | refine U_if_eq (tgt := 106) dX10_mayStand_66 (by decide) (by with_reducible rfl) (by omega) (fun c66 => ?_) (fun c66 => ?_) | refine V_if_eq (tgt := 106) dX10_mayStand_66 (by decide) (fun c66 => ?_) (fun c66 => ?_)
                    · skip
                      omega
                    · skip
                      exact third _ (by rw [decide_eq_true hl6, decide_eq_true hle, Bool.or_true]; rfl)
      · rw [decide_eq_true hl6, decide_eq_false hl0, decide_eq_false hle, Bool.false_or, Bool.false_and, Bool.true_and] at hQ
        refine V_iloadn1 dX10_mayStand_0 ?_
        refine V_iconst (v := nI 1) dX10_mayStand_1 (by decide) ?_
        refine V_aloadn0 dX10_mayStand_2 ?_
        refine V_getI dX10_mayStand_3 fX10_7 (Or.inl rfl) (by first | assumption | rfl) (by first | decide | omega) (by first | assumption | exact ML_4 (by assumption) | exact ML_5 (by assumption) | exact ML_6 (by assumption) | exact ML_7 (by assumption) | exact ML_8 (by assumption) | exact ML_9 (by assumption) | exact ML_10 (by assumption) | exact ML_11 (by assumption) | exact ML_12 (by assumption) | exact ML_13 (by assumption) | exact ML_15 (by assumption) | exact ML_16 (by assumption) | exact ML_17 (by assumption) | exact ML_20 (by assumption) | exact ML_23 (by assumption) | exact ML_24 (by assumption) | exact ML_30 (by assumption) | exact ML_31 (by assumption) | exact ML_32 (by assumption) | exact ML_33 (by assumption) | exact ML_35 (by assumption) | exact ML_36 (by assumption) | exact ML_37 (by assumption) | exact ML_38 (by assumption) | exact ML_41 (by assumption) | exact ML_42 (by assumption) | exact ML_43 (by assumption) | exact ML_44 (by assumption) | exact ML_45 (by assumption) | rfl) ?_
        refine V_callS3 (μ' := mX10_in) dX10_mayStand_6 okX10_in lX10_104 (Nat.le_of_ble_eq_true rfl) (Nat.le_of_ble_eq_true rfl) (by omega) ?_
        refine m_inR ?_
        rw [hin]
        dsimp only [gPush]
        first | refine U_ifB_eq (tgt := 28) dX10_mayStand_9 (by decide) (by with_reducible rfl) (fun c9 => ?_) (fun c9 => ?_) | refine U_if_eq (tgt := 28) dX10_mayStand_9 (by decide) (by with_reducible rfl) (by omega) (fun c9 => ?_) (fun c9 => ?_) | refine V_if_eq (tgt := 28) dX10_mayStand_9 (by decide) (fun c9 => ?_) (fun c9 => ?_)
        · skip
          cases c9
        · skip
          refine V_iloadn2 dX10_mayStand_12 ?_
          refine V_bipush (v := nI 6) dX10_mayStand_13 (by decide) ?_
          first | refine U_icmp_ge (tgt := 28) dX10_mayStand_15 (by decide) (by with_reducible rfl) (by with_reducible rfl) (by omega) (by omega) (fun c15 => ?_) (fun c15 => ?_) | refine V_icmp_ge (tgt := 28) dX10_mayStand_15 (by decide) (fun c15 => ?_) (fun c15 => ?_)
          · skip
            omega
          · skip
            refine V_iloadn3 dX10_mayStand_18 ?_
            refine V_bipush (v := nI 6) dX10_mayStand_19 (by decide) ?_
            first | refine U_icmp_ge (tgt := 28) dX10_mayStand_21 (by decide) (by with_reducible rfl) (by with_reducible rfl) (by omega) (by omega) (fun c21 => ?_) (fun c21 => ?_) | refine V_icmp_ge (tgt := 28) dX10_mayStand_21 (by decide) (fun c21 => ?_) (fun c21 => ?_)
            · skip
              omega
            · skip
              refine V_iconst (v := nI 1) dX10_mayStand_24 (by decide) ?_
              refine V_goto (tgt := 29) dX10_mayStand_25 (by decide) ?_
              refine V_istorew4 dX10_mayStand_29 (by decide) rfl ?_
              refine V_iloadw4 dX10_mayStand_31 ?_
              first | refine U_ifB_eq (tgt := 61) dX10_mayStand_33 (by decide) (by with_reducible rfl) (fun c33 => ?_) (fun c33 => ?_) | refine U_if_eq (tgt := 61) dX10_mayStand_33 (by decide) (by with_reducible rfl) (by omega) (fun c33 => ?_) (fun c33 => ?_) | refine V_if_eq (tgt := 61) dX10_mayStand_33 (by decide) (fun c33 => ?_) (fun c33 => ?_)
              · skip
                omega
              · skip
                refine V_iloadn3 dX10_mayStand_36 ?_
                first | refine U_ifB_eq (tgt := 57) dX10_mayStand_37 (by decide) (by with_reducible rfl) (fun c37 => ?_) (fun c37 => ?_) | refine U_if_eq (tgt := 57) dX10_mayStand_37 (by decide) (by with_reducible rfl) (by omega) (fun c37 => ?_) (fun c37 => ?_) | refine V_if_eq (tgt := 57) dX10_mayStand_37 (by decide) (fun c37 => ?_) (fun c37 => ?_)
                · skip
                  omega
                · skip
                  refine V_aloadn0 dX10_mayStand_40 ?_
                  refine V_getR dX10_mayStand_41 fX10_59 (by first | assumption | rfl) (by first | decide | omega) (by first | assumption | exact ML_4 (by assumption) | exact ML_5 (by assumption) | exact ML_6 (by assumption) | exact ML_7 (by assumption) | exact ML_8 (by assumption) | exact ML_9 (by assumption) | exact ML_10 (by assumption) | exact ML_11 (by assumption) | exact ML_12 (by assumption) | exact ML_13 (by assumption) | exact ML_15 (by assumption) | exact ML_16 (by assumption) | exact ML_17 (by assumption) | exact ML_20 (by assumption) | exact ML_23 (by assumption) | exact ML_24 (by assumption) | exact ML_30 (by assumption) | exact ML_31 (by assumption) | exact ML_32 (by assumption) | exact ML_33 (by assumption) | exact ML_35 (by assumption) | exact ML_36 (by assumption) | exact ML_37 (by assumption) | exact ML_38 (by assumption) | exact ML_41 (by assumption) | exact ML_42 (by assumption) | exact ML_43 (by assumption) | exact ML_44 (by assumption) | exact ML_45 (by assumption) | rfl) ?_
                  refine V_bipush (v := nI 6) dX10_mayStand_44 (by decide) ?_
                  refine V_iloadn2 dX10_mayStand_46 ?_
                  first | refine U_imul dX10_mayStand_47 (by with_reducible rfl) (by with_reducible rfl) ?_ | refine V_imul dX10_mayStand_47 ?_
                  refine V_iloadn3 dX10_mayStand_48 ?_
                  first | refine U_iadd dX10_mayStand_49 (by with_reducible rfl) (by with_reducible rfl) ?_ | refine V_iadd dX10_mayStand_49 ?_
                  refine V_iconst (v := nI 1) dX10_mayStand_50 (by decide) ?_
                  first | refine U_isub dX10_mayStand_51 (by with_reducible rfl) (by with_reducible rfl) (by omega) ?_ | refine V_isub dX10_mayStand_51 ?_
                  refine U_iald dX10_mayStand_52 (by with_reducible rfl) (by first | assumption | rfl) (by first | decide | omega) (by omega) (by first | assumption | exact ML_4 (by assumption) | exact ML_5 (by assumption) | exact ML_6 (by assumption) | exact ML_7 (by assumption) | exact ML_8 (by assumption) | exact ML_9 (by assumption) | exact ML_10 (by assumption) | exact ML_11 (by assumption) | exact ML_12 (by assumption) | exact ML_13 (by assumption) | exact ML_15 (by assumption) | exact ML_16 (by assumption) | exact ML_17 (by assumption) | exact ML_20 (by assumption) | exact ML_23 (by assumption) | exact ML_24 (by assumption) | exact ML_30 (by assumption) | exact ML_31 (by assumption) | exact ML_32 (by assumption) | exact ML_33 (by assumption) | exact ML_35 (by assumption) | exact ML_36 (by assumption) | exact ML_37 (by assumption) | exact ML_38 (by assumption) | exact ML_41 (by assumption) | exact ML_42 (by assumption) | exact ML_43 (by assumption) | exact ML_44 (by assumption) | exact ML_45 (by assumption) | rfl) ?_
                  refine V_iloadn1 dX10_mayStand_53 ?_
                  first | refine U_icmp_gt (tgt := 61) dX10_mayStand_54 (by decide) (by with_reducible rfl) (by with_reducible rfl) (by omega) (by omega) (fun c54 => ?_) (fun c54 => ?_) | refine V_icmp_gt (tgt := 61) dX10_mayStand_54 (by decide) (fun c54 => ?_) (fun c54 => ?_)
                  · skip
                    refine V_iconst (v := nI 0) dX10_mayStand_61 (by decide) ?_
                    refine V_istorew4 dX10_mayStand_62 (by decide) rfl ?_
                    refine V_iloadw4 dX10_mayStand_64 ?_
                    first | refine U_ifB_eq (tgt := 106) dX10_mayStand_66 (by decide) (by with_reducible rfl) (fun c66 => ?_) (fun c66 => ?_) | refine U_if_eq (tgt := 106) dX10_mayStand_66 (by decide) (by with_reducible rfl) (by omega) (fun c66 => ?_) (fun c66 => ?_) | refine V_if_eq (tgt := 106) dX10_mayStand_66 (by decide) (fun c66 => ?_) (fun c66 => ?_)
                    · skip
                      refine V_iconst (v := nI 0) dX10_mayStand_106 (by decide) ?_
                      refine V_iret dX10_mayStand_107 rfl (by first | exact gBo_nar _ | rfl | decide) ?_
                      exact hQ
                    · skip
                      omega
                  · skip
                    omega
  · rw [decide_eq_false hl6, Bool.false_and] at hQ
    refine V_iloadn1 dX10_mayStand_0 ?_
    refine V_iconst (v := nI 1) dX10_mayStand_1 (by decide) ?_
    refine V_aloadn0 dX10_mayStand_2 ?_
    refine V_getI dX10_mayStand_3 fX10_7 (Or.inl rfl) (by first | assumption | rfl) (by first | decide | omega) (by first | assumption | exact ML_4 (by assumption) | exact ML_5 (by assumption) | exact ML_6 (by assumption) | exact ML_7 (by assumption) | exact ML_8 (by assumption) | exact ML_9 (by assumption) | exact ML_10 (by assumption) | exact ML_11 (by assumption) | exact ML_12 (by assumption) | exact ML_13 (by assumption) | exact ML_15 (by assumption) | exact ML_16 (by assumption) | exact ML_17 (by assumption) | exact ML_20 (by assumption) | exact ML_23 (by assumption) | exact ML_24 (by assumption) | exact ML_30 (by assumption) | exact ML_31 (by assumption) | exact ML_32 (by assumption) | exact ML_33 (by assumption) | exact ML_35 (by assumption) | exact ML_36 (by assumption) | exact ML_37 (by assumption) | exact ML_38 (by assumption) | exact ML_41 (by assumption) | exact ML_42 (by assumption) | exact ML_43 (by assumption) | exact ML_44 (by assumption) | exact ML_45 (by assumption) | rfl) ?_
    refine V_callS3 (μ' := mX10_in) dX10_mayStand_6 okX10_in lX10_104 (Nat.le_of_ble_eq_true rfl) (Nat.le_of_ble_eq_true rfl) (by omega) ?_
    refine m_inR ?_
    rw [hin]
    dsimp only [gPush]
    first | refine U_ifB_eq (tgt := 28) dX10_mayStand_9 (by decide) (by with_reducible rfl) (fun c9 => ?_) (fun c9 => ?_) | refine U_if_eq (tgt := 28) dX10_mayStand_9 (by decide) (by with_reducible rfl) (by omega) (fun c9 => ?_) (fun c9 => ?_) | refine V_if_eq (tgt := 28) dX10_mayStand_9 (by decide) (fun c9 => ?_) (fun c9 => ?_)
    · skip
      cases c9
    · skip
      refine V_iloadn2 dX10_mayStand_12 ?_
      refine V_bipush (v := nI 6) dX10_mayStand_13 (by decide) ?_
      first | refine U_icmp_ge (tgt := 28) dX10_mayStand_15 (by decide) (by with_reducible rfl) (by with_reducible rfl) (by omega) (by omega) (fun c15 => ?_) (fun c15 => ?_) | refine V_icmp_ge (tgt := 28) dX10_mayStand_15 (by decide) (fun c15 => ?_) (fun c15 => ?_)
      · skip
        omega
      · skip
        refine V_iloadn3 dX10_mayStand_18 ?_
        refine V_bipush (v := nI 6) dX10_mayStand_19 (by decide) ?_
        first | refine U_icmp_ge (tgt := 28) dX10_mayStand_21 (by decide) (by with_reducible rfl) (by with_reducible rfl) (by omega) (by omega) (fun c21 => ?_) (fun c21 => ?_) | refine V_icmp_ge (tgt := 28) dX10_mayStand_21 (by decide) (fun c21 => ?_) (fun c21 => ?_)
        · skip
          refine V_iconst (v := nI 0) dX10_mayStand_28 (by decide) ?_
          refine V_istorew4 dX10_mayStand_29 (by decide) rfl ?_
          refine V_iloadw4 dX10_mayStand_31 ?_
          first | refine U_ifB_eq (tgt := 61) dX10_mayStand_33 (by decide) (by with_reducible rfl) (fun c33 => ?_) (fun c33 => ?_) | refine U_if_eq (tgt := 61) dX10_mayStand_33 (by decide) (by with_reducible rfl) (by omega) (fun c33 => ?_) (fun c33 => ?_) | refine V_if_eq (tgt := 61) dX10_mayStand_33 (by decide) (fun c33 => ?_) (fun c33 => ?_)
          · skip
            refine V_iconst (v := nI 0) dX10_mayStand_61 (by decide) ?_
            refine V_istorew4 dX10_mayStand_62 (by decide) rfl ?_
            refine V_iloadw4 dX10_mayStand_64 ?_
            first | refine U_ifB_eq (tgt := 106) dX10_mayStand_66 (by decide) (by with_reducible rfl) (fun c66 => ?_) (fun c66 => ?_) | refine U_if_eq (tgt := 106) dX10_mayStand_66 (by decide) (by with_reducible rfl) (by omega) (fun c66 => ?_) (fun c66 => ?_) | refine V_if_eq (tgt := 106) dX10_mayStand_66 (by decide) (fun c66 => ?_) (fun c66 => ?_)
            · skip
              refine V_iconst (v := nI 0) dX10_mayStand_106 (by decide) ?_
              refine V_iret dX10_mayStand_107 rfl (by first | exact gBo_nar _ | rfl | decide) ?_
              exact hQ
            · skip
              omega
          · skip
            omega
        · skip
          omega

set_option maxRecDepth 100000 in
set_option maxHeartbeats 4000000 in
theorem m_tableau {x : Int32} (hd : 3 ≤ d) (hR : RM h S) (hWG : WG S) (hQ : ∀ h', RM h' (f_tableau S x).2 → FrD h h' → Q (some (.int (f_tableau S x).1)) h') : V Γ mX10_tableau d 124 124 h 0 [some (.ref 94), some (.int x), none, none, none, none] [] Q := by
  obtain ⟨hM, ⟨r0, r1, rT, rW⟩, rK, rK2, rB, rS⟩ := id hR
  obtain ⟨hWS, hWK, hWB, hWX⟩ := id hWG
  have hn2 := hWS.1
  have hn5 := hWS.2.1
  cases hg : inB x 6 with
  | false =>
    have eq0 : f_tableau S x = (-1, S) := if_f hg
    rw [eq0] at hQ
    refine V_iloadn1 dX10_tableau_0 ?_
    refine V_callS1 (μ' := mX10_isSlot) dX10_tableau_1 okX10_isSlot lX10_114 (Nat.le_of_ble_eq_true rfl) (Nat.le_of_ble_eq_true rfl) (by omega) ?_
    refine m_isSlot (by omega) ?_
    rw [hg]
    dsimp only [gPush]
    first | refine U_ifB_ne (tgt := 9) dX10_tableau_4 (by decide) (by with_reducible rfl) (fun c4 => ?_) (fun c4 => ?_) | refine U_if_ne (tgt := 9) dX10_tableau_4 (by decide) (by with_reducible rfl) (by omega) (fun c4 => ?_) (fun c4 => ?_) | refine V_if_ne (tgt := 9) dX10_tableau_4 (by decide) (fun c4 => ?_) (fun c4 => ?_)
    · skip
      cases c4
    · skip
      refine V_iconst (v := -1) dX10_tableau_7 (by decide) ?_
      refine V_iret dX10_tableau_8 rfl rfl ?_
      exact hQ h hR FrD.rf
  | true =>
    obtain ⟨s, hs, rfl⟩ := inB_t (by decide) hg
    have eq0 : f_tableau S (nI s) = _ := if_t hg
    rw [eq0, cN_nI (by omega)] at hQ
    generalize hB0 : S.2.2.1 = B at rB hWB
    have eR : tbR S = tabF B S.1.1 60 0 0 [] := by unfold tbR; rw [hB0]
    obtain ⟨hP, hP6⟩ := TbP_tab (B := B) (n := S.1.1) 60 0 0 [] (Nat.le_refl _) trivial (Nat.zero_le _)
    have hWP := WT_P hP hP6
    rw [← eR] at hP hP6 hWP
    generalize tbR S = R at hQ eR hP hP6 hWP
    obtain ⟨b60, b255⟩ := hWB
    have nil : ∀ h1, gI h1 94 21 = nI 0 → (∀ a, (a < 94 ∨ (95 ≤ a ∧ a ≤ 104) ∨ (120 ≤ a ∧ a ≤ 122)) → gI h1 a = gI h a) → (∀ k, k ≤ 3 ∨ k = 14 → gI h1 94 k = gI h 94 k) → gR h1 = gR h → RM h1 (setTp S []) := fun h1 g e e2 r => RM_tp hR ⟨g, fun p hp => absurd hp (Nat.not_lt_zero _)⟩ (fun a _ ha => e a ha) e2 r
    have exitF : ∀ h1 a x2 x3 x4 x5, R.1 = false → R.2.1 = skp B a → a ≤ B.length → gI h1 94 22 = nI a → MB h1 B → FrX h h1 → V Γ mX10_tableau d 124 124 h1 172 [some (.ref 94), some (.int (nI s)), x2, x3, x4, x5] [] Q := by
      intro h1 a x2 x3 x4 x5 hr1 hr2 ha g22 hB1 hF1
      have hM1 := MLay_eq hM hF1.2.2.2
      rw [if_f hr1, hr2] at hQ
      refine V_aloadn0 dX10_tableau_172 ?_
      refine V_callV0 (μ' := mX10_fault) dX10_tableau_173 okX10_fault lX10_140 rfl (by first | assumption | rfl) (by first | decide | omega) (Nat.le_of_ble_eq_true rfl) (Nat.le_of_ble_eq_true rfl) (by omega) ?_
      refine m_fault (by omega) hM1 hB1 b60 b255 g22 ha (fun h2 g21 e2 l2 k2 => ?_)
      dsimp only [gPush]
      refine V_iret dX10_tableau_176 rfl rfl ?_
      exact hQ h2 (nil h2 g21 (fun a ha => by rw [← hF1.1 a (by omega)]; exact funext (fun b => e2 a b (by omega))) (fun k hk => by rw [e2 94 k (by omega)]; exact hF1.2.1 k (by omega)) (by rw [k2, hF1.2.2.2])) ⟨fun a ha => by rw [← hF1.1 a (by omega)]; exact funext (fun b => e2 a b (by omega)), fun a ha => by rw [l2]; exact hF1.2.2.1 a ha, by rw [k2, hF1.2.2.2]⟩
    have exitT : ∀ h1 P x2 x3 x4 x5, R.1 = true → R.2.2 = P → CG h1 P → FrX h h1 → V Γ mX10_tableau d 124 124 h1 203 [some (.ref 94), some (.int (nI s)), x2, x3, x4, x5] [] Q := by
      intro h1 P x2 x3 x4 x5 hr1 hr2 hC1 hF1
      rw [if_t hr1] at hQ
      subst hr2
      generalize hh2 : sI h1 94 21 (nI 0) = h2
      have hM2 : MLay h2 := by rw [← hh2]; exact MLay_eq hM hF1.2.2.2
      have e2 : ∀ a b, ¬ (a = 94 ∧ b = 21) → gI h2 a b = gI h1 a b := fun a b hb => by rw [← hh2, gI_sI, if_neg hb]
      have l2 : gL h2 = gL h1 := by rw [← hh2]; rfl
      have k2 : gR h2 = gR h := by rw [← hh2]; exact hF1.2.2.2
      have hC2 := CG_cg hC1 (h' := h2) (funext (fun b => e2 106 b (by omega))) (funext (fun b => e2 109 b (by omega)))
      have hR2 : RM h2 (setTp S []) := nil h2 (by rw [← hh2, gI_sI, if_pos ⟨rfl, rfl⟩]) (fun a ha => by rw [← hF1.1 a (by omega)]; exact funext (fun b => e2 a b (by omega))) (fun k hk => by rw [e2 94 k (by omega)]; exact hF1.2.1 k (by omega)) k2
      have hD2 : FrD h h2 := ⟨fun a ha => by rw [← hF1.1 a (by omega)]; exact funext (fun b => e2 a b (by omega)), fun a ha => by rw [l2]; exact hF1.2.2.1 a ha, k2⟩
      refine V_aloadn0 dX10_tableau_203 ?_
      refine V_iconst (v := nI 0) dX10_tableau_204 (by decide) ?_
      refine V_putI dX10_tableau_205 fX10_125 (by first | assumption | rfl) (by first | decide | omega) ?_
      rw [hh2]
      refine V_aloadn0 dX10_tableau_208 ?_
      refine V_callV0 (μ' := mX10_readsCells) dX10_tableau_209 okX10_readsCells lX10_143 rfl (by first | assumption | rfl) (by first | decide | omega) (Nat.le_of_ble_eq_true rfl) (Nat.le_of_ble_eq_true rfl) (by omega) ?_
      refine m_readsCells hM2 hC2 (fun h3 hW3 hk3 e3 e3' l3 r3 => ?_)
      have hF3 : FrX h2 h3 := ⟨fun a ha => e3 a (by omega) (by omega), fun k hk => e3' k (by omega) (by omega), fun a _ => by rw [l3], r3⟩
      have hR3 := RM_X hR2 hF3
      dsimp only [gPush]
      refine V_aloadn0 dX10_tableau_212 ?_
      refine V_iloadn1 dX10_tableau_213 ?_
      refine V_callV1 (μ' := mX10_lays) dX10_tableau_214 okX10_lays lX10_121 rfl (by first | assumption | rfl) (by first | decide | omega) (Nat.le_of_ble_eq_true rfl) (Nat.le_of_ble_eq_true rfl) (by omega) ?_
      refine m_lays hs hR3 hWS (by decide) hk3 hW3 (fun _ => SH_map (CG_cg hC2 (e3 106 (by omega) (by omega)) (e3 109 (by omega) (by omega)))) (fun z => absurd rfl z) (fun h4 hR4 e4 l4 k4 => ?_)
      have g18 : gI h4 94 18 = nI (rdL R.2.2).length := by rw [e4 94 (by omega)]; exact hW3.1
      have hQ9 := hQ h4 hR4 (hD2.tr (hF3.D.tr ⟨fun a ha => e4 a (by omega), fun a ha => by rw [l4], k4⟩))
      dsimp only [gPush]
      refine V_aloadn0 dX10_tableau_217 ?_
      refine V_getI dX10_tableau_218 fX10_111 (Or.inl rfl) (by first | assumption | rfl) (by first | decide | omega) (by first | assumption | exact ML_4 (by assumption) | exact ML_5 (by assumption) | exact ML_6 (by assumption) | exact ML_7 (by assumption) | exact ML_8 (by assumption) | exact ML_9 (by assumption) | exact ML_10 (by assumption) | exact ML_11 (by assumption) | exact ML_12 (by assumption) | exact ML_13 (by assumption) | exact ML_15 (by assumption) | exact ML_16 (by assumption) | exact ML_17 (by assumption) | exact ML_20 (by assumption) | exact ML_23 (by assumption) | exact ML_24 (by assumption) | exact ML_30 (by assumption) | exact ML_31 (by assumption) | exact ML_32 (by assumption) | exact ML_33 (by assumption) | exact ML_35 (by assumption) | exact ML_36 (by assumption) | exact ML_37 (by assumption) | exact ML_38 (by assumption) | exact ML_41 (by assumption) | exact ML_42 (by assumption) | exact ML_43 (by assumption) | exact ML_44 (by assumption) | exact ML_45 (by assumption) | rfl) ?_
      refine V_iret dX10_tableau_221 rfl rfl ?_
      exact hQ9
    have loop : ∀ f a row P h1 m x5, 60 ≤ a + f → R = tabF B S.1.1 f a row P → row ≤ P.length → TbP S.1.1 0 P → szL P ≤ 6 → a ≤ B.length → m = (decide (skp B a < B.length) || !decide (row = 0 ∨ row < P.length)) → CG h1 P → MB h1 B → gI h1 94 22 = nI (skp B a) → FrX h h1 → V Γ mX10_tableau d 124 124 h1 53 [some (.ref 94), some (.int (nI s)), some (.int (nI row)), some (.int (nI (szL P))), some (.int (gBo m)), x5] [] Q := by
      intro f
      induction f with
      | zero =>
        intro a row P h1 m x5 hf hRR hrow hTb hsz ha hm hC1 hB1 g22 hF1
        have hM1 := MLay_eq hM hF1.2.2.2
        have ea : a = B.length := by omega
        have hsk : skp B a = a := skp_stop (Or.inl (by omega))
        have hlenP := TbP_len P 0 hTb (Nat.zero_le _)
        have eT : tabF B S.1.1 0 a row P = (decide (row = 0 ∨ row < P.length), a, P) := rfl
        rw [eT] at hRR
        rw [decide_eq_false (show ¬ skp B a < B.length by omega), Bool.false_or] at hm
        by_cases hc : row = 0 ∨ row < P.length
        · rw [decide_eq_true hc] at hm hRR
          subst hm
          refine V_iloadw4 dX10_tableau_53 ?_
          first | refine U_ifB_eq (tgt := 203) dX10_tableau_55 (by decide) (by with_reducible rfl) (fun c55 => ?_) (fun c55 => ?_) | refine U_if_eq (tgt := 203) dX10_tableau_55 (by decide) (by with_reducible rfl) (by omega) (fun c55 => ?_) (fun c55 => ?_) | refine V_if_eq (tgt := 203) dX10_tableau_55 (by decide) (fun c55 => ?_) (fun c55 => ?_)
          · skip
            exact exitT h1 P _ _ _ _ (by rw [hRR]) (by rw [hRR]) hC1 hF1
          · skip
            cases c55
        · rw [decide_eq_false hc] at hm hRR
          subst hm
          have hsk2 : skp B (skp B a) = skp B a := by rw [hsk, hsk]
          have hv : hrV B (skp B a) = -1 := by unfold hrV; rw [hsk2, if_neg (by omega)]
          have hrl : row = P.length := by omega
          have hrow6 : (P.getD row []).length = 0 := by rw [getD_out (by omega)]; rfl
          have g106 : gI h1 106 row = nI 0 := by rw [hC1.1 row (by omega), hrow6]
          refine V_iloadw4 dX10_tableau_53 ?_
          first | refine U_ifB_eq (tgt := 203) dX10_tableau_55 (by decide) (by with_reducible rfl) (fun c55 => ?_) (fun c55 => ?_) | refine U_if_eq (tgt := 203) dX10_tableau_55 (by decide) (by with_reducible rfl) (by omega) (fun c55 => ?_) (fun c55 => ?_) | refine V_if_eq (tgt := 203) dX10_tableau_55 (by decide) (fun c55 => ?_) (fun c55 => ?_)
          · skip
            cases c55
          · skip
            refine V_aloadn0 dX10_tableau_58 ?_
            refine V_callV0 (μ' := mX10_here) dX10_tableau_59 okX10_here lX10_133 rfl (by first | assumption | rfl) (by first | decide | omega) (Nat.le_of_ble_eq_true rfl) (Nat.le_of_ble_eq_true rfl) (by omega) ?_
            refine m_here hM1 hB1 b60 b255 g22 (skp_le ha) (fun h2 g2 hF2 => ?_)
            rw [hv]
            have hM2 := MLay_eq hM1 hF2.2.2
            have hB2 := MB_H hB1 hF2
            rw [hsk2] at g2
            dsimp only [gPush]
            refine V_bipush (v := nI 48) dX10_tableau_62 (by decide) ?_
            refine V_isub dX10_tableau_64 ?_
            refine V_istorew5 dX10_tableau_65 (by decide) rfl ?_
            refine V_aloadn0 dX10_tableau_67 ?_
            refine V_callV0 (μ' := mX10_here) dX10_tableau_68 okX10_here lX10_133 rfl (by first | assumption | rfl) (by first | decide | omega) (Nat.le_of_ble_eq_true rfl) (Nat.le_of_ble_eq_true rfl) (by omega) ?_
            refine m_here hM2 hB2 b60 b255 g2 (skp_le ha) (fun h3 g3 hF3 => ?_)
            rw [hv]
            have hM3 := MLay_eq hM2 hF3.2.2
            have hB3 := MB_H hB2 hF3
            rw [hsk2] at g3
            have hF13 := hF1.tr (hF2.X.tr hF3.X)
            have hC3 := CG_cg hC1 (h' := h3) (by rw [hF3.c (by omega), hF2.c (by omega)]) (by rw [hF3.c (by omega), hF2.c (by omega)])
            have g106' : gI h3 106 row = nI 0 := by rw [hF3.c (by omega), hF2.c (by omega)]; exact g106
            dsimp only [gPush]
            refine V_bipush (v := nI 47) dX10_tableau_71 (by decide) ?_
            refine V_icmp_ne (tgt := 106) dX10_tableau_73 (by decide) (fun _ => ?_) (fun c73 => absurd c73 (by decide))
            refine V_iloadn3 dX10_tableau_106 ?_
            refine V_bipush (v := nI 6) dX10_tableau_107 (by decide) ?_
            first | refine U_icmp_ge (tgt := 172) dX10_tableau_109 (by decide) (by with_reducible rfl) (by with_reducible rfl) (by omega) (by omega) (fun c109 => ?_) (fun c109 => ?_) | refine V_icmp_ge (tgt := 172) dX10_tableau_109 (by decide) (fun c109 => ?_) (fun c109 => ?_)
            · skip
              exact exitF h3 (skp B a) _ _ _ _ (by rw [hRR]) (by rw [hRR, hsk2, hsk]) (skp_le ha) g3 hB3 hF13
            · skip
              refine V_aloadn0 dX10_tableau_112 ?_
              refine V_iloadw5 dX10_tableau_113 ?_
              refine V_iloadn2 dX10_tableau_115 ?_
              refine V_aloadn0 dX10_tableau_116 ?_
              refine V_getR dX10_tableau_117 fX10_50 (by first | assumption | rfl) (by first | decide | omega) (by first | assumption | exact ML_4 (by assumption) | exact ML_5 (by assumption) | exact ML_6 (by assumption) | exact ML_7 (by assumption) | exact ML_8 (by assumption) | exact ML_9 (by assumption) | exact ML_10 (by assumption) | exact ML_11 (by assumption) | exact ML_12 (by assumption) | exact ML_13 (by assumption) | exact ML_15 (by assumption) | exact ML_16 (by assumption) | exact ML_17 (by assumption) | exact ML_20 (by assumption) | exact ML_23 (by assumption) | exact ML_24 (by assumption) | exact ML_30 (by assumption) | exact ML_31 (by assumption) | exact ML_32 (by assumption) | exact ML_33 (by assumption) | exact ML_35 (by assumption) | exact ML_36 (by assumption) | exact ML_37 (by assumption) | exact ML_38 (by assumption) | exact ML_41 (by assumption) | exact ML_42 (by assumption) | exact ML_43 (by assumption) | exact ML_44 (by assumption) | exact ML_45 (by assumption) | rfl) ?_
              refine V_iloadn2 dX10_tableau_120 ?_
              refine U_iald dX10_tableau_121 (by with_reducible rfl) (by first | assumption | rfl) (by first | decide | omega) (by omega) (by first | assumption | exact ML_4 (by assumption) | exact ML_5 (by assumption) | exact ML_6 (by assumption) | exact ML_7 (by assumption) | exact ML_8 (by assumption) | exact ML_9 (by assumption) | exact ML_10 (by assumption) | exact ML_11 (by assumption) | exact ML_12 (by assumption) | exact ML_13 (by assumption) | exact ML_15 (by assumption) | exact ML_16 (by assumption) | exact ML_17 (by assumption) | exact ML_20 (by assumption) | exact ML_23 (by assumption) | exact ML_24 (by assumption) | exact ML_30 (by assumption) | exact ML_31 (by assumption) | exact ML_32 (by assumption) | exact ML_33 (by assumption) | exact ML_35 (by assumption) | exact ML_36 (by assumption) | exact ML_37 (by assumption) | exact ML_38 (by assumption) | exact ML_41 (by assumption) | exact ML_42 (by assumption) | exact ML_43 (by assumption) | exact ML_44 (by assumption) | exact ML_45 (by assumption) | rfl) ?_
              refine V_callV3 (μ' := mX10_mayStand) dX10_tableau_122 okX10_mayStand lX10_137 rfl (by first | assumption | rfl) (by first | decide | omega) (Nat.le_of_ble_eq_true rfl) (Nat.le_of_ble_eq_true rfl) (by omega) ?_
              refine m_mayBad (by omega) (by rw [hF13.2.1 0 (by omega)]; exact r0) (end_in S.1.1 (by omega)) ?_
              dsimp only [gPush]
              first | refine U_ifB_eq (tgt := 172) dX10_tableau_125 (by decide) (by with_reducible rfl) (fun c125 => ?_) (fun c125 => ?_) | refine U_if_eq (tgt := 172) dX10_tableau_125 (by decide) (by with_reducible rfl) (by omega) (fun c125 => ?_) (fun c125 => ?_) | refine V_if_eq (tgt := 172) dX10_tableau_125 (by decide) (fun c125 => ?_) (fun c125 => ?_)
              · skip
                exact exitF h3 (skp B a) _ _ _ _ (by rw [hRR]) (by rw [hRR, hsk2, hsk]) (skp_le ha) g3 hB3 hF13
              · skip
                cases c125
      | succ f ih =>
        intro a row P h1 m x5 hf hRR hrow hTb hsz ha hm hC1 hB1 g22 hF1
        have hM1 := MLay_eq hM hF1.2.2.2
        have hlenP := TbP_len P 0 hTb (Nat.zero_le _)
        have hsl := skp_le ha
        have hsk2 := skp_skp ha
        have hge := skp_ge B a
        have hr6 := CG_row6 hC1 row
        rw [tabF] at hRR
        by_cases hlt : skp B a < B.length
        · rw [if_pos hlt] at hRR
          rw [decide_eq_true hlt, Bool.true_or] at hm
          subst hm
          have h9 := b255 (skp B a)
          have hv : hrV B (skp B a) = nI (B.getD (skp B a) 0) := by unfold hrV; rw [hsk2, if_pos hlt]
          generalize hby : B.getD (skp B a) 0 = by' at hRR h9 hv
          have g106 := hC1.1 row (by omega)
          have nxt : ∀ row' P' h2 x5, R = tabF B S.1.1 f (skp B a + 1) row' P' → row' ≤ P'.length → TbP S.1.1 0 P' → szL P' ≤ 6 → P' ≠ [] → CG h2 P' → MB h2 B → gI h2 94 22 = nI (skp B a + 1) → FrX h h2 → V Γ mX10_tableau d 124 124 h2 177 [some (.ref 94), some (.int (nI s)), some (.int (nI row')), some (.int (nI (szL P'))), some (.int (gBo true)), x5] [] Q := by
            intro row' P' h2 x5 hR2 hrow2 hTb2 hsz2 hne2 hC2 hB2 g22' hF2
            have hM2 := MLay_eq hM hF2.2.2.2
            have hlenP2 := TbP_len P' 0 hTb2 (Nat.zero_le _)
            have hr62 := CG_row6 hC2 row'
            have hneL := TbP_ne P' 0 hTb2
            have hshape : (P'.getD row' []).length = 0 ↔ ¬ (row' = 0 ∨ row' < P'.length) := by
              constructor
              · intro z q
                have hlt' : row' < P'.length := by
                  rcases q with q | q
                  · rw [q]; exact List.length_pos_iff.mpr hne2
                  · exact q
                have := hneL (P'.getD row' []) (by rw [List.getD_eq_getElem?_getD, List.getElem?_eq_getElem hlt']; exact List.getElem_mem _)
                omega
              · intro z
                rw [getD_out (by omega)]; rfl
            have hsl2 := skp_le (B := B) (p := skp B a + 1) (by omega)
            by_cases hlt2 : skp B (skp B a + 1) < B.length
            · have hv2 : hrV B (skp B a + 1) = nI (B.getD (skp B (skp B a + 1)) 0) := by unfold hrV; rw [if_pos hlt2]
              have h92 := b255 (skp B (skp B a + 1))
              refine V_aloadn0 dX10_tableau_177 ?_
              refine V_callV0 (μ' := mX10_here) dX10_tableau_178 okX10_here lX10_133 rfl (by first | assumption | rfl) (by first | decide | omega) (Nat.le_of_ble_eq_true rfl) (Nat.le_of_ble_eq_true rfl) (by omega) ?_
              refine m_here hM2 hB2 b60 b255 g22' (by omega) (fun h3 g3 hF3 => ?_)
              rw [hv2]
              dsimp only [gPush]
              refine V_if_ge (tgt := 193) dX10_tableau_181 (by decide) (fun c181 => ?_) (fun c181 => ?_)
              · skip
                refine V_iconst (v := nI 1) dX10_tableau_193 (by decide) ?_
                refine V_goto (tgt := 198) dX10_tableau_194 (by decide) ?_
                refine V_istorew4 dX10_tableau_198 (by decide) rfl ?_
                refine V_goto (tgt := 53) dX10_tableau_200 (by decide) ?_
                exact ih (skp B a + 1) row' P' h3 true _ (by omega) hR2 hrow2 hTb2 hsz2 (by omega) (by rw [decide_eq_true hlt2]; rfl) (CG_cg hC2 (hF3.c (by omega)) (hF3.c (by omega))) (MB_H hB2 hF3) g3 (hF2.tr hF3.X)
              · skip
                exact absurd (nI_pos' (by omega)) c181
            · have hv2 : hrV B (skp B a + 1) = -1 := by unfold hrV; rw [if_neg hlt2]
              refine V_aloadn0 dX10_tableau_177 ?_
              refine V_callV0 (μ' := mX10_here) dX10_tableau_178 okX10_here lX10_133 rfl (by first | assumption | rfl) (by first | decide | omega) (Nat.le_of_ble_eq_true rfl) (Nat.le_of_ble_eq_true rfl) (by omega) ?_
              refine m_here hM2 hB2 b60 b255 g22' (by omega) (fun h3 g3 hF3 => ?_)
              rw [hv2]
              have hM3 := MLay_eq hM2 hF3.2.2
              have hC3 := CG_cg hC2 (h' := h3) (hF3.c (by omega)) (hF3.c (by omega))
              have g106' := hC3.1 row' (by omega)
              dsimp only [gPush]
              refine V_if_ge (tgt := 193) dX10_tableau_181 (by decide) (fun c181 => ?_) (fun c181 => ?_)
              · skip
                exact absurd c181 (by decide)
              · skip
                refine V_aloadn0 dX10_tableau_184 ?_
                refine V_getR dX10_tableau_185 fX10_50 (by first | assumption | rfl) (by first | decide | omega) (by first | assumption | exact ML_4 (by assumption) | exact ML_5 (by assumption) | exact ML_6 (by assumption) | exact ML_7 (by assumption) | exact ML_8 (by assumption) | exact ML_9 (by assumption) | exact ML_10 (by assumption) | exact ML_11 (by assumption) | exact ML_12 (by assumption) | exact ML_13 (by assumption) | exact ML_15 (by assumption) | exact ML_16 (by assumption) | exact ML_17 (by assumption) | exact ML_20 (by assumption) | exact ML_23 (by assumption) | exact ML_24 (by assumption) | exact ML_30 (by assumption) | exact ML_31 (by assumption) | exact ML_32 (by assumption) | exact ML_33 (by assumption) | exact ML_35 (by assumption) | exact ML_36 (by assumption) | exact ML_37 (by assumption) | exact ML_38 (by assumption) | exact ML_41 (by assumption) | exact ML_42 (by assumption) | exact ML_43 (by assumption) | exact ML_44 (by assumption) | exact ML_45 (by assumption) | rfl) ?_
                refine V_iloadn2 dX10_tableau_188 ?_
                refine U_iald dX10_tableau_189 (by with_reducible rfl) (by first | assumption | rfl) (by first | decide | omega) (by omega) (by first | assumption | exact ML_4 (by assumption) | exact ML_5 (by assumption) | exact ML_6 (by assumption) | exact ML_7 (by assumption) | exact ML_8 (by assumption) | exact ML_9 (by assumption) | exact ML_10 (by assumption) | exact ML_11 (by assumption) | exact ML_12 (by assumption) | exact ML_13 (by assumption) | exact ML_15 (by assumption) | exact ML_16 (by assumption) | exact ML_17 (by assumption) | exact ML_20 (by assumption) | exact ML_23 (by assumption) | exact ML_24 (by assumption) | exact ML_30 (by assumption) | exact ML_31 (by assumption) | exact ML_32 (by assumption) | exact ML_33 (by assumption) | exact ML_35 (by assumption) | exact ML_36 (by assumption) | exact ML_37 (by assumption) | exact ML_38 (by assumption) | exact ML_41 (by assumption) | exact ML_42 (by assumption) | exact ML_43 (by assumption) | exact ML_44 (by assumption) | exact ML_45 (by assumption) | rfl) ?_
                first | refine U_ifB_ne (tgt := 197) dX10_tableau_190 (by decide) (by with_reducible rfl) (fun c190 => ?_) (fun c190 => ?_) | refine U_if_ne (tgt := 197) dX10_tableau_190 (by decide) (by with_reducible rfl) (by omega) (fun c190 => ?_) (fun c190 => ?_) | refine V_if_ne (tgt := 197) dX10_tableau_190 (by decide) (fun c190 => ?_) (fun c190 => ?_)
                · skip
                  refine V_iconst (v := nI 0) dX10_tableau_197 (by decide) ?_
                  refine V_istorew4 dX10_tableau_198 (by decide) rfl ?_
                  refine V_goto (tgt := 53) dX10_tableau_200 (by decide) ?_
                  first
                  | exact ih (skp B a + 1) row' P' h3 false _ (by omega) hR2 hrow2 hTb2 hsz2 (by omega) (by rw [decide_eq_false hlt2, decide_eq_true (Classical.byContradiction (fun q => c190 (hshape.mpr q)))]; rfl) hC3 (MB_H hB2 hF3) g3 (hF2.tr hF3.X)
                  | exact ih (skp B a + 1) row' P' h3 true _ (by omega) hR2 hrow2 hTb2 hsz2 (by omega) (by rw [decide_eq_false hlt2, decide_eq_false (hshape.mp c190)]; rfl) hC3 (MB_H hB2 hF3) g3 (hF2.tr hF3.X)
                · skip
                  refine V_iconst (v := nI 1) dX10_tableau_193 (by decide) ?_
                  refine V_goto (tgt := 198) dX10_tableau_194 (by decide) ?_
                  refine V_istorew4 dX10_tableau_198 (by decide) rfl ?_
                  refine V_goto (tgt := 53) dX10_tableau_200 (by decide) ?_
                  first
                  | exact ih (skp B a + 1) row' P' h3 false _ (by omega) hR2 hrow2 hTb2 hsz2 (by omega) (by rw [decide_eq_false hlt2, decide_eq_true (Classical.byContradiction (fun q => c190 (hshape.mpr q)))]; rfl) hC3 (MB_H hB2 hF3) g3 (hF2.tr hF3.X)
                  | exact ih (skp B a + 1) row' P' h3 true _ (by omega) hR2 hrow2 hTb2 hsz2 (by omega) (by rw [decide_eq_false hlt2, decide_eq_false (hshape.mp c190)]; rfl) hC3 (MB_H hB2 hF3) g3 (hF2.tr hF3.X)
          have letter : ∀ h3, ¬ (by' = 47 ∧ row < P.length) → CG h3 P → MB h3 B → gI h3 94 22 = nI (skp B a) → FrX h h3 → V Γ mX10_tableau d 124 124 h3 106 [some (.ref 94), some (.int (nI s)), some (.int (nI row)), some (.int (nI (szL P))), some (.int (gBo true)), some (.int (nI by' - nI 48))] [] Q := by
            intro h3 hns hC3 hB3 g3 hF3
            have hM3 := MLay_eq hM hF3.2.2.2
            have g106' := hC3.1 row (by omega)
            have n3 : gI h3 94 0 = nI S.1.1 := by rw [hF3.2.1 0 (by omega)]; exact r0
            have hdi := dig_in by' (by omega) S.1.1 (by omega)
            rw [if_neg hns] at hRR
            have bad : ¬ ((49 ≤ by' ∧ by' ≤ 48 + S.1.1) ∧ tkB P row (by' - 48) = true) → V Γ mX10_tableau d 124 124 h3 172 [some (.ref 94), some (.int (nI s)), some (.int (nI row)), some (.int (nI (szL P))), some (.int (gBo true)), some (.int (nI by' - nI 48))] [] Q := by
              intro hno
              rw [if_neg hno] at hRR
              exact exitF h3 (skp B a) _ _ _ _ (by rw [hRR]) (by rw [hRR, hsk2]) hsl g3 hB3 hF3
            by_cases hs6 : szL P < 6
            · by_cases hdg : 49 ≤ by' ∧ by' ≤ 48 + S.1.1
              · have ed : nI by' - nI 48 = nI (by' - 48) := pk_sub (by omega)
                have htk := ms_tk (P := P) (r := row) (y := by' - 48) (by omega) hs6
                cases hms : msB P row (by' - 48) with
                | false =>
                  rw [ed] at bad ⊢
                  refine V_iloadn3 dX10_tableau_106 ?_
                  refine V_bipush (v := nI 6) dX10_tableau_107 (by decide) ?_
                  first | refine U_icmp_ge (tgt := 172) dX10_tableau_109 (by decide) (by with_reducible rfl) (by with_reducible rfl) (by omega) (by omega) (fun c109 => ?_) (fun c109 => ?_) | refine V_icmp_ge (tgt := 172) dX10_tableau_109 (by decide) (fun c109 => ?_) (fun c109 => ?_)
                  · skip
                    omega
                  · skip
                    refine V_aloadn0 dX10_tableau_112 ?_
                    refine V_iloadw5 dX10_tableau_113 ?_
                    refine V_iloadn2 dX10_tableau_115 ?_
                    refine V_aloadn0 dX10_tableau_116 ?_
                    refine V_getR dX10_tableau_117 fX10_50 (by first | assumption | rfl) (by first | decide | omega) (by first | assumption | exact ML_4 (by assumption) | exact ML_5 (by assumption) | exact ML_6 (by assumption) | exact ML_7 (by assumption) | exact ML_8 (by assumption) | exact ML_9 (by assumption) | exact ML_10 (by assumption) | exact ML_11 (by assumption) | exact ML_12 (by assumption) | exact ML_13 (by assumption) | exact ML_15 (by assumption) | exact ML_16 (by assumption) | exact ML_17 (by assumption) | exact ML_20 (by assumption) | exact ML_23 (by assumption) | exact ML_24 (by assumption) | exact ML_30 (by assumption) | exact ML_31 (by assumption) | exact ML_32 (by assumption) | exact ML_33 (by assumption) | exact ML_35 (by assumption) | exact ML_36 (by assumption) | exact ML_37 (by assumption) | exact ML_38 (by assumption) | exact ML_41 (by assumption) | exact ML_42 (by assumption) | exact ML_43 (by assumption) | exact ML_44 (by assumption) | exact ML_45 (by assumption) | rfl) ?_
                    refine V_iloadn2 dX10_tableau_120 ?_
                    refine U_iald dX10_tableau_121 (by with_reducible rfl) (by first | assumption | rfl) (by first | decide | omega) (by omega) (by first | assumption | exact ML_4 (by assumption) | exact ML_5 (by assumption) | exact ML_6 (by assumption) | exact ML_7 (by assumption) | exact ML_8 (by assumption) | exact ML_9 (by assumption) | exact ML_10 (by assumption) | exact ML_11 (by assumption) | exact ML_12 (by assumption) | exact ML_13 (by assumption) | exact ML_15 (by assumption) | exact ML_16 (by assumption) | exact ML_17 (by assumption) | exact ML_20 (by assumption) | exact ML_23 (by assumption) | exact ML_24 (by assumption) | exact ML_30 (by assumption) | exact ML_31 (by assumption) | exact ML_32 (by assumption) | exact ML_33 (by assumption) | exact ML_35 (by assumption) | exact ML_36 (by assumption) | exact ML_37 (by assumption) | exact ML_38 (by assumption) | exact ML_41 (by assumption) | exact ML_42 (by assumption) | exact ML_43 (by assumption) | exact ML_44 (by assumption) | exact ML_45 (by assumption) | rfl) ?_
                    refine V_callV3 (μ' := mX10_mayStand) dX10_tableau_122 okX10_mayStand lX10_137 rfl (by first | assumption | rfl) (by first | decide | omega) (Nat.le_of_ble_eq_true rfl) (Nat.le_of_ble_eq_true rfl) (by omega) ?_
                    refine m_may (by omega) hn5 hM3 n3 hC3 (by omega) (by omega) (by omega) ?_
                    rw [hms]
                    dsimp only [gPush]
                    first | refine U_ifB_eq (tgt := 172) dX10_tableau_125 (by decide) (by with_reducible rfl) (fun c125 => ?_) (fun c125 => ?_) | refine U_if_eq (tgt := 172) dX10_tableau_125 (by decide) (by with_reducible rfl) (by omega) (fun c125 => ?_) (fun c125 => ?_) | refine V_if_eq (tgt := 172) dX10_tableau_125 (by decide) (fun c125 => ?_) (fun c125 => ?_)
                    · skip
                      exact bad (fun q => by rw [htk, hms] at q; exact Bool.false_ne_true q.2)
                    · skip
                      cases c125
                | true =>
                  rw [if_pos ⟨hdg, by rw [htk, hms]⟩] at hRR
                  have hrs9 := row_le_sz P row
                  have hadd := addR_add (P := P) (r := row) (x := by' - 48) hrow
                  have hTb2 := TbP_tk hTb hrow (by rw [htk, hms]) (by omega) (by omega : by' - 48 ≤ S.1.1)
                  have hC5 := CG_add hC3 (r := row) (x := by' - 48) (by omega) (by omega) hs6 hadd
                  generalize hh4 : sI h3 109 (6 * row + (P.getD row []).length) (nI (by' - 48)) = h4 at hC5
                  have hM4 : MLay h4 := by rw [← hh4]; exact MLay_eq hM3 rfl
                  have g106'' : gI h4 106 row = nI (P.getD row []).length := by rw [← hh4, gI_sI, if_neg (by omega)]; exact g106'
                  generalize hh5 : sI h4 106 row (nI ((P.getD row []).length + 1)) = h5 at hC5
                  have hF5 : FrX h h5 := by rw [← hh5, ← hh4]; exact frx_sI (frx_sI hF3 (by omega)) (by omega)
                  have hB5 : MB h5 B := MB_cg hB3 (by rw [← hh5, gI_sI, if_neg (by omega), ← hh4, gI_sI, if_neg (by omega)]) (by rw [← hh5, ← hh4]; funext b; rw [gI_sI, if_neg (by omega), gI_sI, if_neg (by omega)])
                  have g225 : gI h5 94 22 = nI (skp B a) := by rw [← hh5, gI_sI, if_neg (by omega), ← hh4, gI_sI, if_neg (by omega)]; exact g3
                  have hne : addR P row (by' - 48) ≠ [] := fun q => by have := hadd.2.1; rw [q] at this; simp at this; omega
                  rw [ed]
                  refine V_iloadn3 dX10_tableau_106 ?_
                  refine V_bipush (v := nI 6) dX10_tableau_107 (by decide) ?_
                  first | refine U_icmp_ge (tgt := 172) dX10_tableau_109 (by decide) (by with_reducible rfl) (by with_reducible rfl) (by omega) (by omega) (fun c109 => ?_) (fun c109 => ?_) | refine V_icmp_ge (tgt := 172) dX10_tableau_109 (by decide) (fun c109 => ?_) (fun c109 => ?_)
                  · skip
                    omega
                  · skip
                    refine V_aloadn0 dX10_tableau_112 ?_
                    refine V_iloadw5 dX10_tableau_113 ?_
                    refine V_iloadn2 dX10_tableau_115 ?_
                    refine V_aloadn0 dX10_tableau_116 ?_
                    refine V_getR dX10_tableau_117 fX10_50 (by first | assumption | rfl) (by first | decide | omega) (by first | assumption | exact ML_4 (by assumption) | exact ML_5 (by assumption) | exact ML_6 (by assumption) | exact ML_7 (by assumption) | exact ML_8 (by assumption) | exact ML_9 (by assumption) | exact ML_10 (by assumption) | exact ML_11 (by assumption) | exact ML_12 (by assumption) | exact ML_13 (by assumption) | exact ML_15 (by assumption) | exact ML_16 (by assumption) | exact ML_17 (by assumption) | exact ML_20 (by assumption) | exact ML_23 (by assumption) | exact ML_24 (by assumption) | exact ML_30 (by assumption) | exact ML_31 (by assumption) | exact ML_32 (by assumption) | exact ML_33 (by assumption) | exact ML_35 (by assumption) | exact ML_36 (by assumption) | exact ML_37 (by assumption) | exact ML_38 (by assumption) | exact ML_41 (by assumption) | exact ML_42 (by assumption) | exact ML_43 (by assumption) | exact ML_44 (by assumption) | exact ML_45 (by assumption) | rfl) ?_
                    refine V_iloadn2 dX10_tableau_120 ?_
                    refine U_iald dX10_tableau_121 (by with_reducible rfl) (by first | assumption | rfl) (by first | decide | omega) (by omega) (by first | assumption | exact ML_4 (by assumption) | exact ML_5 (by assumption) | exact ML_6 (by assumption) | exact ML_7 (by assumption) | exact ML_8 (by assumption) | exact ML_9 (by assumption) | exact ML_10 (by assumption) | exact ML_11 (by assumption) | exact ML_12 (by assumption) | exact ML_13 (by assumption) | exact ML_15 (by assumption) | exact ML_16 (by assumption) | exact ML_17 (by assumption) | exact ML_20 (by assumption) | exact ML_23 (by assumption) | exact ML_24 (by assumption) | exact ML_30 (by assumption) | exact ML_31 (by assumption) | exact ML_32 (by assumption) | exact ML_33 (by assumption) | exact ML_35 (by assumption) | exact ML_36 (by assumption) | exact ML_37 (by assumption) | exact ML_38 (by assumption) | exact ML_41 (by assumption) | exact ML_42 (by assumption) | exact ML_43 (by assumption) | exact ML_44 (by assumption) | exact ML_45 (by assumption) | rfl) ?_
                    refine V_callV3 (μ' := mX10_mayStand) dX10_tableau_122 okX10_mayStand lX10_137 rfl (by first | assumption | rfl) (by first | decide | omega) (Nat.le_of_ble_eq_true rfl) (Nat.le_of_ble_eq_true rfl) (by omega) ?_
                    refine m_may (by omega) hn5 hM3 n3 hC3 (by omega) (by omega) (by omega) ?_
                    rw [hms]
                    dsimp only [gPush]
                    first | refine U_ifB_eq (tgt := 172) dX10_tableau_125 (by decide) (by with_reducible rfl) (fun c125 => ?_) (fun c125 => ?_) | refine U_if_eq (tgt := 172) dX10_tableau_125 (by decide) (by with_reducible rfl) (by omega) (fun c125 => ?_) (fun c125 => ?_) | refine V_if_eq (tgt := 172) dX10_tableau_125 (by decide) (fun c125 => ?_) (fun c125 => ?_)
                    · skip
                      cases c125
                    · skip
                      refine V_aloadn0 dX10_tableau_128 ?_
                      refine V_getR dX10_tableau_129 fX10_59 (by first | assumption | rfl) (by first | decide | omega) (by first | assumption | exact ML_4 (by assumption) | exact ML_5 (by assumption) | exact ML_6 (by assumption) | exact ML_7 (by assumption) | exact ML_8 (by assumption) | exact ML_9 (by assumption) | exact ML_10 (by assumption) | exact ML_11 (by assumption) | exact ML_12 (by assumption) | exact ML_13 (by assumption) | exact ML_15 (by assumption) | exact ML_16 (by assumption) | exact ML_17 (by assumption) | exact ML_20 (by assumption) | exact ML_23 (by assumption) | exact ML_24 (by assumption) | exact ML_30 (by assumption) | exact ML_31 (by assumption) | exact ML_32 (by assumption) | exact ML_33 (by assumption) | exact ML_35 (by assumption) | exact ML_36 (by assumption) | exact ML_37 (by assumption) | exact ML_38 (by assumption) | exact ML_41 (by assumption) | exact ML_42 (by assumption) | exact ML_43 (by assumption) | exact ML_44 (by assumption) | exact ML_45 (by assumption) | rfl) ?_
                      refine V_bipush (v := nI 6) dX10_tableau_132 (by decide) ?_
                      refine V_iloadn2 dX10_tableau_134 ?_
                      first | refine U_imul dX10_tableau_135 (by with_reducible rfl) (by with_reducible rfl) ?_ | refine V_imul dX10_tableau_135 ?_
                      refine V_aloadn0 dX10_tableau_136 ?_
                      refine V_getR dX10_tableau_137 fX10_50 (by first | assumption | rfl) (by first | decide | omega) (by first | assumption | exact ML_4 (by assumption) | exact ML_5 (by assumption) | exact ML_6 (by assumption) | exact ML_7 (by assumption) | exact ML_8 (by assumption) | exact ML_9 (by assumption) | exact ML_10 (by assumption) | exact ML_11 (by assumption) | exact ML_12 (by assumption) | exact ML_13 (by assumption) | exact ML_15 (by assumption) | exact ML_16 (by assumption) | exact ML_17 (by assumption) | exact ML_20 (by assumption) | exact ML_23 (by assumption) | exact ML_24 (by assumption) | exact ML_30 (by assumption) | exact ML_31 (by assumption) | exact ML_32 (by assumption) | exact ML_33 (by assumption) | exact ML_35 (by assumption) | exact ML_36 (by assumption) | exact ML_37 (by assumption) | exact ML_38 (by assumption) | exact ML_41 (by assumption) | exact ML_42 (by assumption) | exact ML_43 (by assumption) | exact ML_44 (by assumption) | exact ML_45 (by assumption) | rfl) ?_
                      refine V_iloadn2 dX10_tableau_140 ?_
                      refine U_iald dX10_tableau_141 (by with_reducible rfl) (by first | assumption | rfl) (by first | decide | omega) (by omega) (by first | assumption | exact ML_4 (by assumption) | exact ML_5 (by assumption) | exact ML_6 (by assumption) | exact ML_7 (by assumption) | exact ML_8 (by assumption) | exact ML_9 (by assumption) | exact ML_10 (by assumption) | exact ML_11 (by assumption) | exact ML_12 (by assumption) | exact ML_13 (by assumption) | exact ML_15 (by assumption) | exact ML_16 (by assumption) | exact ML_17 (by assumption) | exact ML_20 (by assumption) | exact ML_23 (by assumption) | exact ML_24 (by assumption) | exact ML_30 (by assumption) | exact ML_31 (by assumption) | exact ML_32 (by assumption) | exact ML_33 (by assumption) | exact ML_35 (by assumption) | exact ML_36 (by assumption) | exact ML_37 (by assumption) | exact ML_38 (by assumption) | exact ML_41 (by assumption) | exact ML_42 (by assumption) | exact ML_43 (by assumption) | exact ML_44 (by assumption) | exact ML_45 (by assumption) | rfl) ?_
                      first | refine U_iadd dX10_tableau_142 (by with_reducible rfl) (by with_reducible rfl) ?_ | refine V_iadd dX10_tableau_142 ?_
                      refine V_iloadw5 dX10_tableau_143 ?_
                      refine U_iast dX10_tableau_145 (by with_reducible rfl) (by first | assumption | rfl) (by first | decide | omega) (by omega) ?_
                      rw [hh4]
                      refine V_aloadn0 dX10_tableau_146 ?_
                      refine V_getR dX10_tableau_147 fX10_50 (by first | assumption | rfl) (by first | decide | omega) (by first | assumption | exact ML_4 (by assumption) | exact ML_5 (by assumption) | exact ML_6 (by assumption) | exact ML_7 (by assumption) | exact ML_8 (by assumption) | exact ML_9 (by assumption) | exact ML_10 (by assumption) | exact ML_11 (by assumption) | exact ML_12 (by assumption) | exact ML_13 (by assumption) | exact ML_15 (by assumption) | exact ML_16 (by assumption) | exact ML_17 (by assumption) | exact ML_20 (by assumption) | exact ML_23 (by assumption) | exact ML_24 (by assumption) | exact ML_30 (by assumption) | exact ML_31 (by assumption) | exact ML_32 (by assumption) | exact ML_33 (by assumption) | exact ML_35 (by assumption) | exact ML_36 (by assumption) | exact ML_37 (by assumption) | exact ML_38 (by assumption) | exact ML_41 (by assumption) | exact ML_42 (by assumption) | exact ML_43 (by assumption) | exact ML_44 (by assumption) | exact ML_45 (by assumption) | rfl) ?_
                      refine V_iloadn2 dX10_tableau_150 ?_
                      refine V_dup2 dX10_tableau_151 ?_
                      refine U_iald dX10_tableau_152 (by with_reducible rfl) (by first | assumption | rfl) (by first | decide | omega) (by omega) (by first | assumption | exact ML_4 (by assumption) | exact ML_5 (by assumption) | exact ML_6 (by assumption) | exact ML_7 (by assumption) | exact ML_8 (by assumption) | exact ML_9 (by assumption) | exact ML_10 (by assumption) | exact ML_11 (by assumption) | exact ML_12 (by assumption) | exact ML_13 (by assumption) | exact ML_15 (by assumption) | exact ML_16 (by assumption) | exact ML_17 (by assumption) | exact ML_20 (by assumption) | exact ML_23 (by assumption) | exact ML_24 (by assumption) | exact ML_30 (by assumption) | exact ML_31 (by assumption) | exact ML_32 (by assumption) | exact ML_33 (by assumption) | exact ML_35 (by assumption) | exact ML_36 (by assumption) | exact ML_37 (by assumption) | exact ML_38 (by assumption) | exact ML_41 (by assumption) | exact ML_42 (by assumption) | exact ML_43 (by assumption) | exact ML_44 (by assumption) | exact ML_45 (by assumption) | rfl) ?_
                      refine V_iconst (v := nI 1) dX10_tableau_153 (by decide) ?_
                      first | refine U_iadd dX10_tableau_154 (by with_reducible rfl) (by with_reducible rfl) ?_ | refine V_iadd dX10_tableau_154 ?_
                      refine U_iast dX10_tableau_155 (by with_reducible rfl) (by first | assumption | rfl) (by first | decide | omega) (by omega) ?_
                      rw [hh5]
                      refine V_iinc3 dX10_tableau_156 (by first | exact ginc1 _ | rfl) (by decide) rfl ?_
                      refine V_aloadn0 dX10_tableau_159 ?_
                      first | refine V_dupa dX10_tableau_160 ?_ | refine V_dupi dX10_tableau_160 ?_
                      refine V_getI dX10_tableau_161 fX10_130 (Or.inl rfl) (by first | assumption | rfl) (by first | decide | omega) (by first | assumption | exact ML_4 (by assumption) | exact ML_5 (by assumption) | exact ML_6 (by assumption) | exact ML_7 (by assumption) | exact ML_8 (by assumption) | exact ML_9 (by assumption) | exact ML_10 (by assumption) | exact ML_11 (by assumption) | exact ML_12 (by assumption) | exact ML_13 (by assumption) | exact ML_15 (by assumption) | exact ML_16 (by assumption) | exact ML_17 (by assumption) | exact ML_20 (by assumption) | exact ML_23 (by assumption) | exact ML_24 (by assumption) | exact ML_30 (by assumption) | exact ML_31 (by assumption) | exact ML_32 (by assumption) | exact ML_33 (by assumption) | exact ML_35 (by assumption) | exact ML_36 (by assumption) | exact ML_37 (by assumption) | exact ML_38 (by assumption) | exact ML_41 (by assumption) | exact ML_42 (by assumption) | exact ML_43 (by assumption) | exact ML_44 (by assumption) | exact ML_45 (by assumption) | rfl) ?_
                      refine V_iconst (v := nI 1) dX10_tableau_164 (by decide) ?_
                      first | refine U_iadd dX10_tableau_165 (by with_reducible rfl) (by with_reducible rfl) ?_ | refine V_iadd dX10_tableau_165 ?_
                      refine V_putI dX10_tableau_166 fX10_130 (by first | assumption | rfl) (by first | decide | omega) ?_
                      refine V_goto (tgt := 177) dX10_tableau_169 (by decide) ?_
                      rw [show szL P + 1 = szL (addR P row (by' - 48)) from hadd.2.2.symm]
                      exact nxt row _ _ _ hRR (by rw [hadd.2.1]; omega) hTb2 (by rw [hadd.2.2]; omega) hne (CG_cg hC5 (by funext b; rw [gI_sI, if_neg (by omega)]) (by funext b; rw [gI_sI, if_neg (by omega)])) (MB_cg hB5 (by rw [gI_sI, if_neg (by omega)]) (by funext b; rw [gI_sI, if_neg (by omega)])) (by rw [gI_sI, if_pos ⟨rfl, rfl⟩]) (frx_sI hF5 (by omega))
              · rw [decide_eq_false hdg] at hdi
                refine V_iloadn3 dX10_tableau_106 ?_
                refine V_bipush (v := nI 6) dX10_tableau_107 (by decide) ?_
                first | refine U_icmp_ge (tgt := 172) dX10_tableau_109 (by decide) (by with_reducible rfl) (by with_reducible rfl) (by omega) (by omega) (fun c109 => ?_) (fun c109 => ?_) | refine V_icmp_ge (tgt := 172) dX10_tableau_109 (by decide) (fun c109 => ?_) (fun c109 => ?_)
                · skip
                  omega
                · skip
                  refine V_aloadn0 dX10_tableau_112 ?_
                  refine V_iloadw5 dX10_tableau_113 ?_
                  refine V_iloadn2 dX10_tableau_115 ?_
                  refine V_aloadn0 dX10_tableau_116 ?_
                  refine V_getR dX10_tableau_117 fX10_50 (by first | assumption | rfl) (by first | decide | omega) (by first | assumption | exact ML_4 (by assumption) | exact ML_5 (by assumption) | exact ML_6 (by assumption) | exact ML_7 (by assumption) | exact ML_8 (by assumption) | exact ML_9 (by assumption) | exact ML_10 (by assumption) | exact ML_11 (by assumption) | exact ML_12 (by assumption) | exact ML_13 (by assumption) | exact ML_15 (by assumption) | exact ML_16 (by assumption) | exact ML_17 (by assumption) | exact ML_20 (by assumption) | exact ML_23 (by assumption) | exact ML_24 (by assumption) | exact ML_30 (by assumption) | exact ML_31 (by assumption) | exact ML_32 (by assumption) | exact ML_33 (by assumption) | exact ML_35 (by assumption) | exact ML_36 (by assumption) | exact ML_37 (by assumption) | exact ML_38 (by assumption) | exact ML_41 (by assumption) | exact ML_42 (by assumption) | exact ML_43 (by assumption) | exact ML_44 (by assumption) | exact ML_45 (by assumption) | rfl) ?_
                  refine V_iloadn2 dX10_tableau_120 ?_
                  refine U_iald dX10_tableau_121 (by with_reducible rfl) (by first | assumption | rfl) (by first | decide | omega) (by omega) (by first | assumption | exact ML_4 (by assumption) | exact ML_5 (by assumption) | exact ML_6 (by assumption) | exact ML_7 (by assumption) | exact ML_8 (by assumption) | exact ML_9 (by assumption) | exact ML_10 (by assumption) | exact ML_11 (by assumption) | exact ML_12 (by assumption) | exact ML_13 (by assumption) | exact ML_15 (by assumption) | exact ML_16 (by assumption) | exact ML_17 (by assumption) | exact ML_20 (by assumption) | exact ML_23 (by assumption) | exact ML_24 (by assumption) | exact ML_30 (by assumption) | exact ML_31 (by assumption) | exact ML_32 (by assumption) | exact ML_33 (by assumption) | exact ML_35 (by assumption) | exact ML_36 (by assumption) | exact ML_37 (by assumption) | exact ML_38 (by assumption) | exact ML_41 (by assumption) | exact ML_42 (by assumption) | exact ML_43 (by assumption) | exact ML_44 (by assumption) | exact ML_45 (by assumption) | rfl) ?_
                  refine V_callV3 (μ' := mX10_mayStand) dX10_tableau_122 okX10_mayStand lX10_137 rfl (by first | assumption | rfl) (by first | decide | omega) (Nat.le_of_ble_eq_true rfl) (Nat.le_of_ble_eq_true rfl) (by omega) ?_
                  refine m_mayBad (by omega) n3 hdi ?_
                  dsimp only [gPush]
                  first | refine U_ifB_eq (tgt := 172) dX10_tableau_125 (by decide) (by with_reducible rfl) (fun c125 => ?_) (fun c125 => ?_) | refine U_if_eq (tgt := 172) dX10_tableau_125 (by decide) (by with_reducible rfl) (by omega) (fun c125 => ?_) (fun c125 => ?_) | refine V_if_eq (tgt := 172) dX10_tableau_125 (by decide) (fun c125 => ?_) (fun c125 => ?_)
                  · skip
                    exact bad (fun q => hdg q.1)
                  · skip
                    cases c125
            · have hno : ¬ ((49 ≤ by' ∧ by' ≤ 48 + S.1.1) ∧ tkB P row (by' - 48) = true) := fun q => hs6 (tkB_sz q.2).1
              refine V_iloadn3 dX10_tableau_106 ?_
              refine V_bipush (v := nI 6) dX10_tableau_107 (by decide) ?_
              first | refine U_icmp_ge (tgt := 172) dX10_tableau_109 (by decide) (by with_reducible rfl) (by with_reducible rfl) (by omega) (by omega) (fun c109 => ?_) (fun c109 => ?_) | refine V_icmp_ge (tgt := 172) dX10_tableau_109 (by decide) (fun c109 => ?_) (fun c109 => ?_)
              · skip
                exact bad hno
              · skip
                omega
          by_cases h47 : by' = 47
          · by_cases hrp : row < P.length
            · have hneL := TbP_ne P 0 hTb
              have hpos : 0 < (P.getD row []).length := hneL (P.getD row []) (by rw [List.getD_eq_getElem?_getD, List.getElem?_eq_getElem hrp]; exact List.getElem_mem _)
              rw [if_pos ⟨h47, hrp⟩] at hRR
              have hne : P ≠ [] := fun q => by rw [q] at hrp; exact absurd hrp (Nat.not_lt_zero _)
              refine V_iloadw4 dX10_tableau_53 ?_
              first | refine U_ifB_eq (tgt := 203) dX10_tableau_55 (by decide) (by with_reducible rfl) (fun c55 => ?_) (fun c55 => ?_) | refine U_if_eq (tgt := 203) dX10_tableau_55 (by decide) (by with_reducible rfl) (by omega) (fun c55 => ?_) (fun c55 => ?_) | refine V_if_eq (tgt := 203) dX10_tableau_55 (by decide) (fun c55 => ?_) (fun c55 => ?_)
              · skip
                cases c55
              · skip
                refine V_aloadn0 dX10_tableau_58 ?_
                refine V_callV0 (μ' := mX10_here) dX10_tableau_59 okX10_here lX10_133 rfl (by first | assumption | rfl) (by first | decide | omega) (Nat.le_of_ble_eq_true rfl) (Nat.le_of_ble_eq_true rfl) (by omega) ?_
                refine m_here hM1 hB1 b60 b255 g22 hsl (fun h2 g2 hF2 => ?_)
                rw [hv]
                have hM2 := MLay_eq hM1 hF2.2.2
                have hB2 := MB_H hB1 hF2
                rw [hsk2] at g2
                dsimp only [gPush]
                refine V_bipush (v := nI 48) dX10_tableau_62 (by decide) ?_
                refine V_isub dX10_tableau_64 ?_
                refine V_istorew5 dX10_tableau_65 (by decide) rfl ?_
                refine V_aloadn0 dX10_tableau_67 ?_
                refine V_callV0 (μ' := mX10_here) dX10_tableau_68 okX10_here lX10_133 rfl (by first | assumption | rfl) (by first | decide | omega) (Nat.le_of_ble_eq_true rfl) (Nat.le_of_ble_eq_true rfl) (by omega) ?_
                refine m_here hM2 hB2 b60 b255 g2 hsl (fun h3 g3 hF3 => ?_)
                rw [hv]
                have hM3 := MLay_eq hM2 hF3.2.2
                have hB3 := MB_H hB2 hF3
                rw [hsk2] at g3
                have hF13 := hF1.tr (hF2.X.tr hF3.X)
                have hC3 := CG_cg hC1 (h' := h3) (by rw [hF3.c (by omega), hF2.c (by omega)]) (by rw [hF3.c (by omega), hF2.c (by omega)])
                have g106' := hC3.1 row (by omega)
                dsimp only [gPush]
                refine V_bipush (v := nI 47) dX10_tableau_71 (by decide) ?_
                first | refine U_icmp_ne (tgt := 106) dX10_tableau_73 (by decide) (by with_reducible rfl) (by with_reducible rfl) (by omega) (by omega) (fun c73 => ?_) (fun c73 => ?_) | refine V_icmp_ne (tgt := 106) dX10_tableau_73 (by decide) (fun c73 => ?_) (fun c73 => ?_)
                · skip
                  omega
                · skip
                  refine V_iloadn2 dX10_tableau_76 ?_
                  refine V_iconst (v := nI 5) dX10_tableau_77 (by decide) ?_
                  first | refine U_icmp_ge (tgt := 106) dX10_tableau_78 (by decide) (by with_reducible rfl) (by with_reducible rfl) (by omega) (by omega) (fun c78 => ?_) (fun c78 => ?_) | refine V_icmp_ge (tgt := 106) dX10_tableau_78 (by decide) (fun c78 => ?_) (fun c78 => ?_)
                  · skip
                    omega
                  · skip
                    refine V_aloadn0 dX10_tableau_81 ?_
                    refine V_getR dX10_tableau_82 fX10_50 (by first | assumption | rfl) (by first | decide | omega) (by first | assumption | exact ML_4 (by assumption) | exact ML_5 (by assumption) | exact ML_6 (by assumption) | exact ML_7 (by assumption) | exact ML_8 (by assumption) | exact ML_9 (by assumption) | exact ML_10 (by assumption) | exact ML_11 (by assumption) | exact ML_12 (by assumption) | exact ML_13 (by assumption) | exact ML_15 (by assumption) | exact ML_16 (by assumption) | exact ML_17 (by assumption) | exact ML_20 (by assumption) | exact ML_23 (by assumption) | exact ML_24 (by assumption) | exact ML_30 (by assumption) | exact ML_31 (by assumption) | exact ML_32 (by assumption) | exact ML_33 (by assumption) | exact ML_35 (by assumption) | exact ML_36 (by assumption) | exact ML_37 (by assumption) | exact ML_38 (by assumption) | exact ML_41 (by assumption) | exact ML_42 (by assumption) | exact ML_43 (by assumption) | exact ML_44 (by assumption) | exact ML_45 (by assumption) | rfl) ?_
                    refine V_iloadn2 dX10_tableau_85 ?_
                    refine U_iald dX10_tableau_86 (by with_reducible rfl) (by first | assumption | rfl) (by first | decide | omega) (by omega) (by first | assumption | exact ML_4 (by assumption) | exact ML_5 (by assumption) | exact ML_6 (by assumption) | exact ML_7 (by assumption) | exact ML_8 (by assumption) | exact ML_9 (by assumption) | exact ML_10 (by assumption) | exact ML_11 (by assumption) | exact ML_12 (by assumption) | exact ML_13 (by assumption) | exact ML_15 (by assumption) | exact ML_16 (by assumption) | exact ML_17 (by assumption) | exact ML_20 (by assumption) | exact ML_23 (by assumption) | exact ML_24 (by assumption) | exact ML_30 (by assumption) | exact ML_31 (by assumption) | exact ML_32 (by assumption) | exact ML_33 (by assumption) | exact ML_35 (by assumption) | exact ML_36 (by assumption) | exact ML_37 (by assumption) | exact ML_38 (by assumption) | exact ML_41 (by assumption) | exact ML_42 (by assumption) | exact ML_43 (by assumption) | exact ML_44 (by assumption) | exact ML_45 (by assumption) | rfl) ?_
                    first | refine U_if_le (tgt := 106) dX10_tableau_87 (by decide) (by with_reducible rfl) (by omega) (fun c87 => ?_) (fun c87 => ?_) | refine V_if_le (tgt := 106) dX10_tableau_87 (by decide) (fun c87 => ?_) (fun c87 => ?_)
                    · skip
                      omega
                    · skip
                      refine V_iinc2 dX10_tableau_90 (by first | exact ginc1 _ | rfl) (by decide) rfl ?_
                      refine V_aloadn0 dX10_tableau_93 ?_
                      first | refine V_dupa dX10_tableau_94 ?_ | refine V_dupi dX10_tableau_94 ?_
                      refine V_getI dX10_tableau_95 fX10_130 (Or.inl rfl) (by first | assumption | rfl) (by first | decide | omega) (by first | assumption | exact ML_4 (by assumption) | exact ML_5 (by assumption) | exact ML_6 (by assumption) | exact ML_7 (by assumption) | exact ML_8 (by assumption) | exact ML_9 (by assumption) | exact ML_10 (by assumption) | exact ML_11 (by assumption) | exact ML_12 (by assumption) | exact ML_13 (by assumption) | exact ML_15 (by assumption) | exact ML_16 (by assumption) | exact ML_17 (by assumption) | exact ML_20 (by assumption) | exact ML_23 (by assumption) | exact ML_24 (by assumption) | exact ML_30 (by assumption) | exact ML_31 (by assumption) | exact ML_32 (by assumption) | exact ML_33 (by assumption) | exact ML_35 (by assumption) | exact ML_36 (by assumption) | exact ML_37 (by assumption) | exact ML_38 (by assumption) | exact ML_41 (by assumption) | exact ML_42 (by assumption) | exact ML_43 (by assumption) | exact ML_44 (by assumption) | exact ML_45 (by assumption) | rfl) ?_
                      refine V_iconst (v := nI 1) dX10_tableau_98 (by decide) ?_
                      first | refine U_iadd dX10_tableau_99 (by with_reducible rfl) (by with_reducible rfl) ?_ | refine V_iadd dX10_tableau_99 ?_
                      refine V_putI dX10_tableau_100 fX10_130 (by first | assumption | rfl) (by first | decide | omega) ?_
                      refine V_goto (tgt := 177) dX10_tableau_103 (by decide) ?_
                      exact nxt (row + 1) P _ _ hRR (by omega) hTb hsz hne (CG_cg hC3 (by funext b; rw [gI_sI, if_neg (by omega)]) (by funext b; rw [gI_sI, if_neg (by omega)])) (MB_cg hB3 (by rw [gI_sI, if_neg (by omega)]) (by funext b; rw [gI_sI, if_neg (by omega)])) (by rw [gI_sI, if_pos ⟨rfl, rfl⟩]) (frx_sI hF13 (by omega))
            · have hz : (P.getD row []).length = 0 := by rw [getD_out (by omega)]; rfl
              refine V_iloadw4 dX10_tableau_53 ?_
              first | refine U_ifB_eq (tgt := 203) dX10_tableau_55 (by decide) (by with_reducible rfl) (fun c55 => ?_) (fun c55 => ?_) | refine U_if_eq (tgt := 203) dX10_tableau_55 (by decide) (by with_reducible rfl) (by omega) (fun c55 => ?_) (fun c55 => ?_) | refine V_if_eq (tgt := 203) dX10_tableau_55 (by decide) (fun c55 => ?_) (fun c55 => ?_)
              · skip
                cases c55
              · skip
                refine V_aloadn0 dX10_tableau_58 ?_
                refine V_callV0 (μ' := mX10_here) dX10_tableau_59 okX10_here lX10_133 rfl (by first | assumption | rfl) (by first | decide | omega) (Nat.le_of_ble_eq_true rfl) (Nat.le_of_ble_eq_true rfl) (by omega) ?_
                refine m_here hM1 hB1 b60 b255 g22 hsl (fun h2 g2 hF2 => ?_)
                rw [hv]
                have hM2 := MLay_eq hM1 hF2.2.2
                have hB2 := MB_H hB1 hF2
                rw [hsk2] at g2
                dsimp only [gPush]
                refine V_bipush (v := nI 48) dX10_tableau_62 (by decide) ?_
                refine V_isub dX10_tableau_64 ?_
                refine V_istorew5 dX10_tableau_65 (by decide) rfl ?_
                refine V_aloadn0 dX10_tableau_67 ?_
                refine V_callV0 (μ' := mX10_here) dX10_tableau_68 okX10_here lX10_133 rfl (by first | assumption | rfl) (by first | decide | omega) (Nat.le_of_ble_eq_true rfl) (Nat.le_of_ble_eq_true rfl) (by omega) ?_
                refine m_here hM2 hB2 b60 b255 g2 hsl (fun h3 g3 hF3 => ?_)
                rw [hv]
                have hM3 := MLay_eq hM2 hF3.2.2
                have hB3 := MB_H hB2 hF3
                rw [hsk2] at g3
                have hF13 := hF1.tr (hF2.X.tr hF3.X)
                have hC3 := CG_cg hC1 (h' := h3) (by rw [hF3.c (by omega), hF2.c (by omega)]) (by rw [hF3.c (by omega), hF2.c (by omega)])
                have g106' := hC3.1 row (by omega)
                dsimp only [gPush]
                refine V_bipush (v := nI 47) dX10_tableau_71 (by decide) ?_
                first | refine U_icmp_ne (tgt := 106) dX10_tableau_73 (by decide) (by with_reducible rfl) (by with_reducible rfl) (by omega) (by omega) (fun c73 => ?_) (fun c73 => ?_) | refine V_icmp_ne (tgt := 106) dX10_tableau_73 (by decide) (fun c73 => ?_) (fun c73 => ?_)
                · skip
                  omega
                · skip
                  refine V_iloadn2 dX10_tableau_76 ?_
                  refine V_iconst (v := nI 5) dX10_tableau_77 (by decide) ?_
                  first | refine U_icmp_ge (tgt := 106) dX10_tableau_78 (by decide) (by with_reducible rfl) (by with_reducible rfl) (by omega) (by omega) (fun c78 => ?_) (fun c78 => ?_) | refine V_icmp_ge (tgt := 106) dX10_tableau_78 (by decide) (fun c78 => ?_) (fun c78 => ?_)
                  · skip
                    exact letter h3 (fun q => hrp q.2) hC3 hB3 g3 hF13
                  · skip
                    refine V_aloadn0 dX10_tableau_81 ?_
                    refine V_getR dX10_tableau_82 fX10_50 (by first | assumption | rfl) (by first | decide | omega) (by first | assumption | exact ML_4 (by assumption) | exact ML_5 (by assumption) | exact ML_6 (by assumption) | exact ML_7 (by assumption) | exact ML_8 (by assumption) | exact ML_9 (by assumption) | exact ML_10 (by assumption) | exact ML_11 (by assumption) | exact ML_12 (by assumption) | exact ML_13 (by assumption) | exact ML_15 (by assumption) | exact ML_16 (by assumption) | exact ML_17 (by assumption) | exact ML_20 (by assumption) | exact ML_23 (by assumption) | exact ML_24 (by assumption) | exact ML_30 (by assumption) | exact ML_31 (by assumption) | exact ML_32 (by assumption) | exact ML_33 (by assumption) | exact ML_35 (by assumption) | exact ML_36 (by assumption) | exact ML_37 (by assumption) | exact ML_38 (by assumption) | exact ML_41 (by assumption) | exact ML_42 (by assumption) | exact ML_43 (by assumption) | exact ML_44 (by assumption) | exact ML_45 (by assumption) | rfl) ?_
                    refine V_iloadn2 dX10_tableau_85 ?_
                    refine U_iald dX10_tableau_86 (by with_reducible rfl) (by first | assumption | rfl) (by first | decide | omega) (by omega) (by first | assumption | exact ML_4 (by assumption) | exact ML_5 (by assumption) | exact ML_6 (by assumption) | exact ML_7 (by assumption) | exact ML_8 (by assumption) | exact ML_9 (by assumption) | exact ML_10 (by assumption) | exact ML_11 (by assumption) | exact ML_12 (by assumption) | exact ML_13 (by assumption) | exact ML_15 (by assumption) | exact ML_16 (by assumption) | exact ML_17 (by assumption) | exact ML_20 (by assumption) | exact ML_23 (by assumption) | exact ML_24 (by assumption) | exact ML_30 (by assumption) | exact ML_31 (by assumption) | exact ML_32 (by assumption) | exact ML_33 (by assumption) | exact ML_35 (by assumption) | exact ML_36 (by assumption) | exact ML_37 (by assumption) | exact ML_38 (by assumption) | exact ML_41 (by assumption) | exact ML_42 (by assumption) | exact ML_43 (by assumption) | exact ML_44 (by assumption) | exact ML_45 (by assumption) | rfl) ?_
                    first | refine U_if_le (tgt := 106) dX10_tableau_87 (by decide) (by with_reducible rfl) (by omega) (fun c87 => ?_) (fun c87 => ?_) | refine V_if_le (tgt := 106) dX10_tableau_87 (by decide) (fun c87 => ?_) (fun c87 => ?_)
                    · skip
                      exact letter h3 (fun q => hrp q.2) hC3 hB3 g3 hF13
                    · skip
                      omega
          · skip
            refine V_iloadw4 dX10_tableau_53 ?_
            first | refine U_ifB_eq (tgt := 203) dX10_tableau_55 (by decide) (by with_reducible rfl) (fun c55 => ?_) (fun c55 => ?_) | refine U_if_eq (tgt := 203) dX10_tableau_55 (by decide) (by with_reducible rfl) (by omega) (fun c55 => ?_) (fun c55 => ?_) | refine V_if_eq (tgt := 203) dX10_tableau_55 (by decide) (fun c55 => ?_) (fun c55 => ?_)
            · skip
              cases c55
            · skip
              refine V_aloadn0 dX10_tableau_58 ?_
              refine V_callV0 (μ' := mX10_here) dX10_tableau_59 okX10_here lX10_133 rfl (by first | assumption | rfl) (by first | decide | omega) (Nat.le_of_ble_eq_true rfl) (Nat.le_of_ble_eq_true rfl) (by omega) ?_
              refine m_here hM1 hB1 b60 b255 g22 hsl (fun h2 g2 hF2 => ?_)
              rw [hv]
              have hM2 := MLay_eq hM1 hF2.2.2
              have hB2 := MB_H hB1 hF2
              rw [hsk2] at g2
              dsimp only [gPush]
              refine V_bipush (v := nI 48) dX10_tableau_62 (by decide) ?_
              refine V_isub dX10_tableau_64 ?_
              refine V_istorew5 dX10_tableau_65 (by decide) rfl ?_
              refine V_aloadn0 dX10_tableau_67 ?_
              refine V_callV0 (μ' := mX10_here) dX10_tableau_68 okX10_here lX10_133 rfl (by first | assumption | rfl) (by first | decide | omega) (Nat.le_of_ble_eq_true rfl) (Nat.le_of_ble_eq_true rfl) (by omega) ?_
              refine m_here hM2 hB2 b60 b255 g2 hsl (fun h3 g3 hF3 => ?_)
              rw [hv]
              have hM3 := MLay_eq hM2 hF3.2.2
              have hB3 := MB_H hB2 hF3
              rw [hsk2] at g3
              have hF13 := hF1.tr (hF2.X.tr hF3.X)
              have hC3 := CG_cg hC1 (h' := h3) (by rw [hF3.c (by omega), hF2.c (by omega)]) (by rw [hF3.c (by omega), hF2.c (by omega)])
              dsimp only [gPush]
              refine V_bipush (v := nI 47) dX10_tableau_71 (by decide) ?_
              first | refine U_icmp_ne (tgt := 106) dX10_tableau_73 (by decide) (by with_reducible rfl) (by with_reducible rfl) (by omega) (by omega) (fun c73 => ?_) (fun c73 => ?_) | refine V_icmp_ne (tgt := 106) dX10_tableau_73 (by decide) (fun c73 => ?_) (fun c73 => ?_)
              · skip
                exact letter h3 (fun q => h47 q.1) hC3 hB3 g3 hF13
              · skip
                omega
        · rw [if_neg hlt] at hRR
          rw [decide_eq_false hlt, Bool.false_or] at hm
          by_cases hc : row = 0 ∨ row < P.length
          · rw [decide_eq_true hc] at hm hRR
            subst hm
            refine V_iloadw4 dX10_tableau_53 ?_
            first | refine U_ifB_eq (tgt := 203) dX10_tableau_55 (by decide) (by with_reducible rfl) (fun c55 => ?_) (fun c55 => ?_) | refine U_if_eq (tgt := 203) dX10_tableau_55 (by decide) (by with_reducible rfl) (by omega) (fun c55 => ?_) (fun c55 => ?_) | refine V_if_eq (tgt := 203) dX10_tableau_55 (by decide) (fun c55 => ?_) (fun c55 => ?_)
            · skip
              exact exitT h1 P _ _ _ _ (by rw [hRR]) (by rw [hRR]) hC1 hF1
            · skip
              cases c55
          · rw [decide_eq_false hc] at hm hRR
            subst hm
            have hv : hrV B (skp B a) = -1 := by unfold hrV; rw [hsk2, if_neg hlt]
            have hrow6 : (P.getD row []).length = 0 := by rw [getD_out (by omega)]; rfl
            have g106 : gI h1 106 row = nI 0 := by rw [hC1.1 row (by omega), hrow6]
            refine V_iloadw4 dX10_tableau_53 ?_
            first | refine U_ifB_eq (tgt := 203) dX10_tableau_55 (by decide) (by with_reducible rfl) (fun c55 => ?_) (fun c55 => ?_) | refine U_if_eq (tgt := 203) dX10_tableau_55 (by decide) (by with_reducible rfl) (by omega) (fun c55 => ?_) (fun c55 => ?_) | refine V_if_eq (tgt := 203) dX10_tableau_55 (by decide) (fun c55 => ?_) (fun c55 => ?_)
            · skip
              cases c55
            · skip
              refine V_aloadn0 dX10_tableau_58 ?_
              refine V_callV0 (μ' := mX10_here) dX10_tableau_59 okX10_here lX10_133 rfl (by first | assumption | rfl) (by first | decide | omega) (Nat.le_of_ble_eq_true rfl) (Nat.le_of_ble_eq_true rfl) (by omega) ?_
              refine m_here hM1 hB1 b60 b255 g22 hsl (fun h2 g2 hF2 => ?_)
              rw [hv]
              have hM2 := MLay_eq hM1 hF2.2.2
              have hB2 := MB_H hB1 hF2
              rw [hsk2] at g2
              dsimp only [gPush]
              refine V_bipush (v := nI 48) dX10_tableau_62 (by decide) ?_
              refine V_isub dX10_tableau_64 ?_
              refine V_istorew5 dX10_tableau_65 (by decide) rfl ?_
              refine V_aloadn0 dX10_tableau_67 ?_
              refine V_callV0 (μ' := mX10_here) dX10_tableau_68 okX10_here lX10_133 rfl (by first | assumption | rfl) (by first | decide | omega) (Nat.le_of_ble_eq_true rfl) (Nat.le_of_ble_eq_true rfl) (by omega) ?_
              refine m_here hM2 hB2 b60 b255 g2 hsl (fun h3 g3 hF3 => ?_)
              rw [hv]
              have hM3 := MLay_eq hM2 hF3.2.2
              have hB3 := MB_H hB2 hF3
              rw [hsk2] at g3
              have hF13 := hF1.tr (hF2.X.tr hF3.X)
              have g106' : gI h3 106 row = nI 0 := by rw [hF3.c (by omega), hF2.c (by omega)]; exact g106
              dsimp only [gPush]
              refine V_bipush (v := nI 47) dX10_tableau_71 (by decide) ?_
              refine V_icmp_ne (tgt := 106) dX10_tableau_73 (by decide) (fun _ => ?_) (fun c73 => absurd c73 (by decide))
              refine V_iloadn3 dX10_tableau_106 ?_
              refine V_bipush (v := nI 6) dX10_tableau_107 (by decide) ?_
              first | refine U_icmp_ge (tgt := 172) dX10_tableau_109 (by decide) (by with_reducible rfl) (by with_reducible rfl) (by omega) (by omega) (fun c109 => ?_) (fun c109 => ?_) | refine V_icmp_ge (tgt := 172) dX10_tableau_109 (by decide) (fun c109 => ?_) (fun c109 => ?_)
              · skip
                exact exitF h3 (skp B a) _ _ _ _ (by rw [hRR]) (by rw [hRR, hsk2]) hsl g3 hB3 hF13
              · skip
                refine V_aloadn0 dX10_tableau_112 ?_
                refine V_iloadw5 dX10_tableau_113 ?_
                refine V_iloadn2 dX10_tableau_115 ?_
                refine V_aloadn0 dX10_tableau_116 ?_
                refine V_getR dX10_tableau_117 fX10_50 (by first | assumption | rfl) (by first | decide | omega) (by first | assumption | exact ML_4 (by assumption) | exact ML_5 (by assumption) | exact ML_6 (by assumption) | exact ML_7 (by assumption) | exact ML_8 (by assumption) | exact ML_9 (by assumption) | exact ML_10 (by assumption) | exact ML_11 (by assumption) | exact ML_12 (by assumption) | exact ML_13 (by assumption) | exact ML_15 (by assumption) | exact ML_16 (by assumption) | exact ML_17 (by assumption) | exact ML_20 (by assumption) | exact ML_23 (by assumption) | exact ML_24 (by assumption) | exact ML_30 (by assumption) | exact ML_31 (by assumption) | exact ML_32 (by assumption) | exact ML_33 (by assumption) | exact ML_35 (by assumption) | exact ML_36 (by assumption) | exact ML_37 (by assumption) | exact ML_38 (by assumption) | exact ML_41 (by assumption) | exact ML_42 (by assumption) | exact ML_43 (by assumption) | exact ML_44 (by assumption) | exact ML_45 (by assumption) | rfl) ?_
                refine V_iloadn2 dX10_tableau_120 ?_
                refine U_iald dX10_tableau_121 (by with_reducible rfl) (by first | assumption | rfl) (by first | decide | omega) (by omega) (by first | assumption | exact ML_4 (by assumption) | exact ML_5 (by assumption) | exact ML_6 (by assumption) | exact ML_7 (by assumption) | exact ML_8 (by assumption) | exact ML_9 (by assumption) | exact ML_10 (by assumption) | exact ML_11 (by assumption) | exact ML_12 (by assumption) | exact ML_13 (by assumption) | exact ML_15 (by assumption) | exact ML_16 (by assumption) | exact ML_17 (by assumption) | exact ML_20 (by assumption) | exact ML_23 (by assumption) | exact ML_24 (by assumption) | exact ML_30 (by assumption) | exact ML_31 (by assumption) | exact ML_32 (by assumption) | exact ML_33 (by assumption) | exact ML_35 (by assumption) | exact ML_36 (by assumption) | exact ML_37 (by assumption) | exact ML_38 (by assumption) | exact ML_41 (by assumption) | exact ML_42 (by assumption) | exact ML_43 (by assumption) | exact ML_44 (by assumption) | exact ML_45 (by assumption) | rfl) ?_
                refine V_callV3 (μ' := mX10_mayStand) dX10_tableau_122 okX10_mayStand lX10_137 rfl (by first | assumption | rfl) (by first | decide | omega) (Nat.le_of_ble_eq_true rfl) (Nat.le_of_ble_eq_true rfl) (by omega) ?_
                refine m_mayBad (by omega) (by rw [hF13.2.1 0 (by omega)]; exact r0) (end_in S.1.1 (by omega)) ?_
                dsimp only [gPush]
                first | refine U_ifB_eq (tgt := 172) dX10_tableau_125 (by decide) (by with_reducible rfl) (fun c125 => ?_) (fun c125 => ?_) | refine U_if_eq (tgt := 172) dX10_tableau_125 (by decide) (by with_reducible rfl) (by omega) (fun c125 => ?_) (fun c125 => ?_) | refine V_if_eq (tgt := 172) dX10_tableau_125 (by decide) (fun c125 => ?_) (fun c125 => ?_)
                · skip
                  exact exitF h3 (skp B a) _ _ _ _ (by rw [hRR]) (by rw [hRR, hsk2]) hsl g3 hB3 hF13
                · skip
                  cases c125
    have start : ∀ h1 x4 x5, gI h1 94 22 = nI 0 → CG h1 [] → MB h1 B → FrX h h1 → V Γ mX10_tableau d 124 124 h1 39 [some (.ref 94), some (.int (nI s)), some (.int (nI 0)), some (.int (nI 0)), x4, x5] [] Q := by
      intro h1 x4 x5 g22 hC1 hB1 hF1
      have hM1 := MLay_eq hM hF1.2.2.2
      by_cases hlt : skp B 0 < B.length
      · have hv : hrV B 0 = nI (B.getD (skp B 0) 0) := if_pos hlt
        have h9 := b255 (skp B 0)
        refine V_aloadn0 dX10_tableau_39 ?_
        refine V_callV0 (μ' := mX10_here) dX10_tableau_40 okX10_here lX10_133 rfl (by first | assumption | rfl) (by first | decide | omega) (Nat.le_of_ble_eq_true rfl) (Nat.le_of_ble_eq_true rfl) (by omega) ?_
        refine m_here hM1 hB1 b60 b255 g22 (Nat.zero_le _) (fun h2 g2 hF2 => ?_)
        rw [hv]
        dsimp only [gPush]
        refine V_if_lt (tgt := 50) dX10_tableau_43 (by decide) (fun c43 => ?_) (fun c43 => ?_)
        · skip
          exact absurd c43 (nI_pos (by omega))
        · skip
          refine V_iconst (v := nI 1) dX10_tableau_46 (by decide) ?_
          refine V_goto (tgt := 51) dX10_tableau_47 (by decide) ?_
          refine V_istorew4 dX10_tableau_51 (by decide) rfl ?_
          exact loop 60 0 0 [] h2 true _ (by omega) eR (Nat.le_refl _) trivial (Nat.zero_le _) (Nat.zero_le _) (by rw [decide_eq_true hlt]; rfl) (CG_cg hC1 (hF2.c (by omega)) (hF2.c (by omega))) (MB_H hB1 hF2) g2 (hF1.tr hF2.X)
      · have hv : hrV B 0 = -1 := if_neg hlt
        refine V_aloadn0 dX10_tableau_39 ?_
        refine V_callV0 (μ' := mX10_here) dX10_tableau_40 okX10_here lX10_133 rfl (by first | assumption | rfl) (by first | decide | omega) (Nat.le_of_ble_eq_true rfl) (Nat.le_of_ble_eq_true rfl) (by omega) ?_
        refine m_here hM1 hB1 b60 b255 g22 (Nat.zero_le _) (fun h2 g2 hF2 => ?_)
        rw [hv]
        dsimp only [gPush]
        refine V_if_lt (tgt := 50) dX10_tableau_43 (by decide) (fun c43 => ?_) (fun c43 => ?_)
        · skip
          refine V_iconst (v := nI 0) dX10_tableau_50 (by decide) ?_
          refine V_istorew4 dX10_tableau_51 (by decide) rfl ?_
          exact loop 60 0 0 [] h2 false _ (by omega) eR (Nat.le_refl _) trivial (Nat.zero_le _) (Nat.zero_le _) (by rw [decide_eq_false hlt, decide_eq_true (Or.inl rfl)]; rfl) (CG_cg hC1 (hF2.c (by omega)) (hF2.c (by omega))) (MB_H hB1 hF2) g2 (hF1.tr hF2.X)
        · skip
          exact absurd (by decide) c43
    have zloop : ∀ f q h1, q + f = 6 → (∀ j, j < q → gI h1 106 j = nI 0) → FrX h h1 → V Γ mX10_tableau d 124 124 h1 11 [some (.ref 94), some (.int (nI s)), some (.int (nI q)), none, none, none] [] Q := by
      intro f
      induction f with
      | zero =>
        intro q h1 hq hz hF
        have hC : CG (sI h1 94 22 (nI 0)) [] := ⟨fun r hr => by rw [gI_sI, if_neg (by omega), hz r (by omega)]; simp, fun r c hr hc => by simp at hc, by decide, by decide, fun r c => by simp⟩
        have hB1 : MB h1 B := MB_cg rB (hF.2.1 21 (by omega)) (hF.1 108 (by omega))
        refine V_iloadn2 dX10_tableau_11 ?_
        refine V_bipush (v := nI 6) dX10_tableau_12 (by decide) ?_
        first | refine U_icmp_ge (tgt := 30) dX10_tableau_14 (by decide) (by with_reducible rfl) (by with_reducible rfl) (by omega) (by omega) (fun c14 => ?_) (fun c14 => ?_) | refine V_icmp_ge (tgt := 30) dX10_tableau_14 (by decide) (fun c14 => ?_) (fun c14 => ?_)
        · skip
          refine V_aloadn0 dX10_tableau_30 ?_
          refine V_iconst (v := nI 0) dX10_tableau_31 (by decide) ?_
          refine V_putI dX10_tableau_32 fX10_130 (by first | assumption | rfl) (by first | decide | omega) ?_
          refine V_iconst (v := nI 0) dX10_tableau_35 (by decide) ?_
          refine V_istoren2 dX10_tableau_36 (by decide) rfl ?_
          refine V_iconst (v := nI 0) dX10_tableau_37 (by decide) ?_
          refine V_istoren3 dX10_tableau_38 (by decide) rfl ?_
          exact start _ _ _ (by rw [gI_sI, if_pos ⟨rfl, rfl⟩]) hC (MB_cg hB1 (by rw [gI_sI, if_neg (by omega)]) (by funext b; rw [gI_sI, if_neg (by omega)])) (frx_sI hF (by omega))
        · skip
          omega
      | succ f ih =>
        intro q h1 hq hz hF
        have hM1 := MLay_eq hM hF.2.2.2
        refine V_iloadn2 dX10_tableau_11 ?_
        refine V_bipush (v := nI 6) dX10_tableau_12 (by decide) ?_
        first | refine U_icmp_ge (tgt := 30) dX10_tableau_14 (by decide) (by with_reducible rfl) (by with_reducible rfl) (by omega) (by omega) (fun c14 => ?_) (fun c14 => ?_) | refine V_icmp_ge (tgt := 30) dX10_tableau_14 (by decide) (fun c14 => ?_) (fun c14 => ?_)
        · skip
          omega
        · skip
          refine V_aloadn0 dX10_tableau_17 ?_
          refine V_getR dX10_tableau_18 fX10_50 (by first | assumption | rfl) (by first | decide | omega) (by first | assumption | exact ML_4 (by assumption) | exact ML_5 (by assumption) | exact ML_6 (by assumption) | exact ML_7 (by assumption) | exact ML_8 (by assumption) | exact ML_9 (by assumption) | exact ML_10 (by assumption) | exact ML_11 (by assumption) | exact ML_12 (by assumption) | exact ML_13 (by assumption) | exact ML_15 (by assumption) | exact ML_16 (by assumption) | exact ML_17 (by assumption) | exact ML_20 (by assumption) | exact ML_23 (by assumption) | exact ML_24 (by assumption) | exact ML_30 (by assumption) | exact ML_31 (by assumption) | exact ML_32 (by assumption) | exact ML_33 (by assumption) | exact ML_35 (by assumption) | exact ML_36 (by assumption) | exact ML_37 (by assumption) | exact ML_38 (by assumption) | exact ML_41 (by assumption) | exact ML_42 (by assumption) | exact ML_43 (by assumption) | exact ML_44 (by assumption) | exact ML_45 (by assumption) | rfl) ?_
          refine V_iloadn2 dX10_tableau_21 ?_
          refine V_iconst (v := nI 0) dX10_tableau_22 (by decide) ?_
          refine U_iast dX10_tableau_23 (by with_reducible rfl) (by first | assumption | rfl) (by first | decide | omega) (by omega) ?_
          refine V_iinc2 dX10_tableau_24 (by first | exact ginc1 _ | rfl) (by decide) rfl ?_
          refine V_goto (tgt := 11) dX10_tableau_27 (by decide) ?_
          refine ih (q + 1) _ (by omega) (fun j hj => ?_) (frx_sI hF (by omega))
          rw [gI_sI]
          by_cases e : j = q
          · rw [if_pos ⟨rfl, e⟩]
          · rw [if_neg (fun z => e z.2)]; exact hz j (by omega)
    refine V_iloadn1 dX10_tableau_0 ?_
    refine V_callS1 (μ' := mX10_isSlot) dX10_tableau_1 okX10_isSlot lX10_114 (Nat.le_of_ble_eq_true rfl) (Nat.le_of_ble_eq_true rfl) (by omega) ?_
    refine m_isSlot (by omega) ?_
    rw [hg]
    dsimp only [gPush]
    first | refine U_ifB_ne (tgt := 9) dX10_tableau_4 (by decide) (by with_reducible rfl) (fun c4 => ?_) (fun c4 => ?_) | refine U_if_ne (tgt := 9) dX10_tableau_4 (by decide) (by with_reducible rfl) (by omega) (fun c4 => ?_) (fun c4 => ?_) | refine V_if_ne (tgt := 9) dX10_tableau_4 (by decide) (fun c4 => ?_) (fun c4 => ?_)
    · skip
      refine V_iconst (v := nI 0) dX10_tableau_9 (by decide) ?_
      refine V_istoren2 dX10_tableau_10 (by decide) rfl ?_
      exact zloop 6 0 h rfl (fun j hj => absurd hj (Nat.not_lt_zero _)) FrX.rf
    · skip
      cases c4

end C73
