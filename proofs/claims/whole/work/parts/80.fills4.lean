/-! ===== the reference: all fillings ===== -/
def smI : List Int32 → Int32
  | [] => 0
  | a :: l => a + smI l
theorem smI_app : ∀ a b, smI (a ++ b) = smI a + smI b
  | [], b => (Int32.zero_add _).symm
  | x :: a, b => by rw [List.cons_append, smI, smI, smI_app a b, Int32.add_assoc]
def FrW (h h' : gH) : Prop := (∀ a, a ≠ 94 → a ≠ 105 → a ≠ 106 → a ≠ 109 → a ≠ 110 → gI h' a = gI h a) ∧ (∀ k, k < 18 ∨ (20 ≤ k ∧ k < 25) ∨ (28 < k ∧ k ≠ 39) → gI h' 94 k = gI h 94 k) ∧ (∀ a b, ¬ (a = 94 ∧ b = 40) → gL h' a b = gL h a b) ∧ gR h' = gR h
theorem FrW.rf {h : gH} : FrW h h := ⟨fun _ _ _ _ _ _ => rfl, fun _ _ => rfl, fun _ _ _ => rfl, rfl⟩
theorem FrW.tr {h h' h'' : gH} (a : FrW h h') (b : FrW h' h'') : FrW h h'' := ⟨fun x p q r s t => (b.1 x p q r s t).trans (a.1 x p q r s t), fun k hk => (b.2.1 k hk).trans (a.2.1 k hk), fun x y z => (b.2.2.1 x y z).trans (a.2.2.1 x y z), b.2.2.2.trans a.2.2.2⟩
theorem FrLf.W {h h' : gH} (a : FrLf h h') : FrW h h' := ⟨fun x p q _ _ t => a.1 x p q t, a.2.1, a.2.2.1, a.2.2.2⟩
theorem frw_sI {h h' : gH} {x k : Nat} {v : Int32} (f : FrW h h') (hs : x = 105 ∨ x = 106 ∨ x = 109 ∨ x = 110 ∨ (x = 94 ∧ k = 39)) : FrW h (sI h' x k v) := ⟨fun y p q r s t => by funext b; rw [gI_sI, if_neg (by omega)]; exact congrFun (f.1 y p q r s t) b, fun y hy => by rw [gI_sI, if_neg (by omega)]; exact f.2.1 y hy, f.2.2.1, f.2.2.2⟩
/-- what the fillings' walk needs of the heap -/
def FK (h : gH) (n mode : Nat) (L L2 : List Nat) (wt D : Nat → Nat) : Prop := MLay h ∧ gI h 94 0 = nI n ∧ (∀ r, r < 6 → gI h 119 r = nI (L.getD r 0)) ∧ (∀ x, 1 ≤ x → x ≤ n → gI h 103 x = nI (wt x)) ∧ (mode ≠ 2 → ∀ x, 1 ≤ x → x ≤ n → gI h 118 x = nI (D x) ∧ D x ≤ 9) ∧ (mode = 1 → (∀ r, r < 6 → gI h 116 r = nI (L2.getD r 0)) ∧ L.sum + (bq L2 6).length ≤ 6)
theorem FK_fr {h h' : gH} {n mode : Nat} {L L2 : List Nat} {wt D : Nat → Nat} (a : FK h n mode L L2 wt D) (f : FrW h h') : FK h' n mode L L2 wt D := by
  obtain ⟨a0, a1, a2, a3, a4, a5⟩ := a
  refine ⟨MLay_eq a0 f.2.2.2, by rw [f.2.1 0 (by omega)]; exact a1, fun r hr => by rw [f.1 119 (by omega) (by omega) (by omega) (by omega) (by omega)]; exact a2 r hr, fun x h1 h2 => by rw [f.1 103 (by omega) (by omega) (by omega) (by omega) (by omega)]; exact a3 x h1 h2, fun z x h1 h2 => by rw [f.1 118 (by omega) (by omega) (by omega) (by omega) (by omega)]; exact a4 z x h1 h2, fun z => ⟨fun r hr => by rw [f.1 116 (by omega) (by omega) (by omega) (by omega) (by omega)]; exact (a5 z).1 r hr, (a5 z).2⟩⟩
def foF (mode n : Nat) (L L2 : List Nat) (D : Nat → Nat) (l : List (List Nat)) : Int32 := smI (l.map (fun c => gBo (mOk mode n D (cutP L c) L2)))
def woM (mode n : Nat) (L L2 : List Nat) (wt : Nat → Nat) (l : List (List Nat)) : Int64 := sm (l.map (fun c => PX wt (mW mode (cutP L c) L2) n))
theorem foF_app (mode n : Nat) (L L2 : List Nat) (D : Nat → Nat) (a b : List (List Nat)) : foF mode n L L2 D (a ++ b) = foF mode n L L2 D a + foF mode n L L2 D b := by unfold foF; rw [List.map_append, smI_app]
theorem woM_app (mode n : Nat) (L L2 : List Nat) (wt : Nat → Nat) (a b : List (List Nat)) : woM mode n L L2 wt (a ++ b) = woM mode n L L2 wt a + woM mode n L L2 wt b := by unfold woM; rw [List.map_append, sm_app]
section C80
variable {Γ : gM} {S : GS}
set_option maxRecDepth 100000 in
set_option maxHeartbeats 4000000 in
theorem m_fills {n mode : Nat} {L L2 : List Nat} {wt D : Nat → Nat} (hn1 : 1 ≤ n) (hn5 : n ≤ 5) (hS : ShP L) (hm : mode ≤ 2) (hwt9 : ∀ x, wt x ≤ 99) : ∀ (g : Nat) (c : List Nat) (row col f d : Nat) (h : gH) (Q : Option Value → gH → Prop) (v : Int32) (u : Int64), L.sum - c.length + (6 - row) ≤ g → g + 4 ≤ d → L.sum - c.length + (L.length - row) + 1 ≤ f → row ≤ 6 → c.length = psum L row + col → (∀ y, y ∈ c → 1 ≤ y) → col ≤ L.getD row 0 → FK h n mode L L2 wt D → CG h (cutP L c) → gI h 94 39 = v → gL h 94 40 = u → (∀ h', gI h' 94 39 = v + foF mode n L L2 D (lvF L n f c row col) → gL h' 94 40 = u + woM mode n L L2 wt (lvF L n f c row col) → CG h' (cutP L c) → FrW h h' → Q none h') → V Γ mX10_fills d 124 124 h 0 [some (.ref 94), some (.int (nI mode)), some (.int (nI row)), some (.int (nI col)), none] [] Q := by
  obtain ⟨s5, s6, s1, smo⟩ := id hS
  have hL6 : ∀ r, L.getD r 0 ≤ 6 := fun r => by
    have a := psum_le L (r + 1)
    rw [psum_s] at a
    omega
  intro g
  induction g with
  | zero =>
    intro c row col f d h Q v u hg hd hf hr6 hc hc1 hcol hK hC g39 g40 hQ
    obtain ⟨k0, k1, k2, k3, k4, k5⟩ := id hK
    have e6 : row = 6 := by omega
    subst e6
    have hps : psum L 6 = L.sum := psum_all (by omega)
    have hle := psum_le L 7
    rw [psum_s] at hle
    have hsz := cutP_sz (L := L) (c := c) (by omega) (by omega)
    obtain ⟨f, rfl⟩ : ∃ f', f = f' + 1 := ⟨f - 1, by omega⟩
    have elv : lvF L n (f + 1) c 6 col = [c] := by rw [lvF, if_pos (by omega)]
    rw [elv] at hQ
    refine V_iloadn2 dX10_fills_0 ?_
    refine V_bipush (v := nI 6) dX10_fills_1 (by decide) ?_
    first | refine U_icmp_eq (tgt := 15) dX10_fills_3 (by decide) (by with_reducible rfl) (by with_reducible rfl) (by omega) (by omega) (fun c3 => ?_) (fun c3 => ?_) | refine V_icmp_eq (tgt := 15) dX10_fills_3 (by decide) (fun c3 => ?_) (fun c3 => ?_)
    · skip
      refine V_aloadn0 dX10_fills_15 ?_
      refine V_iloadn1 dX10_fills_16 ?_
      refine V_callV1 (μ' := mX10_isFilled) dX10_fills_17 okX10_isFilled lX10_263 rfl (by first | assumption | rfl) (by first | decide | omega) (Nat.le_of_ble_eq_true rfl) (Nat.le_of_ble_eq_true rfl) (by omega) ?_
      refine m_isFilled (by omega) hn1 hn5 k0 k1 hC hm k3 hwt9 k4 (fun z => ⟨(k5 z).1, by have := (k5 z).2; omega⟩) g39 g40 (fun h1 a1 a2 hF1 => ?_)
      dsimp only [gPush]
      refine V_goto (tgt := 112) dX10_fills_20 (by decide) ?_
      refine V_ret dX10_fills_112 rfl ?_
      refine hQ h1 ?_ ?_ (CG_cg hC (hF1.1 106 (by omega) (by omega) (by omega)) (hF1.1 109 (by omega) (by omega) (by omega))) hF1.W
      · rw [a1]; unfold foF; rw [List.map_cons, List.map_nil, smI, smI, Int32.add_zero]
      · rw [a2]; unfold woM; rw [List.map_cons, List.map_nil, sm, sm, Int64.add_zero]
    · skip
      omega
  | succ g ih =>
    intro c row col f d h Q v u hg hd hf hr6 hc hc1 hcol hK hC g39 g40 hQ
    obtain ⟨k0, k1, k2, k3, k4, k5⟩ := id hK
    have hle := psum_le L (row + 1)
    rw [psum_s] at hle
    have hsz := cutP_sz (L := L) (c := c) (by omega) (by omega)
    obtain ⟨f, rfl⟩ : ∃ f', f = f' + 1 := ⟨f - 1, by omega⟩
    have leaf : L.length ≤ row → V Γ mX10_fills d 124 124 h 15 [some (.ref 94), some (.int (nI mode)), some (.int (nI row)), some (.int (nI col)), none] [] Q := by
      intro hrow
      have hps : psum L row = L.sum := psum_all hrow
      have elv : lvF L n (f + 1) c row col = [c] := by rw [lvF, if_pos (by omega)]
      rw [elv] at hQ
      refine V_aloadn0 dX10_fills_15 ?_
      refine V_iloadn1 dX10_fills_16 ?_
      refine V_callV1 (μ' := mX10_isFilled) dX10_fills_17 okX10_isFilled lX10_263 rfl (by first | assumption | rfl) (by first | decide | omega) (Nat.le_of_ble_eq_true rfl) (Nat.le_of_ble_eq_true rfl) (by omega) ?_
      refine m_isFilled (by omega) hn1 hn5 k0 k1 hC hm k3 hwt9 k4 (fun z => ⟨(k5 z).1, by have := (k5 z).2; omega⟩) g39 g40 (fun h1 a1 a2 hF1 => ?_)
      dsimp only [gPush]
      refine V_goto (tgt := 112) dX10_fills_20 (by decide) ?_
      refine V_ret dX10_fills_112 rfl ?_
      refine hQ h1 ?_ ?_ (CG_cg hC (hF1.1 106 (by omega) (by omega) (by omega)) (hF1.1 109 (by omega) (by omega) (by omega))) hF1.W
      · rw [a1]; unfold foF; rw [List.map_cons, List.map_nil, smI, smI, Int32.add_zero]
      · rw [a2]; unfold woM; rw [List.map_cons, List.map_nil, sm, sm, Int64.add_zero]
    by_cases r6 : row = 6
    · skip
      refine V_iloadn2 dX10_fills_0 ?_
      refine V_bipush (v := nI 6) dX10_fills_1 (by decide) ?_
      first | refine U_icmp_eq (tgt := 15) dX10_fills_3 (by decide) (by with_reducible rfl) (by with_reducible rfl) (by omega) (by omega) (fun c3 => ?_) (fun c3 => ?_) | refine V_icmp_eq (tgt := 15) dX10_fills_3 (by decide) (fun c3 => ?_) (fun c3 => ?_)
      · skip
        exact leaf (by omega)
      · skip
        omega
    have g119 := k2 row (by omega)
    have hl6 := hL6 row
    by_cases hrl : L.length ≤ row
    · have ez : L.getD row 0 = 0 := by rw [List.getD_eq_getElem?_getD, List.getElem?_eq_none (by omega)]; rfl
      refine V_iloadn2 dX10_fills_0 ?_
      refine V_bipush (v := nI 6) dX10_fills_1 (by decide) ?_
      first | refine U_icmp_eq (tgt := 15) dX10_fills_3 (by decide) (by with_reducible rfl) (by with_reducible rfl) (by omega) (by omega) (fun c3 => ?_) (fun c3 => ?_) | refine V_icmp_eq (tgt := 15) dX10_fills_3 (by decide) (fun c3 => ?_) (fun c3 => ?_)
      · skip
        omega
      · skip
        refine V_aloadn0 dX10_fills_6 ?_
        refine V_getR dX10_fills_7 fX10_89 (by first | assumption | rfl) (by first | decide | omega) (by first | assumption | exact ML_4 (by assumption) | exact ML_5 (by assumption) | exact ML_6 (by assumption) | exact ML_7 (by assumption) | exact ML_8 (by assumption) | exact ML_9 (by assumption) | exact ML_10 (by assumption) | exact ML_11 (by assumption) | exact ML_12 (by assumption) | exact ML_13 (by assumption) | exact ML_15 (by assumption) | exact ML_16 (by assumption) | exact ML_17 (by assumption) | exact ML_20 (by assumption) | exact ML_23 (by assumption) | exact ML_24 (by assumption) | exact ML_30 (by assumption) | exact ML_31 (by assumption) | exact ML_32 (by assumption) | exact ML_33 (by assumption) | exact ML_35 (by assumption) | exact ML_36 (by assumption) | exact ML_37 (by assumption) | exact ML_38 (by assumption) | exact ML_41 (by assumption) | exact ML_42 (by assumption) | exact ML_43 (by assumption) | exact ML_44 (by assumption) | exact ML_45 (by assumption) | rfl) ?_
        refine V_iloadn2 dX10_fills_10 ?_
        refine U_iald dX10_fills_11 (by with_reducible rfl) (by first | assumption | rfl) (by first | decide | omega) (by omega) (by first | assumption | exact ML_4 (by assumption) | exact ML_5 (by assumption) | exact ML_6 (by assumption) | exact ML_7 (by assumption) | exact ML_8 (by assumption) | exact ML_9 (by assumption) | exact ML_10 (by assumption) | exact ML_11 (by assumption) | exact ML_12 (by assumption) | exact ML_13 (by assumption) | exact ML_15 (by assumption) | exact ML_16 (by assumption) | exact ML_17 (by assumption) | exact ML_20 (by assumption) | exact ML_23 (by assumption) | exact ML_24 (by assumption) | exact ML_30 (by assumption) | exact ML_31 (by assumption) | exact ML_32 (by assumption) | exact ML_33 (by assumption) | exact ML_35 (by assumption) | exact ML_36 (by assumption) | exact ML_37 (by assumption) | exact ML_38 (by assumption) | exact ML_41 (by assumption) | exact ML_42 (by assumption) | exact ML_43 (by assumption) | exact ML_44 (by assumption) | exact ML_45 (by assumption) | rfl) ?_
        first | refine U_ifB_ne (tgt := 23) dX10_fills_12 (by decide) (by with_reducible rfl) (fun c12 => ?_) (fun c12 => ?_) | refine U_if_ne (tgt := 23) dX10_fills_12 (by decide) (by with_reducible rfl) (by omega) (fun c12 => ?_) (fun c12 => ?_) | refine V_if_ne (tgt := 23) dX10_fills_12 (by decide) (fun c12 => ?_) (fun c12 => ?_)
        · skip
          omega
        · skip
          exact leaf hrl
    have hr1 := s1 row (by omega)
    have hps := psum_s L row
    by_cases hce : col = L.getD row 0
    · obtain ⟨f, rfl⟩ : ∃ f', f = f' + 1 := ⟨f - 1, by omega⟩
      have elv : lvF L n (f + 1 + 1) c row col = lvF L n (f + 1) c (row + 1) 0 := by
        rw [lvF]
        by_cases hq : L.sum ≤ c.length
        · rw [if_pos hq, lvF, if_pos hq]
        · rw [if_neg hq, if_pos (by omega), if_pos (by omega)]
      rw [elv] at hQ
      have hf9 : L.sum - c.length + (L.length - (row + 1)) + 1 ≤ f + 1 := by omega
      refine V_iloadn2 dX10_fills_0 ?_
      refine V_bipush (v := nI 6) dX10_fills_1 (by decide) ?_
      first | refine U_icmp_eq (tgt := 15) dX10_fills_3 (by decide) (by with_reducible rfl) (by with_reducible rfl) (by omega) (by omega) (fun c3 => ?_) (fun c3 => ?_) | refine V_icmp_eq (tgt := 15) dX10_fills_3 (by decide) (fun c3 => ?_) (fun c3 => ?_)
      · skip
        omega
      · skip
        refine V_aloadn0 dX10_fills_6 ?_
        refine V_getR dX10_fills_7 fX10_89 (by first | assumption | rfl) (by first | decide | omega) (by first | assumption | exact ML_4 (by assumption) | exact ML_5 (by assumption) | exact ML_6 (by assumption) | exact ML_7 (by assumption) | exact ML_8 (by assumption) | exact ML_9 (by assumption) | exact ML_10 (by assumption) | exact ML_11 (by assumption) | exact ML_12 (by assumption) | exact ML_13 (by assumption) | exact ML_15 (by assumption) | exact ML_16 (by assumption) | exact ML_17 (by assumption) | exact ML_20 (by assumption) | exact ML_23 (by assumption) | exact ML_24 (by assumption) | exact ML_30 (by assumption) | exact ML_31 (by assumption) | exact ML_32 (by assumption) | exact ML_33 (by assumption) | exact ML_35 (by assumption) | exact ML_36 (by assumption) | exact ML_37 (by assumption) | exact ML_38 (by assumption) | exact ML_41 (by assumption) | exact ML_42 (by assumption) | exact ML_43 (by assumption) | exact ML_44 (by assumption) | exact ML_45 (by assumption) | rfl) ?_
        refine V_iloadn2 dX10_fills_10 ?_
        refine U_iald dX10_fills_11 (by with_reducible rfl) (by first | assumption | rfl) (by first | decide | omega) (by omega) (by first | assumption | exact ML_4 (by assumption) | exact ML_5 (by assumption) | exact ML_6 (by assumption) | exact ML_7 (by assumption) | exact ML_8 (by assumption) | exact ML_9 (by assumption) | exact ML_10 (by assumption) | exact ML_11 (by assumption) | exact ML_12 (by assumption) | exact ML_13 (by assumption) | exact ML_15 (by assumption) | exact ML_16 (by assumption) | exact ML_17 (by assumption) | exact ML_20 (by assumption) | exact ML_23 (by assumption) | exact ML_24 (by assumption) | exact ML_30 (by assumption) | exact ML_31 (by assumption) | exact ML_32 (by assumption) | exact ML_33 (by assumption) | exact ML_35 (by assumption) | exact ML_36 (by assumption) | exact ML_37 (by assumption) | exact ML_38 (by assumption) | exact ML_41 (by assumption) | exact ML_42 (by assumption) | exact ML_43 (by assumption) | exact ML_44 (by assumption) | exact ML_45 (by assumption) | rfl) ?_
        first | refine U_ifB_ne (tgt := 23) dX10_fills_12 (by decide) (by with_reducible rfl) (fun c12 => ?_) (fun c12 => ?_) | refine U_if_ne (tgt := 23) dX10_fills_12 (by decide) (by with_reducible rfl) (by omega) (fun c12 => ?_) (fun c12 => ?_) | refine V_if_ne (tgt := 23) dX10_fills_12 (by decide) (fun c12 => ?_) (fun c12 => ?_)
        · skip
          refine V_iloadn3 dX10_fills_23 ?_
          refine V_aloadn0 dX10_fills_24 ?_
          refine V_getR dX10_fills_25 fX10_89 (by first | assumption | rfl) (by first | decide | omega) (by first | assumption | exact ML_4 (by assumption) | exact ML_5 (by assumption) | exact ML_6 (by assumption) | exact ML_7 (by assumption) | exact ML_8 (by assumption) | exact ML_9 (by assumption) | exact ML_10 (by assumption) | exact ML_11 (by assumption) | exact ML_12 (by assumption) | exact ML_13 (by assumption) | exact ML_15 (by assumption) | exact ML_16 (by assumption) | exact ML_17 (by assumption) | exact ML_20 (by assumption) | exact ML_23 (by assumption) | exact ML_24 (by assumption) | exact ML_30 (by assumption) | exact ML_31 (by assumption) | exact ML_32 (by assumption) | exact ML_33 (by assumption) | exact ML_35 (by assumption) | exact ML_36 (by assumption) | exact ML_37 (by assumption) | exact ML_38 (by assumption) | exact ML_41 (by assumption) | exact ML_42 (by assumption) | exact ML_43 (by assumption) | exact ML_44 (by assumption) | exact ML_45 (by assumption) | rfl) ?_
          refine V_iloadn2 dX10_fills_28 ?_
          refine U_iald dX10_fills_29 (by with_reducible rfl) (by first | assumption | rfl) (by first | decide | omega) (by omega) (by first | assumption | exact ML_4 (by assumption) | exact ML_5 (by assumption) | exact ML_6 (by assumption) | exact ML_7 (by assumption) | exact ML_8 (by assumption) | exact ML_9 (by assumption) | exact ML_10 (by assumption) | exact ML_11 (by assumption) | exact ML_12 (by assumption) | exact ML_13 (by assumption) | exact ML_15 (by assumption) | exact ML_16 (by assumption) | exact ML_17 (by assumption) | exact ML_20 (by assumption) | exact ML_23 (by assumption) | exact ML_24 (by assumption) | exact ML_30 (by assumption) | exact ML_31 (by assumption) | exact ML_32 (by assumption) | exact ML_33 (by assumption) | exact ML_35 (by assumption) | exact ML_36 (by assumption) | exact ML_37 (by assumption) | exact ML_38 (by assumption) | exact ML_41 (by assumption) | exact ML_42 (by assumption) | exact ML_43 (by assumption) | exact ML_44 (by assumption) | exact ML_45 (by assumption) | rfl) ?_
          first | refine U_icmp_ne (tgt := 45) dX10_fills_30 (by decide) (by with_reducible rfl) (by with_reducible rfl) (by omega) (by omega) (fun c30 => ?_) (fun c30 => ?_) | refine V_icmp_ne (tgt := 45) dX10_fills_30 (by decide) (fun c30 => ?_) (fun c30 => ?_)
          · skip
            omega
          · skip
            refine V_aloadn0 dX10_fills_33 ?_
            refine V_iloadn1 dX10_fills_34 ?_
            refine V_iloadn2 dX10_fills_35 ?_
            refine V_iconst (v := nI 1) dX10_fills_36 (by decide) ?_
            first | refine U_iadd dX10_fills_37 (by with_reducible rfl) (by with_reducible rfl) ?_ | refine V_iadd dX10_fills_37 ?_
            refine V_iconst (v := nI 0) dX10_fills_38 (by decide) ?_
            refine V_callV3 (μ' := mX10_fills) dX10_fills_39 okX10_fills lX10_266 rfl (by first | assumption | rfl) (by first | decide | omega) (Nat.le_of_ble_eq_true rfl) (Nat.le_of_ble_eq_true rfl) (by omega) ?_
            refine ih c (row + 1) 0 (f + 1) _ h _ v u (by omega) (by omega) hf9 (by omega) (by omega) hc1 (Nat.zero_le _) hK hC g39 g40 (fun h1 a1 a2 a3 a4 => ?_)
            dsimp only [gPush]
            refine V_goto (tgt := 112) dX10_fills_42 (by decide) ?_
            refine V_ret dX10_fills_112 rfl ?_
            exact hQ h1 a1 a2 a3 a4
        · skip
          omega
    have hcl : col < L.getD row 0 := by omega
    have e0 : ((cutP L c).getD row []).length = col := by rw [cutP_r L c (by omega), seg_len]; omega
    have hlst1 : 1 ≤ lstF L c row col := by
      unfold lstF
      by_cases q0 : 0 < row
      · rw [if_pos q0]; omega
      · rw [if_neg q0]
        by_cases q1 : 0 < col
        · rw [if_pos q1]
          have hlt9 : c.length - 1 < c.length := by omega
          have em : c.getD (c.length - 1) 0 = c[c.length - 1] := by rw [List.getD_eq_getElem?_getD, List.getElem?_eq_getElem hlt9]; rfl
          rw [em]
          exact hc1 _ (List.getElem_mem hlt9)
        · rw [if_neg q1]; exact Nat.le_refl _
    have elv : lvF L n (f + 1) c row col = (List.range (n + 1 - lstF L c row col)).flatMap (fun j => lvF L n f (c ++ [lstF L c row col + j]) row (col + 1)) := by
      rw [lvF, if_neg (by omega), if_neg (by omega)]
    rw [elv] at hQ
    have hms : ∀ y, 1 ≤ y → msB (cutP L c) row y = decide (lstF L c row col ≤ y) := fun y hy => ms_lst hS (by omega) hc hcl hy
    generalize lstF L c row col = lst at hQ hms elv hlst1
    have may : ∀ (d' : Nat) (Q' : Option Value → gH → Prop) h1 y, 1 ≤ d' → FrW h h1 → CG h1 (cutP L c) → 1 ≤ y → y ≤ n → Q' (some (.int (gBo (decide (lst ≤ y))))) h1 → V Γ mX10_mayStand d' 124 124 h1 0 [some (.ref 94), some (.int (nI y)), some (.int (nI row)), some (.int (nI col)), none] [] Q' := by
      intro d' Q' h1 y hd' hF1 hC1 y1 yn hq
      have z := m_may (Γ := Γ) (Q := Q') hd' hn5 (MLay_eq k0 hF1.2.2.2) (by rw [hF1.2.1 0 (by omega)]; exact k1) hC1 (show row < 6 by omega) y1 yn (by rw [hms y y1]; exact hq)
      rw [e0] at z
      exact z
    have loop : ∀ k y h1, y + k = n + 1 → 1 ≤ y → gI h1 94 39 = v + foF mode n L L2 D ((List.range (y - lst)).flatMap (fun j => lvF L n f (c ++ [lst + j]) row (col + 1))) → gL h1 94 40 = u + woM mode n L L2 wt ((List.range (y - lst)).flatMap (fun j => lvF L n f (c ++ [lst + j]) row (col + 1))) → CG h1 (cutP L c) → FrW h h1 → V Γ mX10_fills d 124 124 h1 48 [some (.ref 94), some (.int (nI mode)), some (.int (nI row)), some (.int (nI col)), some (.int (nI y))] [] Q := by
      intro k
      induction k with
      | zero =>
        intro y h1 hy y1 a1 a2 hC1 hF1
        have ey : y = n + 1 := by omega
        have n1 : gI h1 94 0 = nI n := by rw [hF1.2.1 0 (by omega)]; exact k1
        rw [ey] at a1 a2
        have hQ9 := hQ h1 a1 a2 hC1 hF1
        refine V_iloadw4 dX10_fills_48 ?_
        refine V_aloadn0 dX10_fills_50 ?_
        refine V_getI dX10_fills_51 fX10_7 (Or.inl rfl) (by first | assumption | rfl) (by first | decide | omega) (by first | assumption | exact ML_4 (by assumption) | exact ML_5 (by assumption) | exact ML_6 (by assumption) | exact ML_7 (by assumption) | exact ML_8 (by assumption) | exact ML_9 (by assumption) | exact ML_10 (by assumption) | exact ML_11 (by assumption) | exact ML_12 (by assumption) | exact ML_13 (by assumption) | exact ML_15 (by assumption) | exact ML_16 (by assumption) | exact ML_17 (by assumption) | exact ML_20 (by assumption) | exact ML_23 (by assumption) | exact ML_24 (by assumption) | exact ML_30 (by assumption) | exact ML_31 (by assumption) | exact ML_32 (by assumption) | exact ML_33 (by assumption) | exact ML_35 (by assumption) | exact ML_36 (by assumption) | exact ML_37 (by assumption) | exact ML_38 (by assumption) | exact ML_41 (by assumption) | exact ML_42 (by assumption) | exact ML_43 (by assumption) | exact ML_44 (by assumption) | exact ML_45 (by assumption) | rfl) ?_
        first | refine U_icmp_gt (tgt := 112) dX10_fills_54 (by decide) (by with_reducible rfl) (by with_reducible rfl) (by omega) (by omega) (fun c54 => ?_) (fun c54 => ?_) | refine V_icmp_gt (tgt := 112) dX10_fills_54 (by decide) (fun c54 => ?_) (fun c54 => ?_)
        · skip
          refine V_ret dX10_fills_112 rfl ?_
          exact hQ9
        · skip
          omega
      | succ k ihk =>
        intro y h1 hy y1 a1 a2 hC1 hF1
        have n1 : gI h1 94 0 = nI n := by rw [hF1.2.1 0 (by omega)]; exact k1
        have hM1 := MLay_eq k0 hF1.2.2.2
        by_cases hly : lst ≤ y
        · have er : (List.range (y + 1 - lst)).flatMap (fun j => lvF L n f (c ++ [lst + j]) row (col + 1)) = (List.range (y - lst)).flatMap (fun j => lvF L n f (c ++ [lst + j]) row (col + 1)) ++ lvF L n f (c ++ [y]) row (col + 1) := by
            rw [show y + 1 - lst = y - lst + 1 by omega, List.range_succ, List.flatMap_append, List.flatMap_cons, List.flatMap_nil, List.append_nil, show lst + (y - lst) = y by omega]
          have hadd := cutP_add (L := L) (c := c) (y := y) (by omega) (show row < 6 by omega) hc hcl
          have hC2 := CG_add hC1 (show row < 6 by omega) (show y ≤ 9 by omega) (by omega) hadd
          rw [e0] at hC2
          have hback : ∀ h3, CG h3 (cutP L (c ++ [y])) → CG (sI h3 106 row (nI col)) (cutP L c) := fun h3 z => by
            have := CG_back hC1 z (show row < 6 by omega) hadd
            rw [e0] at this
            exact this
          generalize hh2 : sI h1 109 (6 * row + col) (nI y) = h2 at hC2
          have hM2 : MLay h2 := by rw [← hh2]; exact MLay_eq hM1 rfl
          generalize hh3 : sI h2 106 row (nI (col + 1)) = h3 at hC2
          have hF3 : FrW h h3 := by rw [← hh3, ← hh2]; exact frw_sI (frw_sI hF1 (by omega)) (by omega)
          have hK3 := FK_fr hK hF3
          have hM3 := hK3.1
          have b1 : gI h3 94 39 = gI h1 94 39 := by rw [← hh3, gI_sI, if_neg (by omega), ← hh2, gI_sI, if_neg (by omega)]
          have b2 : gL h3 94 40 = gL h1 94 40 := by rw [← hh3, ← hh2]; rfl
          have hcl2 : (c ++ [y]).length = c.length + 1 := by rw [List.length_append, List.length_singleton]
          refine V_iloadw4 dX10_fills_48 ?_
          refine V_aloadn0 dX10_fills_50 ?_
          refine V_getI dX10_fills_51 fX10_7 (Or.inl rfl) (by first | assumption | rfl) (by first | decide | omega) (by first | assumption | exact ML_4 (by assumption) | exact ML_5 (by assumption) | exact ML_6 (by assumption) | exact ML_7 (by assumption) | exact ML_8 (by assumption) | exact ML_9 (by assumption) | exact ML_10 (by assumption) | exact ML_11 (by assumption) | exact ML_12 (by assumption) | exact ML_13 (by assumption) | exact ML_15 (by assumption) | exact ML_16 (by assumption) | exact ML_17 (by assumption) | exact ML_20 (by assumption) | exact ML_23 (by assumption) | exact ML_24 (by assumption) | exact ML_30 (by assumption) | exact ML_31 (by assumption) | exact ML_32 (by assumption) | exact ML_33 (by assumption) | exact ML_35 (by assumption) | exact ML_36 (by assumption) | exact ML_37 (by assumption) | exact ML_38 (by assumption) | exact ML_41 (by assumption) | exact ML_42 (by assumption) | exact ML_43 (by assumption) | exact ML_44 (by assumption) | exact ML_45 (by assumption) | rfl) ?_
          first | refine U_icmp_gt (tgt := 112) dX10_fills_54 (by decide) (by with_reducible rfl) (by with_reducible rfl) (by omega) (by omega) (fun c54 => ?_) (fun c54 => ?_) | refine V_icmp_gt (tgt := 112) dX10_fills_54 (by decide) (fun c54 => ?_) (fun c54 => ?_)
          · skip
            omega
          · skip
            refine V_aloadn0 dX10_fills_57 ?_
            refine V_iloadw4 dX10_fills_58 ?_
            refine V_iloadn2 dX10_fills_60 ?_
            refine V_iloadn3 dX10_fills_61 ?_
            refine V_callV3 (μ' := mX10_mayStand) dX10_fills_62 okX10_mayStand lX10_137 rfl (by first | assumption | rfl) (by first | decide | omega) (Nat.le_of_ble_eq_true rfl) (Nat.le_of_ble_eq_true rfl) (by omega) ?_
            refine may _ _ h1 y (by omega) hF1 hC1 y1 (by omega) ?_
            rw [decide_eq_true hly]
            dsimp only [gPush]
            first | refine U_ifB_eq (tgt := 106) dX10_fills_65 (by decide) (by with_reducible rfl) (fun c65 => ?_) (fun c65 => ?_) | refine U_if_eq (tgt := 106) dX10_fills_65 (by decide) (by with_reducible rfl) (by omega) (fun c65 => ?_) (fun c65 => ?_) | refine V_if_eq (tgt := 106) dX10_fills_65 (by decide) (fun c65 => ?_) (fun c65 => ?_)
            · skip
              cases c65
            · skip
              refine V_aloadn0 dX10_fills_68 ?_
              refine V_getR dX10_fills_69 fX10_59 (by first | assumption | rfl) (by first | decide | omega) (by first | assumption | exact ML_4 (by assumption) | exact ML_5 (by assumption) | exact ML_6 (by assumption) | exact ML_7 (by assumption) | exact ML_8 (by assumption) | exact ML_9 (by assumption) | exact ML_10 (by assumption) | exact ML_11 (by assumption) | exact ML_12 (by assumption) | exact ML_13 (by assumption) | exact ML_15 (by assumption) | exact ML_16 (by assumption) | exact ML_17 (by assumption) | exact ML_20 (by assumption) | exact ML_23 (by assumption) | exact ML_24 (by assumption) | exact ML_30 (by assumption) | exact ML_31 (by assumption) | exact ML_32 (by assumption) | exact ML_33 (by assumption) | exact ML_35 (by assumption) | exact ML_36 (by assumption) | exact ML_37 (by assumption) | exact ML_38 (by assumption) | exact ML_41 (by assumption) | exact ML_42 (by assumption) | exact ML_43 (by assumption) | exact ML_44 (by assumption) | exact ML_45 (by assumption) | rfl) ?_
              refine V_bipush (v := nI 6) dX10_fills_72 (by decide) ?_
              refine V_iloadn2 dX10_fills_74 ?_
              first | refine U_imul dX10_fills_75 (by with_reducible rfl) (by with_reducible rfl) ?_ | refine V_imul dX10_fills_75 ?_
              refine V_iloadn3 dX10_fills_76 ?_
              first | refine U_iadd dX10_fills_77 (by with_reducible rfl) (by with_reducible rfl) ?_ | refine V_iadd dX10_fills_77 ?_
              refine V_iloadw4 dX10_fills_78 ?_
              refine U_iast dX10_fills_80 (by with_reducible rfl) (by first | assumption | rfl) (by first | decide | omega) (by omega) ?_
              rw [hh2]
              refine V_aloadn0 dX10_fills_81 ?_
              refine V_getR dX10_fills_82 fX10_50 (by first | assumption | rfl) (by first | decide | omega) (by first | assumption | exact ML_4 (by assumption) | exact ML_5 (by assumption) | exact ML_6 (by assumption) | exact ML_7 (by assumption) | exact ML_8 (by assumption) | exact ML_9 (by assumption) | exact ML_10 (by assumption) | exact ML_11 (by assumption) | exact ML_12 (by assumption) | exact ML_13 (by assumption) | exact ML_15 (by assumption) | exact ML_16 (by assumption) | exact ML_17 (by assumption) | exact ML_20 (by assumption) | exact ML_23 (by assumption) | exact ML_24 (by assumption) | exact ML_30 (by assumption) | exact ML_31 (by assumption) | exact ML_32 (by assumption) | exact ML_33 (by assumption) | exact ML_35 (by assumption) | exact ML_36 (by assumption) | exact ML_37 (by assumption) | exact ML_38 (by assumption) | exact ML_41 (by assumption) | exact ML_42 (by assumption) | exact ML_43 (by assumption) | exact ML_44 (by assumption) | exact ML_45 (by assumption) | rfl) ?_
              refine V_iloadn2 dX10_fills_85 ?_
              refine V_iloadn3 dX10_fills_86 ?_
              refine V_iconst (v := nI 1) dX10_fills_87 (by decide) ?_
              first | refine U_iadd dX10_fills_88 (by with_reducible rfl) (by with_reducible rfl) ?_ | refine V_iadd dX10_fills_88 ?_
              refine U_iast dX10_fills_89 (by with_reducible rfl) (by first | assumption | rfl) (by first | decide | omega) (by omega) ?_
              rw [hh3]
              refine V_aloadn0 dX10_fills_90 ?_
              refine V_iloadn1 dX10_fills_91 ?_
              refine V_iloadn2 dX10_fills_92 ?_
              refine V_iloadn3 dX10_fills_93 ?_
              refine V_iconst (v := nI 1) dX10_fills_94 (by decide) ?_
              first | refine U_iadd dX10_fills_95 (by with_reducible rfl) (by with_reducible rfl) ?_ | refine V_iadd dX10_fills_95 ?_
              refine V_callV3 (μ' := mX10_fills) dX10_fills_96 okX10_fills lX10_266 rfl (by first | assumption | rfl) (by first | decide | omega) (Nat.le_of_ble_eq_true rfl) (Nat.le_of_ble_eq_true rfl) (by omega) ?_
              refine ih (c ++ [y]) row (col + 1) f _ h3 _ _ _ (by omega) (by omega) (by omega) hr6 (by omega) (fun z hz => by rcases List.mem_append.mp hz with e | e; (· exact hc1 z e); rw [List.mem_singleton.mp e]; exact y1) (by omega) hK3 hC2 rfl rfl (fun h4 z1 z2 z3 z4 => ?_)
              have hM4 := (FK_fr hK3 z4).1
              dsimp only [gPush]
              refine V_aloadn0 dX10_fills_99 ?_
              refine V_getR dX10_fills_100 fX10_50 (by first | assumption | rfl) (by first | decide | omega) (by first | assumption | exact ML_4 (by assumption) | exact ML_5 (by assumption) | exact ML_6 (by assumption) | exact ML_7 (by assumption) | exact ML_8 (by assumption) | exact ML_9 (by assumption) | exact ML_10 (by assumption) | exact ML_11 (by assumption) | exact ML_12 (by assumption) | exact ML_13 (by assumption) | exact ML_15 (by assumption) | exact ML_16 (by assumption) | exact ML_17 (by assumption) | exact ML_20 (by assumption) | exact ML_23 (by assumption) | exact ML_24 (by assumption) | exact ML_30 (by assumption) | exact ML_31 (by assumption) | exact ML_32 (by assumption) | exact ML_33 (by assumption) | exact ML_35 (by assumption) | exact ML_36 (by assumption) | exact ML_37 (by assumption) | exact ML_38 (by assumption) | exact ML_41 (by assumption) | exact ML_42 (by assumption) | exact ML_43 (by assumption) | exact ML_44 (by assumption) | exact ML_45 (by assumption) | rfl) ?_
              refine V_iloadn2 dX10_fills_103 ?_
              refine V_iloadn3 dX10_fills_104 ?_
              refine U_iast dX10_fills_105 (by with_reducible rfl) (by first | assumption | rfl) (by first | decide | omega) (by omega) ?_
              refine V_iinc4 dX10_fills_106 (by first | exact ginc1 _ | rfl) (by decide) rfl ?_
              refine V_goto (tgt := 48) dX10_fills_109 (by decide) ?_
              exact ihk (y + 1) _ (by omega) (by omega) (by rw [gI_sI, if_neg (by omega), z1, b1, a1, er, foF_app, Int32.add_assoc]) (by rw [show gL (sI h4 106 row (nI col)) = gL h4 from rfl, z2, b2, a2, er, woM_app, Int64.add_assoc]) (hback h4 z3) (frw_sI (hF3.tr z4) (by omega))
        · skip
          refine V_iloadw4 dX10_fills_48 ?_
          refine V_aloadn0 dX10_fills_50 ?_
          refine V_getI dX10_fills_51 fX10_7 (Or.inl rfl) (by first | assumption | rfl) (by first | decide | omega) (by first | assumption | exact ML_4 (by assumption) | exact ML_5 (by assumption) | exact ML_6 (by assumption) | exact ML_7 (by assumption) | exact ML_8 (by assumption) | exact ML_9 (by assumption) | exact ML_10 (by assumption) | exact ML_11 (by assumption) | exact ML_12 (by assumption) | exact ML_13 (by assumption) | exact ML_15 (by assumption) | exact ML_16 (by assumption) | exact ML_17 (by assumption) | exact ML_20 (by assumption) | exact ML_23 (by assumption) | exact ML_24 (by assumption) | exact ML_30 (by assumption) | exact ML_31 (by assumption) | exact ML_32 (by assumption) | exact ML_33 (by assumption) | exact ML_35 (by assumption) | exact ML_36 (by assumption) | exact ML_37 (by assumption) | exact ML_38 (by assumption) | exact ML_41 (by assumption) | exact ML_42 (by assumption) | exact ML_43 (by assumption) | exact ML_44 (by assumption) | exact ML_45 (by assumption) | rfl) ?_
          first | refine U_icmp_gt (tgt := 112) dX10_fills_54 (by decide) (by with_reducible rfl) (by with_reducible rfl) (by omega) (by omega) (fun c54 => ?_) (fun c54 => ?_) | refine V_icmp_gt (tgt := 112) dX10_fills_54 (by decide) (fun c54 => ?_) (fun c54 => ?_)
          · skip
            omega
          · skip
            refine V_aloadn0 dX10_fills_57 ?_
            refine V_iloadw4 dX10_fills_58 ?_
            refine V_iloadn2 dX10_fills_60 ?_
            refine V_iloadn3 dX10_fills_61 ?_
            refine V_callV3 (μ' := mX10_mayStand) dX10_fills_62 okX10_mayStand lX10_137 rfl (by first | assumption | rfl) (by first | decide | omega) (Nat.le_of_ble_eq_true rfl) (Nat.le_of_ble_eq_true rfl) (by omega) ?_
            refine may _ _ h1 y (by omega) hF1 hC1 y1 (by omega) ?_
            rw [decide_eq_false hly]
            dsimp only [gPush]
            first | refine U_ifB_eq (tgt := 106) dX10_fills_65 (by decide) (by with_reducible rfl) (fun c65 => ?_) (fun c65 => ?_) | refine U_if_eq (tgt := 106) dX10_fills_65 (by decide) (by with_reducible rfl) (by omega) (fun c65 => ?_) (fun c65 => ?_) | refine V_if_eq (tgt := 106) dX10_fills_65 (by decide) (fun c65 => ?_) (fun c65 => ?_)
            · skip
              refine V_iinc4 dX10_fills_106 (by first | exact ginc1 _ | rfl) (by decide) rfl ?_
              refine V_goto (tgt := 48) dX10_fills_109 (by decide) ?_
              exact ihk (y + 1) h1 (by omega) (by omega) (by rw [a1, show y + 1 - lst = y - lst by omega]) (by rw [a2, show y + 1 - lst = y - lst by omega]) hC1 hF1
            · skip
              cases c65
    have z0 : (List.range (1 - lst)).flatMap (fun j => lvF L n f (c ++ [lst + j]) row (col + 1)) = [] := by
      rw [show 1 - lst = 0 by omega]; rfl
    refine V_iloadn2 dX10_fills_0 ?_
    refine V_bipush (v := nI 6) dX10_fills_1 (by decide) ?_
    first | refine U_icmp_eq (tgt := 15) dX10_fills_3 (by decide) (by with_reducible rfl) (by with_reducible rfl) (by omega) (by omega) (fun c3 => ?_) (fun c3 => ?_) | refine V_icmp_eq (tgt := 15) dX10_fills_3 (by decide) (fun c3 => ?_) (fun c3 => ?_)
    · skip
      omega
    · skip
      refine V_aloadn0 dX10_fills_6 ?_
      refine V_getR dX10_fills_7 fX10_89 (by first | assumption | rfl) (by first | decide | omega) (by first | assumption | exact ML_4 (by assumption) | exact ML_5 (by assumption) | exact ML_6 (by assumption) | exact ML_7 (by assumption) | exact ML_8 (by assumption) | exact ML_9 (by assumption) | exact ML_10 (by assumption) | exact ML_11 (by assumption) | exact ML_12 (by assumption) | exact ML_13 (by assumption) | exact ML_15 (by assumption) | exact ML_16 (by assumption) | exact ML_17 (by assumption) | exact ML_20 (by assumption) | exact ML_23 (by assumption) | exact ML_24 (by assumption) | exact ML_30 (by assumption) | exact ML_31 (by assumption) | exact ML_32 (by assumption) | exact ML_33 (by assumption) | exact ML_35 (by assumption) | exact ML_36 (by assumption) | exact ML_37 (by assumption) | exact ML_38 (by assumption) | exact ML_41 (by assumption) | exact ML_42 (by assumption) | exact ML_43 (by assumption) | exact ML_44 (by assumption) | exact ML_45 (by assumption) | rfl) ?_
      refine V_iloadn2 dX10_fills_10 ?_
      refine U_iald dX10_fills_11 (by with_reducible rfl) (by first | assumption | rfl) (by first | decide | omega) (by omega) (by first | assumption | exact ML_4 (by assumption) | exact ML_5 (by assumption) | exact ML_6 (by assumption) | exact ML_7 (by assumption) | exact ML_8 (by assumption) | exact ML_9 (by assumption) | exact ML_10 (by assumption) | exact ML_11 (by assumption) | exact ML_12 (by assumption) | exact ML_13 (by assumption) | exact ML_15 (by assumption) | exact ML_16 (by assumption) | exact ML_17 (by assumption) | exact ML_20 (by assumption) | exact ML_23 (by assumption) | exact ML_24 (by assumption) | exact ML_30 (by assumption) | exact ML_31 (by assumption) | exact ML_32 (by assumption) | exact ML_33 (by assumption) | exact ML_35 (by assumption) | exact ML_36 (by assumption) | exact ML_37 (by assumption) | exact ML_38 (by assumption) | exact ML_41 (by assumption) | exact ML_42 (by assumption) | exact ML_43 (by assumption) | exact ML_44 (by assumption) | exact ML_45 (by assumption) | rfl) ?_
      first | refine U_ifB_ne (tgt := 23) dX10_fills_12 (by decide) (by with_reducible rfl) (fun c12 => ?_) (fun c12 => ?_) | refine U_if_ne (tgt := 23) dX10_fills_12 (by decide) (by with_reducible rfl) (by omega) (fun c12 => ?_) (fun c12 => ?_) | refine V_if_ne (tgt := 23) dX10_fills_12 (by decide) (fun c12 => ?_) (fun c12 => ?_)
      · skip
        refine V_iloadn3 dX10_fills_23 ?_
        refine V_aloadn0 dX10_fills_24 ?_
        refine V_getR dX10_fills_25 fX10_89 (by first | assumption | rfl) (by first | decide | omega) (by first | assumption | exact ML_4 (by assumption) | exact ML_5 (by assumption) | exact ML_6 (by assumption) | exact ML_7 (by assumption) | exact ML_8 (by assumption) | exact ML_9 (by assumption) | exact ML_10 (by assumption) | exact ML_11 (by assumption) | exact ML_12 (by assumption) | exact ML_13 (by assumption) | exact ML_15 (by assumption) | exact ML_16 (by assumption) | exact ML_17 (by assumption) | exact ML_20 (by assumption) | exact ML_23 (by assumption) | exact ML_24 (by assumption) | exact ML_30 (by assumption) | exact ML_31 (by assumption) | exact ML_32 (by assumption) | exact ML_33 (by assumption) | exact ML_35 (by assumption) | exact ML_36 (by assumption) | exact ML_37 (by assumption) | exact ML_38 (by assumption) | exact ML_41 (by assumption) | exact ML_42 (by assumption) | exact ML_43 (by assumption) | exact ML_44 (by assumption) | exact ML_45 (by assumption) | rfl) ?_
        refine V_iloadn2 dX10_fills_28 ?_
        refine U_iald dX10_fills_29 (by with_reducible rfl) (by first | assumption | rfl) (by first | decide | omega) (by omega) (by first | assumption | exact ML_4 (by assumption) | exact ML_5 (by assumption) | exact ML_6 (by assumption) | exact ML_7 (by assumption) | exact ML_8 (by assumption) | exact ML_9 (by assumption) | exact ML_10 (by assumption) | exact ML_11 (by assumption) | exact ML_12 (by assumption) | exact ML_13 (by assumption) | exact ML_15 (by assumption) | exact ML_16 (by assumption) | exact ML_17 (by assumption) | exact ML_20 (by assumption) | exact ML_23 (by assumption) | exact ML_24 (by assumption) | exact ML_30 (by assumption) | exact ML_31 (by assumption) | exact ML_32 (by assumption) | exact ML_33 (by assumption) | exact ML_35 (by assumption) | exact ML_36 (by assumption) | exact ML_37 (by assumption) | exact ML_38 (by assumption) | exact ML_41 (by assumption) | exact ML_42 (by assumption) | exact ML_43 (by assumption) | exact ML_44 (by assumption) | exact ML_45 (by assumption) | rfl) ?_
        first | refine U_icmp_ne (tgt := 45) dX10_fills_30 (by decide) (by with_reducible rfl) (by with_reducible rfl) (by omega) (by omega) (fun c30 => ?_) (fun c30 => ?_) | refine V_icmp_ne (tgt := 45) dX10_fills_30 (by decide) (fun c30 => ?_) (fun c30 => ?_)
        · skip
          refine V_iconst (v := nI 1) dX10_fills_45 (by decide) ?_
          refine V_istorew4 dX10_fills_46 (by decide) rfl ?_
          exact loop n 1 h (by omega) (Nat.le_refl _) (by rw [z0, g39]; exact (Int32.add_zero _).symm) (by rw [z0, g40]; exact (Int64.add_zero _).symm) hC FrW.rf
        · skip
          omega
      · skip
        omega
set_option maxRecDepth 100000 in
set_option maxHeartbeats 4000000 in
theorem m_fillsAll {n mode : Nat} {L L2 : List Nat} {wt D : Nat → Nat} {d : Nat} {h : gH} {Q : Option Value → gH → Prop} (hd : 17 ≤ d) (hn1 : 1 ≤ n) (hn5 : n ≤ 5) (hS : ShP L) (hm : mode ≤ 2) (hwt9 : ∀ x, wt x ≤ 99) (hK : FK h n mode L L2 wt D) (hQ : ∀ h', gI h' 94 39 = foF mode n L L2 D (lvF L n 12 [] 0 0) → gL h' 94 40 = woM mode n L L2 wt (lvF L n 12 [] 0 0) → FrW h h' → Q none h') : V Γ mX10_fillsAll d 124 124 h 0 [some (.ref 94), some (.int (nI mode)), none] [] Q := by
  obtain ⟨s5, s6, s1, smo⟩ := id hS
  have hnil : ∀ r, (cutP L []).getD r [] = [] := fun r => by
    by_cases q : r < 6
    · rw [cutP_r L [] q]; unfold segF; simp
    · exact cutP_n L [] (by omega)
  have hsz := cutP_sz (L := L) (c := []) (by omega) (Nat.zero_le _)
  have loop : ∀ g k h1, k + g = 6 → gI h1 94 39 = nI 0 → gL h1 94 40 = 0 → (∀ j, j < k → gI h1 106 j = nI 0) → FrW h h1 → V Γ mX10_fillsAll d 124 124 h1 12 [some (.ref 94), some (.int (nI mode)), some (.int (nI k))] [] Q := by
    intro g
    induction g with
    | zero =>
      intro k h1 hk a1 a2 a3 hF
      have ek : k = 6 := by omega
      subst ek
      have hK1 := FK_fr hK hF
      have hM1 := hK1.1
      have hC1 : CG h1 (cutP L []) := ⟨fun r hr => by rw [hnil]; exact a3 r hr, fun r c hr hc => by rw [hnil] at hc; exact absurd hc (Nat.not_lt_zero _), by rw [cutP_len]; exact Nat.le_refl _, by rw [hsz]; exact Nat.zero_le _, fun r c => by rw [hnil]; exact Nat.zero_le _⟩
      refine V_iloadn2 dX10_fillsAll_12 ?_
      refine V_bipush (v := nI 6) dX10_fillsAll_13 (by decide) ?_
      first | refine U_icmp_ge (tgt := 31) dX10_fillsAll_15 (by decide) (by with_reducible rfl) (by with_reducible rfl) (by omega) (by omega) (fun c15 => ?_) (fun c15 => ?_) | refine V_icmp_ge (tgt := 31) dX10_fillsAll_15 (by decide) (fun c15 => ?_) (fun c15 => ?_)
      · skip
        refine V_aloadn0 dX10_fillsAll_31 ?_
        refine V_iloadn1 dX10_fillsAll_32 ?_
        refine V_iconst (v := nI 0) dX10_fillsAll_33 (by decide) ?_
        refine V_iconst (v := nI 0) dX10_fillsAll_34 (by decide) ?_
        refine V_callV3 (μ' := mX10_fills) dX10_fillsAll_35 okX10_fills lX10_266 rfl (by first | assumption | rfl) (by first | decide | omega) (Nat.le_of_ble_eq_true rfl) (Nat.le_of_ble_eq_true rfl) (by omega) ?_
        refine m_fills hn1 hn5 hS hm hwt9 12 [] 0 0 12 _ h1 _ (nI 0) 0 (by rw [List.length_nil]; omega) (by omega) (by rw [List.length_nil]; omega) (by omega) (by rw [psum_z]; rfl) (fun y hy => by cases hy) (Nat.zero_le _) hK1 hC1 a1 a2 (fun h2 b1 b2 b3 b4 => ?_)
        dsimp only [gPush]
        refine V_ret dX10_fillsAll_38 rfl ?_
        exact hQ h2 (by rw [b1]; exact Int32.zero_add _) (by rw [b2]; exact Int64.zero_add _) (hF.tr b4)
      · skip
        omega
    | succ g ih =>
      intro k h1 hk a1 a2 a3 hF
      have hM1 := (FK_fr hK hF).1
      refine V_iloadn2 dX10_fillsAll_12 ?_
      refine V_bipush (v := nI 6) dX10_fillsAll_13 (by decide) ?_
      first | refine U_icmp_ge (tgt := 31) dX10_fillsAll_15 (by decide) (by with_reducible rfl) (by with_reducible rfl) (by omega) (by omega) (fun c15 => ?_) (fun c15 => ?_) | refine V_icmp_ge (tgt := 31) dX10_fillsAll_15 (by decide) (fun c15 => ?_) (fun c15 => ?_)
      · skip
        omega
      · skip
        refine V_aloadn0 dX10_fillsAll_18 ?_
        refine V_getR dX10_fillsAll_19 fX10_50 (by first | assumption | rfl) (by first | decide | omega) (by first | assumption | exact ML_4 (by assumption) | exact ML_5 (by assumption) | exact ML_6 (by assumption) | exact ML_7 (by assumption) | exact ML_8 (by assumption) | exact ML_9 (by assumption) | exact ML_10 (by assumption) | exact ML_11 (by assumption) | exact ML_12 (by assumption) | exact ML_13 (by assumption) | exact ML_15 (by assumption) | exact ML_16 (by assumption) | exact ML_17 (by assumption) | exact ML_20 (by assumption) | exact ML_23 (by assumption) | exact ML_24 (by assumption) | exact ML_30 (by assumption) | exact ML_31 (by assumption) | exact ML_32 (by assumption) | exact ML_33 (by assumption) | exact ML_35 (by assumption) | exact ML_36 (by assumption) | exact ML_37 (by assumption) | exact ML_38 (by assumption) | exact ML_41 (by assumption) | exact ML_42 (by assumption) | exact ML_43 (by assumption) | exact ML_44 (by assumption) | exact ML_45 (by assumption) | rfl) ?_
        refine V_iloadn2 dX10_fillsAll_22 ?_
        refine V_iconst (v := nI 0) dX10_fillsAll_23 (by decide) ?_
        refine U_iast dX10_fillsAll_24 (by with_reducible rfl) (by first | assumption | rfl) (by first | decide | omega) (by omega) ?_
        refine V_iinc2 dX10_fillsAll_25 (by first | exact ginc1 _ | rfl) (by decide) rfl ?_
        refine V_goto (tgt := 12) dX10_fillsAll_28 (by decide) ?_
        exact ih (k + 1) _ (by omega) (by rw [gI_sI, if_neg (by omega)]; exact a1) a2 (fun j hj => by rw [gI_sI]; by_cases q : j = k; (· rw [if_pos ⟨rfl, q⟩]); rw [if_neg (fun z => q z.2)]; exact a3 j (by omega)) (frw_sI hF (by omega))
  have hM := hK.1
  refine V_aloadn0 dX10_fillsAll_0 ?_
  refine V_iconst (v := nI 0) dX10_fillsAll_1 (by decide) ?_
  refine V_putI dX10_fillsAll_2 fX10_256 (by first | assumption | rfl) (by first | decide | omega) ?_
  refine V_aloadn0 dX10_fillsAll_5 ?_
  refine V_lconst (v := lN 0) dX10_fillsAll_6 (by decide) ?_
  refine V_putL dX10_fillsAll_7 fX10_259 (by first | assumption | rfl) (by first | decide | omega) ?_
  refine V_iconst (v := nI 0) dX10_fillsAll_10 (by decide) ?_
  refine V_istoren2 dX10_fillsAll_11 (by decide) rfl ?_
  exact loop 6 0 _ rfl (by rw [gI_sL, gI_sI, if_pos ⟨rfl, rfl⟩]) (by rw [gL_sL, if_pos ⟨rfl, rfl⟩]; rfl) (fun j hj => absurd hj (Nat.not_lt_zero _)) ⟨fun y p q r s t => by funext b; rw [gI_sL, gI_sI, if_neg (fun z => p z.1)], fun k hk => by rw [gI_sL, gI_sI, if_neg (by omega)], fun a b z => by rw [gL_sL, if_neg z]; rfl, rfl⟩
end C80
