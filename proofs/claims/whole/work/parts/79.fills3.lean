/-! ===== fillings cut into rows; a full filling judged by the reference ===== -/
theorem psum_s (L : List Nat) (r : Nat) : psum L (r + 1) = psum L r + L.getD r 0 := by
  by_cases h : r < L.length
  · exact psum_succ h
  · rw [psum_all (by omega), psum_all (by omega), List.getD_eq_getElem?_getD, List.getElem?_eq_none (by omega)]; rfl
theorem psum_mono (L : List Nat) {a : Nat} : ∀ b, a ≤ b → psum L a ≤ psum L b
  | 0, h => by have e : a = 0 := by omega
               rw [e]; exact Nat.le_refl _
  | b + 1, h => by
    by_cases q : a = b + 1
    · rw [q]; exact Nat.le_refl _
    · have := psum_mono L (a := a) b (by omega)
      rw [psum_s]; omega
def cutP (L c : List Nat) : List (List Nat) := (List.range 6).map (fun r => segF c (psum L r) (L.getD r 0))
theorem cutP_r (L c : List Nat) {r : Nat} (hr : r < 6) : (cutP L c).getD r [] = segF c (psum L r) (L.getD r 0) := by
  unfold cutP
  rw [List.getD_eq_getElem?_getD, List.getElem?_map, List.getElem?_range hr]
  rfl
theorem cutP_n (L c : List Nat) {r : Nat} (hr : 6 ≤ r) : (cutP L c).getD r [] = [] := by
  rw [List.getD_eq_getElem?_getD, List.getElem?_eq_none (by unfold cutP; simp; omega)]
  rfl
theorem cutP_len (L c : List Nat) : (cutP L c).length = 6 := by simp [cutP]
theorem seg_len (c : List Nat) (s l : Nat) : (segF c s l).length = min l (c.length - s) := by
  unfold segF
  rw [List.length_take, List.length_drop]
theorem cut_sz (L c : List Nat) : ∀ m, szL ((List.range m).map (fun r => segF c (psum L r) (L.getD r 0))) = min c.length (psum L m)
  | 0 => by rw [psum_z]; simp [szL]
  | m + 1 => by
    rw [List.range_succ, List.map_append, szL_app, cut_sz L c m, psum_s, List.map_cons, List.map_nil, szL_cons, seg_len]
    have : szL ([] : List (List Nat)) = 0 := rfl
    omega
theorem cutP_sz {L c : List Nat} (hL : L.length ≤ 6) (hc : c.length ≤ L.sum) : szL (cutP L c) = c.length := by
  unfold cutP
  rw [cut_sz, psum_all hL]
  omega
theorem cutP_add {L c : List Nat} {row col y : Nat} (hL : L.length ≤ 6) (hr : row < 6) (hc : c.length = psum L row + col) (hcol : col < L.getD row 0) : isAdd (cutP L c) (cutP L (c ++ [y])) row y := by
  have hps := psum_s L row
  have hle := psum_le L (row + 1)
  refine ⟨fun q => ?_, by rw [cutP_len, cutP_len]; omega, ?_⟩
  · by_cases h6 : q < 6
    · rw [cutP_r L (c ++ [y]) h6]
      by_cases e : q = row
      · subst e
        rw [if_pos rfl, cutP_r L c h6]
        unfold segF
        rw [List.drop_append_of_le_length (by omega), List.take_of_length_le (by rw [List.length_append, List.length_drop, List.length_singleton]; omega), List.take_of_length_le (by rw [List.length_drop]; omega)]
      · rw [if_neg e, cutP_r L c h6]
        unfold segF
        by_cases l : q < row
        · have a := psum_mono L (a := q + 1) row (by omega)
          rw [psum_s] at a
          rw [List.drop_append_of_le_length (by omega), List.take_append_of_le_length (by rw [List.length_drop]; omega)]
        · have a := psum_mono L (a := row + 1) q (by omega)
          rw [List.drop_eq_nil_of_le (by rw [List.length_append, List.length_singleton]; omega), List.drop_eq_nil_of_le (by omega)]
    · rw [if_neg (by omega), cutP_n L _ (by omega), cutP_n L _ (by omega)]
  · rw [cutP_sz (c := c) hL (by omega), cutP_sz (c := c ++ [y]) hL (by rw [List.length_append, List.length_singleton]; omega), List.length_append, List.length_singleton]
theorem seg_getD (c : List Nat) (s l j : Nat) (hj : j < l) : (segF c s l).getD j 0 = c.getD (s + j) 0 := by
  unfold segF
  rw [List.getD_eq_getElem?_getD, List.getD_eq_getElem?_getD, List.getElem?_take_of_lt hj, List.getElem?_drop]
/-- a shape: its rows do not grow downwards -/
def ShP (L : List Nat) : Prop := L.length ≤ 5 ∧ L.sum ≤ 6 ∧ (∀ r, r < L.length → 1 ≤ L.getD r 0) ∧ ∀ r, L.getD (r + 1) 0 ≤ L.getD r 0
theorem ms_lst {L c : List Nat} {row col y : Nat} (hS : ShP L) (hr : row < L.length) (hc : c.length = psum L row + col) (hcol : col < L.getD row 0) (hy : 1 ≤ y) : msB (cutP L c) row y = decide (lstF L c row col ≤ y) := by
  obtain ⟨s5, s6, s1, sm⟩ := hS
  have hps := psum_s L row
  have hle := psum_le L (row + 1)
  have e0 : ((cutP L c).getD row []).length = col := by rw [cutP_r L c (by omega), seg_len]; omega
  unfold msB lstF
  rw [e0, decide_eq_true (show col < 6 by omega), Bool.true_and]
  have elast : 0 < col → ((cutP L c).getD row []).getD (col - 1) 0 = c.getD (c.length - 1) 0 := fun h0 => by
    rw [cutP_r L c (by omega), seg_getD _ _ _ _ (by omega)]
    congr 1
    omega
  by_cases r0 : row = 0
  · rw [decide_eq_true r0, Bool.true_or, Bool.and_true, if_neg (by omega)]
    by_cases c0 : col = 0
    · rw [decide_eq_true c0, Bool.true_or, if_neg (by omega), decide_eq_true hy]
    · rw [decide_eq_false c0, Bool.false_or, if_pos (by omega), elast (by omega)]
  · have hps1 := psum_s L (row - 1)
    have hm := sm (row - 1)
    rw [show row - 1 + 1 = row by omega] at hps1 hm
    have e1 : ((cutP L c).getD (row - 1) []).length = L.getD (row - 1) 0 := by rw [cutP_r L c (by omega), seg_len]; omega
    have e2 : ((cutP L c).getD (row - 1) []).getD col 0 = c.getD (c.length - L.getD (row - 1) 0) 0 := by
      rw [cutP_r L c (by omega), seg_getD _ _ _ _ (by omega)]
      congr 1
      omega
    rw [decide_eq_false r0, Bool.false_or, e1, decide_eq_true (show col < L.getD (row - 1) 0 by omega), Bool.true_and, e2, if_pos (by omega)]
    by_cases c0 : col = 0
    · rw [decide_eq_true c0, Bool.true_or, Bool.true_and, if_neg (by omega)]
      exact decide_eq_decide.mpr (by omega)
    · rw [decide_eq_false c0, Bool.false_or, if_pos (by omega), elast (by omega), ← Bool.decide_and]
      exact decide_eq_decide.mpr (by omega)
theorem CG_back {h h3 : gH} {P P' : List (List Nat)} {r x : Nat} (hC : CG h P) (hC3 : CG h3 P') (hr : r < 6) (hA : isAdd P P' r x) : CG (sI h3 106 r (nI (P.getD r []).length)) P := by
  obtain ⟨a1, a2, a3, a4, a5⟩ := hC
  obtain ⟨b1, b2, b3, b4, b5⟩ := hC3
  refine ⟨fun q hq => ?_, fun q c hq hc => ?_, a3, a4, a5⟩
  · rw [gI_sI]
    by_cases e : q = r
    · subst e; rw [if_pos ⟨rfl, rfl⟩]
    · rw [if_neg (fun z => e z.2), b1 q hq, hA.1 q, if_neg e]
  · rw [gI_sI, if_neg (by omega)]
    have e9 := hA.1 q
    by_cases e : q = r
    · subst e
      rw [if_pos rfl] at e9
      rw [b2 q c hq (by rw [e9, List.length_append]; omega), e9, getD_app_last, if_neg (by omega)]
    · rw [if_neg e] at e9
      rw [b2 q c hq (by rw [e9]; exact hc), e9]
/-- the letters of a shape behind: the lowest row's first -/
def bq (L2 : List Nat) : Nat → List Nat
  | 0 => []
  | m + 1 => List.replicate (L2.getD m 0) (m + 1) ++ bq L2 m
theorem bq_9 (L2 : List Nat) : ∀ m, m ≤ 6 → ∀ y, y ∈ bq L2 m → y ≤ 9
  | 0, _, y, h => by cases h
  | m + 1, hm, y, h => by
    rw [bq] at h
    rcases List.mem_append.mp h with e | e
    · have := List.eq_of_mem_replicate e; omega
    · exact bq_9 L2 m (by omega) y e
theorem WW_add {h h1 : gH} {w : List Nat} {x : Nat} (hW : WW h w) (e18 : gI h1 94 18 = gI h 94 18) (e105 : gI h1 105 = gI h 105) (hl : w.length < 6) (hx : x ≤ 9) : WW (sI (sI h1 105 w.length (nI x)) 94 18 (nI (w.length + 1))) (w ++ [x]) := by
  obtain ⟨w0, w1, w6, w9⟩ := hW
  refine ⟨by rw [gI_sI, if_pos ⟨rfl, rfl⟩, List.length_append, List.length_singleton], fun k hk => ?_, by rw [List.length_append, List.length_singleton]; omega, fun k => ?_⟩
  · rw [List.length_append, List.length_singleton] at hk
    rw [gI_sI, if_neg (by omega), gI_sI, getD_app_last]
    by_cases e : k = w.length
    · rw [if_pos ⟨rfl, e⟩, if_pos e]
    · rw [if_neg (fun z => e z.2), if_neg e, e105]; exact w1 k (by omega)
  · rw [getD_app_last]
    split
    · exact hx
    · exact w9 k
def FrLf (h h' : gH) : Prop := (∀ a, a ≠ 94 → a ≠ 105 → a ≠ 110 → gI h' a = gI h a) ∧ (∀ k, k < 18 ∨ (20 ≤ k ∧ k < 25) ∨ (28 < k ∧ k ≠ 39) → gI h' 94 k = gI h 94 k) ∧ (∀ a b, ¬ (a = 94 ∧ b = 40) → gL h' a b = gL h a b) ∧ gR h' = gR h
def mW (mode : Nat) (P : List (List Nat)) (L2 : List Nat) : List Nat := if mode = 1 then rdL P ++ bq L2 6 else rdL P
def mOk (mode n : Nat) (D : Nat → Nat) (P : List (List Nat)) (L2 : List Nat) : Bool := KX mode D (mW mode P L2) (if mode = 1 then hiB (mW mode P L2) 1 (n - 1) else true) n
section C79
variable {Γ : gM} {d : Nat} {h : gH} {Q : Option Value → gH → Prop} {S : GS}
set_option maxRecDepth 100000 in
set_option maxHeartbeats 4000000 in
theorem m_isFilled {n mode : Nat} {P : List (List Nat)} {L2 : List Nat} {wt D : Nat → Nat} {v : Int32} {u : Int64} (hd : 2 ≤ d) (hn1 : 1 ≤ n) (hn5 : n ≤ 5) (hM : MLay h) (r0 : gI h 94 0 = nI n) (hC : CG h P) (hm : mode ≤ 2) (hwt : ∀ x, 1 ≤ x → x ≤ n → gI h 103 x = nI (wt x)) (hwt9 : ∀ x, wt x ≤ 99) (hD : mode ≠ 2 → ∀ x, 1 ≤ x → x ≤ n → gI h 118 x = nI (D x) ∧ D x ≤ 9) (hL2 : mode = 1 → (∀ r, r < 6 → gI h 116 r = nI (L2.getD r 0)) ∧ szL P + (bq L2 6).length ≤ 6) (g39 : gI h 94 39 = v) (g40 : gL h 94 40 = u) (hQ : ∀ h', gI h' 94 39 = v + gBo (mOk mode n D P L2) → gL h' 94 40 = u + PX wt (mW mode P L2) n → FrLf h h' → Q none h') : V Γ mX10_isFilled d 124 124 h 0 [some (.ref 94), some (.int (nI mode)), none, none, none, none, none, none] [] Q := by
  have endB : ∀ h1 ok x3 x4 x5 x6 x7, WW h1 (mW mode P L2) → ok = (if mode = 1 then hiB (mW mode P L2) 1 (n - 1) else true) → gI h1 94 39 = v → FrLf h h1 → gL h1 = gL h → V Γ mX10_isFilled d 124 124 h1 70 [some (.ref 94), some (.int (nI mode)), some (.int (gBo ok)), x3, x4, x5, x6, x7] [] Q := by
    intro h1 ok x3 x4 x5 x6 x7 hW1 hok g1 hF1 l1
    refine m_isFilledB (u := u) (v := v) (D := D) (wt := wt) hn1 hn5 (MLay_eq hM hF1.2.2.2) (by rw [hF1.2.1 0 (by omega)]; exact r0) hW1 hm (fun x a b => by rw [hF1.1 103 (by omega) (by omega) (by omega)]; exact hwt x a b) hwt9 (fun z x a b => by rw [hF1.1 118 (by omega) (by omega) (by omega)]; exact hD z x a b) g1 (by rw [l1]; exact g40) ?_
    rw [hok]
    refine hQ _ ?_ ?_ ⟨fun a n1 n2 n3 => ?_, fun k hk => ?_, fun a b z => ?_, ?_⟩
    · rw [gI_sL, gI_sI, if_pos ⟨rfl, rfl⟩]; rfl
    · rw [gL_sL, if_pos ⟨rfl, rfl⟩]
    · funext b; rw [gI_sL, gI_sI, if_neg (fun z => n1 z.1)]; exact congrFun (hF1.1 a n1 n2 n3) b
    · rw [gI_sL, gI_sI, if_neg (by omega)]; exact hF1.2.1 k hk
    · rw [gL_sL, if_neg z]; exact hF1.2.2.1 a b z
    · exact hF1.2.2.2
  by_cases m1 : mode = 1
  · obtain ⟨q1, q2⟩ := hL2 m1
    have eW : mW mode P L2 = rdL P ++ bq L2 6 := by unfold mW; rw [if_pos m1]
    rw [eW] at endB
    have hrl := rdL_len P
    have outer : ∀ m X h1 x4 x5 x6 x7, m ≤ 6 → X ++ bq L2 m = bq L2 6 → WW h1 (rdL P ++ X) → gI h1 94 39 = v → FrLf h h1 → gL h1 = gL h → V Γ mX10_isFilled d 124 124 h1 13 [some (.ref 94), some (.int (nI mode)), some (.int (nI 1)), some (.int (nI m - nI 1)), x4, x5, x6, x7] [] Q := by
      intro m
      induction m with
      | zero =>
        intro X h1 x4 x5 x6 x7 hm6 hX hW1 g1 hF1 l1
        rw [bq, List.append_nil] at hX
        rw [hX] at hW1
        have hM1 := MLay_eq hM hF1.2.2.2
        refine V_iloadn3 dX10_isFilled_13 ?_
        refine V_if_lt (tgt := 65) dX10_isFilled_14 (by decide) (fun c14 => ?_) (fun c14 => ?_)
        · skip
          refine V_aloadn0 dX10_isFilled_65 ?_
          refine V_callV0 (μ' := mX10_isHighest) dX10_isFilled_66 okX10_isHighest lX10_252 rfl (by first | assumption | rfl) (by first | decide | omega) (Nat.le_of_ble_eq_true rfl) (Nat.le_of_ble_eq_true rfl) (by omega) ?_
          refine m_isHighest (by omega) hn1 hn5 hM1 (by rw [hF1.2.1 0 (by omega)]; exact r0) hW1 (fun h2 e2 hF2 => ?_)
          dsimp only [gPush]
          refine V_istoren2 dX10_isFilled_69 (by decide) rfl ?_
          exact endB h2 _ _ _ _ _ _ (WW_cg hW1 (hF2.2.1 18 (by omega)) e2) (by rw [if_pos m1]) (by rw [hF2.2.1 39 (by omega)]; exact g1) ⟨fun a n1 n2 n3 => (hF2.1 a n1 n2 n3).trans (hF1.1 a n1 n2 n3), fun k hk => (hF2.2.1 k (by omega)).trans (hF1.2.1 k hk), fun a b z => by rw [hF2.2.2.1]; exact hF1.2.2.1 a b z, hF2.2.2.2.trans hF1.2.2.2⟩ (hF2.2.2.1.trans l1)
        · skip
          exact absurd ((gdec_lt (by omega)).mpr rfl) c14
      | succ m ih =>
        intro X h1 x4 x5 x6 x7 hm6 hX hW1 g1 hF1 l1
        have g116 : ∀ h2, FrLf h h2 → gI h2 116 m = nI (L2.getD m 0) := fun h2 f => by rw [f.1 116 (by omega) (by omega) (by omega)]; exact q1 m (by omega)
        rw [bq, ← List.append_assoc] at hX
        have hlen : X.length + L2.getD m 0 + (bq L2 m).length = (bq L2 6).length := by rw [← hX, List.length_append, List.length_append, List.length_replicate]
        have inner : ∀ g j h2, j + g = L2.getD m 0 → WW h2 (rdL P ++ (X ++ List.replicate j (m + 1))) → gI h2 94 39 = v → FrLf h h2 → gL h2 = gL h → V Γ mX10_isFilled d 124 124 h2 20 [some (.ref 94), some (.int (nI mode)), some (.int (nI 1)), some (.int (nI m)), some (.int (nI j)), x5, x6, x7] [] Q := by
          intro g
          induction g with
          | zero =>
            intro j h2 hj hW2 g2 hF2 l2
            have ej : j = L2.getD m 0 := by omega
            have gg := g116 h2 hF2
            have hM2 := MLay_eq hM hF2.2.2.2
            rw [ej] at hW2
            refine V_iloadw4 dX10_isFilled_20 ?_
            refine V_aloadn0 dX10_isFilled_22 ?_
            refine V_getR dX10_isFilled_23 fX10_80 (by first | assumption | rfl) (by first | decide | omega) (by first | assumption | exact ML_4 (by assumption) | exact ML_5 (by assumption) | exact ML_6 (by assumption) | exact ML_7 (by assumption) | exact ML_8 (by assumption) | exact ML_9 (by assumption) | exact ML_10 (by assumption) | exact ML_11 (by assumption) | exact ML_12 (by assumption) | exact ML_13 (by assumption) | exact ML_15 (by assumption) | exact ML_16 (by assumption) | exact ML_17 (by assumption) | exact ML_20 (by assumption) | exact ML_23 (by assumption) | exact ML_24 (by assumption) | exact ML_30 (by assumption) | exact ML_31 (by assumption) | exact ML_32 (by assumption) | exact ML_33 (by assumption) | exact ML_35 (by assumption) | exact ML_36 (by assumption) | exact ML_37 (by assumption) | exact ML_38 (by assumption) | exact ML_41 (by assumption) | exact ML_42 (by assumption) | exact ML_43 (by assumption) | exact ML_44 (by assumption) | exact ML_45 (by assumption) | rfl) ?_
            refine V_iloadn3 dX10_isFilled_26 ?_
            refine U_iald dX10_isFilled_27 (by with_reducible rfl) (by first | assumption | rfl) (by first | decide | omega) (by omega) (by first | assumption | exact ML_4 (by assumption) | exact ML_5 (by assumption) | exact ML_6 (by assumption) | exact ML_7 (by assumption) | exact ML_8 (by assumption) | exact ML_9 (by assumption) | exact ML_10 (by assumption) | exact ML_11 (by assumption) | exact ML_12 (by assumption) | exact ML_13 (by assumption) | exact ML_15 (by assumption) | exact ML_16 (by assumption) | exact ML_17 (by assumption) | exact ML_20 (by assumption) | exact ML_23 (by assumption) | exact ML_24 (by assumption) | exact ML_30 (by assumption) | exact ML_31 (by assumption) | exact ML_32 (by assumption) | exact ML_33 (by assumption) | exact ML_35 (by assumption) | exact ML_36 (by assumption) | exact ML_37 (by assumption) | exact ML_38 (by assumption) | exact ML_41 (by assumption) | exact ML_42 (by assumption) | exact ML_43 (by assumption) | exact ML_44 (by assumption) | exact ML_45 (by assumption) | rfl) ?_
            first | refine U_icmp_ge (tgt := 59) dX10_isFilled_28 (by decide) (by with_reducible rfl) (by with_reducible rfl) (by omega) (by omega) (fun c28 => ?_) (fun c28 => ?_) | refine V_icmp_ge (tgt := 59) dX10_isFilled_28 (by decide) (fun c28 => ?_) (fun c28 => ?_)
            · skip
              refine V_iinc3 dX10_isFilled_59 (by first | exact gdecS _ | rfl) (by decide) rfl ?_
              refine V_goto (tgt := 13) dX10_isFilled_62 (by decide) ?_
              exact ih _ h2 _ _ _ _ (by omega) hX hW2 g2 hF2 l2
            · skip
              omega
          | succ g ihg =>
            intro j h2 hj hW2 g2 hF2 l2
            have gg := g116 h2 hF2
            have hM2 := MLay_eq hM hF2.2.2.2
            have g18 := hW2.1
            have hl : (rdL P ++ (X ++ List.replicate j (m + 1))).length < 6 := by rw [List.length_append, List.length_append, List.length_replicate]; omega
            have hW3 := WW_add (x := m + 1) hW2 rfl rfl hl (by omega)
            rw [List.append_assoc, List.append_assoc, ← List.replicate_succ'] at hW3
            generalize (rdL P ++ (X ++ List.replicate j (m + 1))).length = len at g18 hl hW3
            have g18' : gI (sI h2 105 len (nI (m + 1))) 94 18 = nI len := by rw [gI_sI, if_neg (by omega)]; exact g18
            have hM3 : MLay (sI h2 105 len (nI (m + 1))) := MLay_eq hM2 rfl
            refine V_iloadw4 dX10_isFilled_20 ?_
            refine V_aloadn0 dX10_isFilled_22 ?_
            refine V_getR dX10_isFilled_23 fX10_80 (by first | assumption | rfl) (by first | decide | omega) (by first | assumption | exact ML_4 (by assumption) | exact ML_5 (by assumption) | exact ML_6 (by assumption) | exact ML_7 (by assumption) | exact ML_8 (by assumption) | exact ML_9 (by assumption) | exact ML_10 (by assumption) | exact ML_11 (by assumption) | exact ML_12 (by assumption) | exact ML_13 (by assumption) | exact ML_15 (by assumption) | exact ML_16 (by assumption) | exact ML_17 (by assumption) | exact ML_20 (by assumption) | exact ML_23 (by assumption) | exact ML_24 (by assumption) | exact ML_30 (by assumption) | exact ML_31 (by assumption) | exact ML_32 (by assumption) | exact ML_33 (by assumption) | exact ML_35 (by assumption) | exact ML_36 (by assumption) | exact ML_37 (by assumption) | exact ML_38 (by assumption) | exact ML_41 (by assumption) | exact ML_42 (by assumption) | exact ML_43 (by assumption) | exact ML_44 (by assumption) | exact ML_45 (by assumption) | rfl) ?_
            refine V_iloadn3 dX10_isFilled_26 ?_
            refine U_iald dX10_isFilled_27 (by with_reducible rfl) (by first | assumption | rfl) (by first | decide | omega) (by omega) (by first | assumption | exact ML_4 (by assumption) | exact ML_5 (by assumption) | exact ML_6 (by assumption) | exact ML_7 (by assumption) | exact ML_8 (by assumption) | exact ML_9 (by assumption) | exact ML_10 (by assumption) | exact ML_11 (by assumption) | exact ML_12 (by assumption) | exact ML_13 (by assumption) | exact ML_15 (by assumption) | exact ML_16 (by assumption) | exact ML_17 (by assumption) | exact ML_20 (by assumption) | exact ML_23 (by assumption) | exact ML_24 (by assumption) | exact ML_30 (by assumption) | exact ML_31 (by assumption) | exact ML_32 (by assumption) | exact ML_33 (by assumption) | exact ML_35 (by assumption) | exact ML_36 (by assumption) | exact ML_37 (by assumption) | exact ML_38 (by assumption) | exact ML_41 (by assumption) | exact ML_42 (by assumption) | exact ML_43 (by assumption) | exact ML_44 (by assumption) | exact ML_45 (by assumption) | rfl) ?_
            first | refine U_icmp_ge (tgt := 59) dX10_isFilled_28 (by decide) (by with_reducible rfl) (by with_reducible rfl) (by omega) (by omega) (fun c28 => ?_) (fun c28 => ?_) | refine V_icmp_ge (tgt := 59) dX10_isFilled_28 (by decide) (fun c28 => ?_) (fun c28 => ?_)
            · skip
              omega
            · skip
              refine V_aloadn0 dX10_isFilled_31 ?_
              refine V_getR dX10_isFilled_32 fX10_47 (by first | assumption | rfl) (by first | decide | omega) (by first | assumption | exact ML_4 (by assumption) | exact ML_5 (by assumption) | exact ML_6 (by assumption) | exact ML_7 (by assumption) | exact ML_8 (by assumption) | exact ML_9 (by assumption) | exact ML_10 (by assumption) | exact ML_11 (by assumption) | exact ML_12 (by assumption) | exact ML_13 (by assumption) | exact ML_15 (by assumption) | exact ML_16 (by assumption) | exact ML_17 (by assumption) | exact ML_20 (by assumption) | exact ML_23 (by assumption) | exact ML_24 (by assumption) | exact ML_30 (by assumption) | exact ML_31 (by assumption) | exact ML_32 (by assumption) | exact ML_33 (by assumption) | exact ML_35 (by assumption) | exact ML_36 (by assumption) | exact ML_37 (by assumption) | exact ML_38 (by assumption) | exact ML_41 (by assumption) | exact ML_42 (by assumption) | exact ML_43 (by assumption) | exact ML_44 (by assumption) | exact ML_45 (by assumption) | rfl) ?_
              refine V_aloadn0 dX10_isFilled_35 ?_
              refine V_getI dX10_isFilled_36 fX10_111 (Or.inl rfl) (by first | assumption | rfl) (by first | decide | omega) (by first | assumption | exact ML_4 (by assumption) | exact ML_5 (by assumption) | exact ML_6 (by assumption) | exact ML_7 (by assumption) | exact ML_8 (by assumption) | exact ML_9 (by assumption) | exact ML_10 (by assumption) | exact ML_11 (by assumption) | exact ML_12 (by assumption) | exact ML_13 (by assumption) | exact ML_15 (by assumption) | exact ML_16 (by assumption) | exact ML_17 (by assumption) | exact ML_20 (by assumption) | exact ML_23 (by assumption) | exact ML_24 (by assumption) | exact ML_30 (by assumption) | exact ML_31 (by assumption) | exact ML_32 (by assumption) | exact ML_33 (by assumption) | exact ML_35 (by assumption) | exact ML_36 (by assumption) | exact ML_37 (by assumption) | exact ML_38 (by assumption) | exact ML_41 (by assumption) | exact ML_42 (by assumption) | exact ML_43 (by assumption) | exact ML_44 (by assumption) | exact ML_45 (by assumption) | rfl) ?_
              refine V_iloadn3 dX10_isFilled_39 ?_
              refine V_iconst (v := nI 1) dX10_isFilled_40 (by decide) ?_
              first | refine U_iadd dX10_isFilled_41 (by with_reducible rfl) (by with_reducible rfl) ?_ | refine V_iadd dX10_isFilled_41 ?_
              refine U_iast dX10_isFilled_42 (by with_reducible rfl) (by first | assumption | rfl) (by first | decide | omega) (by omega) ?_
              refine V_aloadn0 dX10_isFilled_43 ?_
              first | refine V_dupa dX10_isFilled_44 ?_ | refine V_dupi dX10_isFilled_44 ?_
              refine V_getI dX10_isFilled_45 fX10_111 (Or.inl rfl) (by first | assumption | rfl) (by first | decide | omega) (by first | assumption | exact ML_4 (by assumption) | exact ML_5 (by assumption) | exact ML_6 (by assumption) | exact ML_7 (by assumption) | exact ML_8 (by assumption) | exact ML_9 (by assumption) | exact ML_10 (by assumption) | exact ML_11 (by assumption) | exact ML_12 (by assumption) | exact ML_13 (by assumption) | exact ML_15 (by assumption) | exact ML_16 (by assumption) | exact ML_17 (by assumption) | exact ML_20 (by assumption) | exact ML_23 (by assumption) | exact ML_24 (by assumption) | exact ML_30 (by assumption) | exact ML_31 (by assumption) | exact ML_32 (by assumption) | exact ML_33 (by assumption) | exact ML_35 (by assumption) | exact ML_36 (by assumption) | exact ML_37 (by assumption) | exact ML_38 (by assumption) | exact ML_41 (by assumption) | exact ML_42 (by assumption) | exact ML_43 (by assumption) | exact ML_44 (by assumption) | exact ML_45 (by assumption) | rfl) ?_
              refine V_iconst (v := nI 1) dX10_isFilled_48 (by decide) ?_
              first | refine U_iadd dX10_isFilled_49 (by with_reducible rfl) (by with_reducible rfl) ?_ | refine V_iadd dX10_isFilled_49 ?_
              refine V_putI dX10_isFilled_50 fX10_111 (by first | assumption | rfl) (by first | decide | omega) ?_
              refine V_iinc4 dX10_isFilled_53 (by first | exact ginc1 _ | rfl) (by decide) rfl ?_
              refine V_goto (tgt := 20) dX10_isFilled_56 (by decide) ?_
              exact ihg (j + 1) _ (by omega) hW3 (by rw [gI_sI, if_neg (by omega), gI_sI, if_neg (by omega)]; exact g2) ⟨fun a n1 n2 n3 => by funext b; rw [gI_sI, if_neg (fun z => n1 z.1), gI_sI, if_neg (fun z => n2 z.1)]; exact congrFun (hF2.1 a n1 n2 n3) b, fun k hk => by rw [gI_sI, if_neg (by omega), gI_sI, if_neg (by omega)]; exact hF2.2.1 k hk, hF2.2.2.1, hF2.2.2.2⟩ l2
        rw [gdecP]
        refine V_iloadn3 dX10_isFilled_13 ?_
        refine V_if_lt (tgt := 65) dX10_isFilled_14 (by decide) (fun c14 => ?_) (fun c14 => ?_)
        · skip
          exact absurd c14 (nI_pos (by omega))
        · skip
          refine V_iconst (v := nI 0) dX10_isFilled_17 (by decide) ?_
          refine V_istorew4 dX10_isFilled_18 (by decide) rfl ?_
          exact inner _ 0 h1 (Nat.zero_add _) (by rw [List.replicate_zero, List.append_nil]; exact hW1) g1 hF1 l1
    have e5 : nI 5 = nI 6 - nI 1 := (gdecP 5).symm
    refine V_aloadn0 dX10_isFilled_0 ?_
    refine V_callV0 (μ' := mX10_readsCells) dX10_isFilled_1 okX10_readsCells lX10_143 rfl (by first | assumption | rfl) (by first | decide | omega) (Nat.le_of_ble_eq_true rfl) (Nat.le_of_ble_eq_true rfl) (by omega) ?_
    refine m_readsCells hM hC (fun h1 hW1 k1 e1 f1 l1 r1 => ?_)
    dsimp only [gPush]
    refine V_iconst (v := nI 1) dX10_isFilled_4 (by decide) ?_
    refine V_istoren2 dX10_isFilled_5 (by decide) rfl ?_
    refine V_iloadn1 dX10_isFilled_6 ?_
    refine V_iconst (v := nI 1) dX10_isFilled_7 (by decide) ?_
    first | refine U_icmp_ne (tgt := 70) dX10_isFilled_8 (by decide) (by with_reducible rfl) (by with_reducible rfl) (by omega) (by omega) (fun c8 => ?_) (fun c8 => ?_) | refine V_icmp_ne (tgt := 70) dX10_isFilled_8 (by decide) (fun c8 => ?_) (fun c8 => ?_)
    · skip
      omega
    · skip
      refine V_iconst (v := nI 5) dX10_isFilled_11 (by decide) ?_
      refine V_istoren3 dX10_isFilled_12 (by decide) rfl ?_
      rw [e5]
      exact outer 6 [] h1 _ _ _ _ (Nat.le_refl _) (List.nil_append _) (by rw [List.append_nil]; exact hW1) (by rw [f1 39 (by omega) (by omega)]; exact g39) ⟨fun a n1 n2 n3 => e1 a n1 n2, fun k hk => f1 k (by omega) (by omega), fun a b z => by rw [l1], r1⟩ l1
  · have eW : mW mode P L2 = rdL P := by unfold mW; rw [if_neg m1]
    rw [eW, if_neg m1] at endB
    refine V_aloadn0 dX10_isFilled_0 ?_
    refine V_callV0 (μ' := mX10_readsCells) dX10_isFilled_1 okX10_readsCells lX10_143 rfl (by first | assumption | rfl) (by first | decide | omega) (Nat.le_of_ble_eq_true rfl) (Nat.le_of_ble_eq_true rfl) (by omega) ?_
    refine m_readsCells hM hC (fun h1 hW1 k1 e1 f1 l1 r1 => ?_)
    dsimp only [gPush]
    refine V_iconst (v := nI 1) dX10_isFilled_4 (by decide) ?_
    refine V_istoren2 dX10_isFilled_5 (by decide) rfl ?_
    refine V_iloadn1 dX10_isFilled_6 ?_
    refine V_iconst (v := nI 1) dX10_isFilled_7 (by decide) ?_
    first | refine U_icmp_ne (tgt := 70) dX10_isFilled_8 (by decide) (by with_reducible rfl) (by with_reducible rfl) (by omega) (by omega) (fun c8 => ?_) (fun c8 => ?_) | refine V_icmp_ne (tgt := 70) dX10_isFilled_8 (by decide) (fun c8 => ?_) (fun c8 => ?_)
    · skip
      exact endB h1 true _ _ _ _ _ hW1 rfl (by rw [f1 39 (by omega) (by omega)]; exact g39) ⟨fun a n1 n2 n3 => e1 a n1 n2, fun k hk => f1 k (by omega) (by omega), fun a b z => by rw [l1], r1⟩ l1
    · skip
      omega
end C79
