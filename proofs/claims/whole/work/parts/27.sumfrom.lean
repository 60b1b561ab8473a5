/-! ===== the class: the sum over all fillings ===== -/
section C27
variable {Γ : gM}
theorem getD_snoc {c : List Nat} {x j : Nat} : (c ++ [x]).getD j 0 = if j = c.length then x else c.getD j 0 := getD_app_last
set_option maxRecDepth 100000 in
set_option maxHeartbeats 4000000 in
theorem c_sumFrom {s n : Nat} {L : List Nat} {wt : Nat → Int32} {ob : Option (Nat × List Nat)} (hn : n ≤ 5) (hn1 : 1 ≤ n) (hsh : ∀ r, 0 < r → r < L.length → L.getD r 0 ≤ L.getD (r - 1) 0) :
    ∀ (f d : Nat) (h : gH) (Q : Option Value → gH → Prop) (c : List Nat) (row col : Nat) (A : Nat → Nat) (p : Int64), f + 5 ≤ d → FlL h s → FlI h s n L wt ob → AlN h n A → (∀ x, 1 ≤ x → x ≤ n → A x ≤ 6) → (∀ j, j < c.length → gI h 70 j = nI (c.getD j 0)) → (∀ j, c.getD j 0 ≤ 9) → (∀ j, j < c.length → 1 ≤ c.getD j 0) → (L.sum - c.length) + (L.length - row) < f → c.length = psum L row + col → row ≤ L.length → col ≤ L.getD row 0 → (∀ h', AlN h' n A → (∀ j, j < c.length → gI h' 70 j = gI h 70 j) → FrF h h' → Q (some (.long (sF L n wt (cntB n L ob) f c row col A p))) h') →
    V Γ mX1_sumFrom d 124 124 h 0 [some (.ref 67), some (.ref s), some (.int (nI c.length)), some (.int (nI row)), some (.int (nI col)), some (.long p), none, none, none, none] [] Q := by
  intro f
  induction f with
  | zero => intro d h Q c row col A p _ _ _ _ _ _ _ _ hfu; exact absurd hfu (Nat.not_lt_zero _)
  | succ f ih =>
    intro d h Q c row col A p hd hF hI hA hA6 hcI hc9 hc1 hfu hcl hrow hcol hQ
    obtain ⟨a0, a1, a2, a4, a5, a6, a7⟩ := id hF
    obtain ⟨b0, b1, b2, b3⟩ := id hI
    obtain ⟨s0, s1, s2, s3, s4, s5⟩ := id b0
    obtain ⟨l0, l1, lt, lr⟩ := id a6
    have hc6 : c.length ≤ 6 := by
      rcases Nat.lt_or_ge row L.length with hlt | hge
      · have := psum_succ (L := L) (r := row) hlt
        have := psum_le L (row + 1)
        omega
      · have hz : L.getD row 0 = 0 := getD_out hge
        have := psum_le L row
        omega
    have hle6 := s5 row
    rw [sF] at hQ
    have hrl : ¬ L.sum ≤ c.length → row < L.length := fun q => by
      rcases Nat.lt_or_ge row L.length with hlt | hge
      · exact hlt
      · have := psum_all (L := L) (r := row) hge; omega
    generalize hls : lstF L c row col = ls at hQ
    have loop : ∀ k j h1 x8, n + 1 - ls - j = k → j ≤ n + 1 - ls → 1 ≤ ls → ls ≤ 10 → x8 = ls + j → ¬ L.sum ≤ c.length → ¬ L.getD row 0 ≤ col → AlN h1 n A → (∀ i, i < c.length → gI h1 70 i = gI h 70 i) → FrF h h1 → V Γ mX1_sumFrom d 124 124 h1 78 [some (.ref 67), some (.ref s), some (.int (nI c.length)), some (.int (nI row)), some (.int (nI col)), some (.long p), none, some (.long ((List.range j).foldl (fun acc j => if 0 < A (ls + j) then acc + sF L n wt (cntB n L ob) f (c ++ [ls + j]) row (col + 1) (fun y => if y = ls + j then A y - 1 else A y) (p * (wt (ls + j)).toInt64) else acc) (lN 0))), none, some (.int (nI x8))] [] Q := by
      intro k
      induction k using Nat.strongRecOn with
      | _ k ih2 =>
        intro j h1 x8 hk hj hl1 hl10 hx8 hns hnc hA1 hc1' hF1
        have r0 : gR h1 67 0 = some 68 := by rw [hF1.2.2]; exact a0
        have r1 : gR h1 67 1 = some 69 := by rw [hF1.2.2]; exact a1
        have r2 : gR h1 67 2 = some 70 := by rw [hF1.2.2]; exact a2
        have n4 : gI h1 67 3 = nI n := by rw [hF1.1 67 (by omega) (by omega)]; exact b1
        have hAx : x8 ≤ n → A x8 ≤ 6 := fun q => hA6 x8 (by omega) q
        rw [if_neg hns, if_neg hnc] at hQ
        have hsucc : ∀ (acc : Int64), (List.range (j + 1)).foldl (fun acc j => if 0 < A (ls + j) then acc + sF L n wt (cntB n L ob) f (c ++ [ls + j]) row (col + 1) (fun y => if y = ls + j then A y - 1 else A y) (p * (wt (ls + j)).toInt64) else acc) acc = (if 0 < A (ls + j) then (List.range j).foldl (fun acc j => if 0 < A (ls + j) then acc + sF L n wt (cntB n L ob) f (c ++ [ls + j]) row (col + 1) (fun y => if y = ls + j then A y - 1 else A y) (p * (wt (ls + j)).toInt64) else acc) acc + sF L n wt (cntB n L ob) f (c ++ [ls + j]) row (col + 1) (fun y => if y = ls + j then A y - 1 else A y) (p * (wt (ls + j)).toInt64) else (List.range j).foldl (fun acc j => if 0 < A (ls + j) then acc + sF L n wt (cntB n L ob) f (c ++ [ls + j]) row (col + 1) (fun y => if y = ls + j then A y - 1 else A y) (p * (wt (ls + j)).toInt64) else acc) acc) := fun acc => by
          rw [List.range_succ, List.foldl_append]
          rfl
        have hsucc := hsucc (lN 0)
        generalize hacc : (List.range j).foldl (fun acc j => if 0 < A (ls + j) then acc + sF L n wt (cntB n L ob) f (c ++ [ls + j]) row (col + 1) (fun y => if y = ls + j then A y - 1 else A y) (p * (wt (ls + j)).toInt64) else acc) (lN 0) = acc at hsucc ⊢
        rw [← hx8] at hsucc
        have hxs := ih2
        refine V_iloadw9 dX1_sumFrom_78 ?_
        refine V_aloadn0 dX1_sumFrom_80 ?_
        refine V_getI dX1_sumFrom_81 fX1_52 (Or.inl rfl) (by first | assumption | rfl) (by first | decide | omega) (by first | assumption | assumption | exact hA1 _ (by omega) (by omega) | rfl) ?_
        first | refine U_icmp_gt (tgt := 162) dX1_sumFrom_84 (by decide) (by with_reducible rfl) (by with_reducible rfl) (by omega) (by omega) (fun c84 => ?_) (fun c84 => ?_) | refine V_icmp_gt (tgt := 162) dX1_sumFrom_84 (by decide) (fun c84 => ?_) (fun c84 => ?_)
        · skip
          have e : j = n + 1 - ls := by omega
          rw [e] at hacc
          rw [hacc] at hQ
          refine V_lloadw7 dX1_sumFrom_162 ?_
          refine V_lret dX1_sumFrom_164 rfl ?_
          exact hQ h1 hA1 hc1' hF1
        · skip
          refine V_aloadn0 dX1_sumFrom_87 ?_
          refine V_getR dX1_sumFrom_88 fX1_9 (by first | assumption | rfl) (by first | decide | omega) (by first | assumption | assumption | exact hA1 _ (by omega) (by omega) | rfl) ?_
          refine V_iloadw9 dX1_sumFrom_91 ?_
          refine U_iald dX1_sumFrom_93 (by with_reducible rfl) (by first | assumption | rfl) (by first | decide | omega) (by omega) (by first | assumption | assumption | exact hA1 _ (by omega) (by omega) | rfl) ?_
          first | refine U_if_le (tgt := 156) dX1_sumFrom_94 (by decide) (by with_reducible rfl) (by omega) (fun c94 => ?_) (fun c94 => ?_) | refine V_if_le (tgt := 156) dX1_sumFrom_94 (by decide) (fun c94 => ?_) (fun c94 => ?_)
          · skip
            rw [if_neg (by omega)] at hsucc
            refine V_iinc9 dX1_sumFrom_156 (by exact ginc1 _) (by decide) rfl ?_
            refine V_goto (tgt := 78) dX1_sumFrom_159 (by decide) ?_
            rw [← hsucc]
            exact ih2 _ (by omega) (j + 1) h1 (x8 + 1) rfl (by omega) hl1 hl10 (by omega) hns hnc hA1 hc1' hF1
          · skip
            rw [if_pos (by omega)] at hsucc
            generalize hh2 : sI h1 68 x8 (nI (A x8 - 1)) = h2
            refine V_aloadn0 dX1_sumFrom_97 ?_
            refine V_getR dX1_sumFrom_98 fX1_9 (by first | assumption | rfl) (by first | decide | omega) (by first | assumption | assumption | exact hA1 _ (by omega) (by omega) | rfl) ?_
            refine V_iloadw9 dX1_sumFrom_101 ?_
            refine V_dup2 dX1_sumFrom_103 ?_
            refine U_iald dX1_sumFrom_104 (by with_reducible rfl) (by first | assumption | rfl) (by first | decide | omega) (by omega) (by first | assumption | assumption | exact hA1 _ (by omega) (by omega) | rfl) ?_
            refine V_iconst (v := nI 1) dX1_sumFrom_105 (by decide) ?_
            first | refine U_isub dX1_sumFrom_106 (by with_reducible rfl) (by with_reducible rfl) (by omega) ?_ | refine V_isub dX1_sumFrom_106 ?_
            refine U_iast dX1_sumFrom_107 (by with_reducible rfl) (by first | assumption | rfl) (by first | decide | omega) (by omega) ?_
            rw [hh2]
            have f2 : FrF h1 h2 := by rw [← hh2]; exact (fr_sI (lo := 68) (hi := 69) Fr1.rf (by omega) (by omega)).toF (Or.inr (Or.inl ⟨by omega, by omega⟩))
            have r2'' : gR h2 67 2 = some 70 := by rw [f2.2.2]; exact r2
            generalize hh3 : sI h2 70 c.length (nI x8) = h3
            refine V_aloadn0 dX1_sumFrom_108 ?_
            refine V_getR dX1_sumFrom_109 fX1_18 (by first | assumption | rfl) (by first | decide | omega) (by first | assumption | assumption | exact hA1 _ (by omega) (by omega) | rfl) ?_
            refine V_iloadn2 dX1_sumFrom_112 ?_
            refine V_iloadw9 dX1_sumFrom_113 ?_
            refine U_iast dX1_sumFrom_115 (by with_reducible rfl) (by first | assumption | rfl) (by first | decide | omega) (by omega) ?_
            rw [hh3]
            have f3 : FrF h2 h3 := by rw [← hh3]; exact (fr_sI (lo := 70) (hi := 74) Fr1.rf (by omega) (by omega)).toF (Or.inr (Or.inr ⟨by omega, by omega⟩))
            have f13 := (hF1.tr f2).tr f3
            have r1'' : gR h3 67 1 = some 69 := by rw [f13.2.2]; exact a1
            have w1 : gI h3 69 x8 = wt x8 := by rw [f13.1 69 (by omega) (by omega)]; exact b2 x8 (by omega) (by omega)
            have hA3 : AlN h3 n (fun y => if y = x8 then A y - 1 else A y) := fun y y1 y2 => by
              show gI h3 68 y = nI (if y = x8 then A y - 1 else A y)
              rw [← hh3, gI_sI, if_neg (by omega), ← hh2, gI_sI]
              by_cases ey : y = x8
              · rw [if_pos ⟨rfl, ey⟩, if_pos ey, ey]
              · rw [if_neg (fun z => ey z.2), if_neg ey]; exact hA1 y y1 y2
            have hc3 : ∀ i, i < (c ++ [x8]).length → gI h3 70 i = nI ((c ++ [x8]).getD i 0) := fun i hi => by
              rw [List.length_append, List.length_singleton] at hi
              rw [← hh3, gI_sI, getD_snoc]
              by_cases ei : i = c.length
              · rw [if_pos ⟨rfl, ei⟩, if_pos ei]
              · rw [if_neg (fun z => ei z.2), if_neg ei, ← hh2, gI_sI, if_neg (by omega), hc1' i (by omega)]; exact hcI i (by omega)
            refine V_lloadw7 dX1_sumFrom_116 ?_
            refine V_aloadn0 dX1_sumFrom_118 ?_
            refine V_aloadn1 dX1_sumFrom_119 ?_
            refine V_iloadn2 dX1_sumFrom_120 ?_
            refine V_iconst (v := nI 1) dX1_sumFrom_121 (by decide) ?_
            first | refine U_iadd dX1_sumFrom_122 (by with_reducible rfl) (by with_reducible rfl) ?_ | refine V_iadd dX1_sumFrom_122 ?_
            refine V_iloadn3 dX1_sumFrom_123 ?_
            refine V_iloadw4 dX1_sumFrom_124 ?_
            refine V_iconst (v := nI 1) dX1_sumFrom_126 (by decide) ?_
            first | refine U_iadd dX1_sumFrom_127 (by with_reducible rfl) (by with_reducible rfl) ?_ | refine V_iadd dX1_sumFrom_127 ?_
            refine V_lloadw5 dX1_sumFrom_128 ?_
            refine V_aloadn0 dX1_sumFrom_130 ?_
            refine V_getR dX1_sumFrom_131 fX1_15 (by first | assumption | rfl) (by first | decide | omega) (by first | assumption | assumption | exact hA1 _ (by omega) (by omega) | rfl) ?_
            refine V_iloadw9 dX1_sumFrom_134 ?_
            refine U_iald dX1_sumFrom_136 (by with_reducible rfl) (by first | assumption | rfl) (by first | decide | omega) (by omega) (by first | assumption | assumption | exact hA1 _ (by omega) (by omega) | rfl) ?_
            refine V_i2l dX1_sumFrom_137 rfl ?_
            refine V_lmul dX1_sumFrom_138 ?_
            refine V_callS6 (μ' := mX1_sumFrom) dX1_sumFrom_139 okX1_sumFrom lX1_60 (Nat.le_of_ble_eq_true rfl) (Nat.le_of_ble_eq_true rfl) (by omega) ?_
            have hih := ih (d - 1) h3 (fun r h' => V Γ mX1_sumFrom d 124 124 h' (139 + 3) [some (.ref 67), some (.ref s), some (.int (nI c.length)), some (.int (nI row)), some (.int (nI col)), some (.long p), none, some (.long acc), none, some (.int (nI x8))] (gPush r [.long acc]) Q) (c ++ [x8]) row (col + 1) (fun y => if y = x8 then A y - 1 else A y) (p * (wt x8).toInt64) (by omega) (FlL_fr hF f13.2.2) (FlI_fr hI f13 (by omega)) hA3 (fun y y1 y2 => by have := hA6 y y1 y2; show (if y = x8 then A y - 1 else A y) ≤ 6; split <;> omega) hc3 (fun i => by rw [getD_snoc]; split; omega; exact hc9 i) (fun i hi => by
              rw [List.length_append, List.length_singleton] at hi
              rw [getD_snoc]
              split
              · omega
              · exact hc1 i (by omega)) (by rw [List.length_append, List.length_singleton]; omega) (by rw [List.length_append, List.length_singleton]; omega) hrow (by omega) (fun h4 hA4 hc4 hF4 => ?_)
            rw [List.length_append, List.length_singleton] at hih
            exact hih
            have f14 := f13.tr hF4
            have r0'' : gR h4 67 0 = some 68 := by rw [f14.2.2]; exact a0
            have w4 : gI h4 68 x8 = nI (A x8 - 1) := by have q : gI h4 68 x8 = nI (if x8 = x8 then A x8 - 1 else A x8) := hA4 x8 (by omega) (by omega); rw [if_pos rfl] at q; exact q
            dsimp only [gPush]
            refine V_ladd dX1_sumFrom_142 ?_
            refine V_lstorew7 dX1_sumFrom_143 (by decide) rfl ?_
            refine V_aloadn0 dX1_sumFrom_145 ?_
            refine V_getR dX1_sumFrom_146 fX1_9 (by first | assumption | rfl) (by first | decide | omega) (by first | assumption | assumption | exact hA1 _ (by omega) (by omega) | rfl) ?_
            refine V_iloadw9 dX1_sumFrom_149 ?_
            refine V_dup2 dX1_sumFrom_151 ?_
            refine U_iald dX1_sumFrom_152 (by with_reducible rfl) (by first | assumption | rfl) (by first | decide | omega) (by omega) (by first | assumption | assumption | exact hA1 _ (by omega) (by omega) | rfl) ?_
            refine V_iconst (v := nI 1) dX1_sumFrom_153 (by decide) ?_
            first | refine U_iadd dX1_sumFrom_154 (by with_reducible rfl) (by with_reducible rfl) ?_ | refine V_iadd dX1_sumFrom_154 ?_
            refine U_iast dX1_sumFrom_155 (by with_reducible rfl) (by first | assumption | rfl) (by first | decide | omega) (by omega) ?_
            refine V_iinc9 dX1_sumFrom_156 (by first | exact ginc1 _ | rfl) (by decide) rfl ?_
            refine V_goto (tgt := 78) dX1_sumFrom_159 (by decide) ?_
            rw [← hsucc]
            refine ih2 _ (by omega) (j + 1) _ (x8 + 1) rfl (by omega) hl1 hl10 (by omega) hns hnc (fun y y1 y2 => ?_) (fun i hi => ?_) (f14.tr ((fr_sI (lo := 68) (hi := 69) Fr1.rf (by omega) (by omega)).toF (Or.inr (Or.inl ⟨by omega, by omega⟩))))
            · rw [gI_sI]
              by_cases ey : y = x8
              · rw [if_pos ⟨rfl, ey⟩, ey]; congr 1; omega
              · rw [if_neg (fun z => ey z.2)]
                have q : gI h4 68 y = nI (if y = x8 then A y - 1 else A y) := hA4 y y1 y2
                rw [if_neg ey] at q
                exact q
            · rw [gI_sI, if_neg (by omega), hc4 i (by rw [List.length_append, List.length_singleton]; omega), ← hh3, gI_sI, if_neg (by omega), ← hh2, gI_sI, if_neg (by omega)]
              exact hc1' i hi
    refine V_iloadn2 dX1_sumFrom_0 ?_
    refine V_aloadn1 dX1_sumFrom_1 ?_
    refine V_getI dX1_sumFrom_2 fX1_68 (Or.inl rfl) (by first | assumption | rfl) (by first | decide | omega) (by first | assumption | rfl) ?_
    first | refine U_icmp_ge (tgt := 14) dX1_sumFrom_5 (by decide) (by with_reducible rfl) (by with_reducible rfl) (by omega) (by omega) (fun c5 => ?_) (fun c5 => ?_) | refine V_icmp_ge (tgt := 14) dX1_sumFrom_5 (by decide) (fun c5 => ?_) (fun c5 => ?_)
    · skip
      rw [if_pos (by omega)] at hQ
      refine V_aloadn0 dX1_sumFrom_14 ?_
      refine V_aloadn1 dX1_sumFrom_15 ?_
      refine V_callV1 (μ' := mX1_counts) dX1_sumFrom_16 okX1_counts lX1_71 rfl (by first | assumption | rfl) (by first | decide | omega) (Nat.le_of_ble_eq_true rfl) (Nat.le_of_ble_eq_true rfl) (by omega) ?_
      refine c_counts (by omega) hn hn1 hF hI (by omega) hc6 hcI hc9 (fun h1 hF1 => ?_)
      have fF : FrF h h1 := ⟨fun a q1 q2 => hF1.1 a (by omega) (by omega), hF1.2.1, hF1.2.2⟩
      have hA1 : AlN h1 n A := fun x x1 x2 => by rw [hF1.1 68 (by omega) (by omega)]; exact hA x x1 x2
      have hc1' : ∀ j, j < c.length → gI h1 70 j = gI h 70 j := fun j hj => by rw [hF1.1 70 (by omega) (by omega)]
      dsimp only [gPush]
      first | refine U_ifB_eq (tgt := 27) dX1_sumFrom_19 (by decide) (by with_reducible rfl) (fun c19 => ?_) (fun c19 => ?_) | refine U_if_eq (tgt := 27) dX1_sumFrom_19 (by decide) (by with_reducible rfl) (by omega) (fun c19 => ?_) (fun c19 => ?_) | refine V_if_eq (tgt := 27) dX1_sumFrom_19 (by decide) (fun c19 => ?_) (fun c19 => ?_)
      · skip
        rw [if_neg (by rw [c19]; exact Bool.false_ne_true)] at hQ
        refine V_lconst (v := lN 0) dX1_sumFrom_27 (by decide) ?_
        refine V_lret dX1_sumFrom_28 rfl ?_
        exact hQ h1 hA1 hc1' fF
      · skip
        rw [if_pos c19] at hQ
        refine V_lloadw5 dX1_sumFrom_22 ?_
        refine V_goto (tgt := 28) dX1_sumFrom_24 (by decide) ?_
        refine V_lret dX1_sumFrom_28 rfl ?_
        exact hQ h1 hA1 hc1' fF
    · skip
      refine V_iloadn2 dX1_sumFrom_8 ?_
      refine V_bipush (v := nI 6) dX1_sumFrom_9 (by decide) ?_
      first | refine U_icmp_lt (tgt := 29) dX1_sumFrom_11 (by decide) (by with_reducible rfl) (by with_reducible rfl) (by omega) (by omega) (fun c11 => ?_) (fun c11 => ?_) | refine V_icmp_lt (tgt := 29) dX1_sumFrom_11 (by decide) (fun c11 => ?_) (fun c11 => ?_)
      · skip
        have hrl := hrl (by omega)
        have hps := psum_succ (L := L) (r := row) hrl
        have hpl := psum_le L (row + 1)
        refine V_iloadw4 dX1_sumFrom_29 ?_
        refine V_aloadn1 dX1_sumFrom_31 ?_
        refine V_iloadn3 dX1_sumFrom_32 ?_
        refine V_callV1 (μ' := mX4_lengthOf) dX1_sumFrom_33 okX4_lengthOf lX1_41 rfl (by first | assumption | rfl) (by first | decide | omega) (Nat.le_of_ble_eq_true rfl) (Nat.le_of_ble_eq_true rfl) (by omega) ?_
        refine c_lengthOf (by omega) a6 b0 ?_
        dsimp only [gPush]
        first | refine U_icmp_lt (tgt := 64) dX1_sumFrom_36 (by decide) (by with_reducible rfl) (by with_reducible rfl) (by omega) (by omega) (fun c36 => ?_) (fun c36 => ?_) | refine V_icmp_lt (tgt := 64) dX1_sumFrom_36 (by decide) (fun c36 => ?_) (fun c36 => ?_)
        · skip
          refine V_lconst (v := lN 0) dX1_sumFrom_64 (by decide) ?_
          refine V_lstorew7 dX1_sumFrom_65 (by decide) rfl ?_
          refine V_aloadn0 dX1_sumFrom_67 ?_
          refine V_aloadn1 dX1_sumFrom_68 ?_
          refine V_iloadn2 dX1_sumFrom_69 ?_
          refine V_iloadn3 dX1_sumFrom_70 ?_
          refine V_iloadw4 dX1_sumFrom_71 ?_
          refine V_callV4 (μ' := mX1_leastLetter) dX1_sumFrom_73 okX1_leastLetter lX1_78 rfl (by first | assumption | rfl) (by first | decide | omega) (Nat.le_of_ble_eq_true rfl) (Nat.le_of_ble_eq_true rfl) (by omega) ?_
          refine c_leastLetter (by omega) hF hI hrl (by omega) hcl hc6 (fun q => hsh row q hrl) hcI hc9 ?_
          rw [hls]
          dsimp only [gPush]
          refine V_istorew9 dX1_sumFrom_76 (by decide) rfl ?_
          refine loop _ 0 h ls rfl (by omega) ?_ ?_ (by omega) (by omega) (by omega) hA (fun _ _ => rfl) FrF.rf
          · rw [← hls]; unfold lstF
            have q1 : 1 ≤ (if 0 < col then c.getD (c.length - 1) 0 else 1) := by
              by_cases q : 0 < col
              · rw [if_pos q]; exact hc1 _ (by omega)
              · rw [if_neg q]; exact Nat.le_refl _
            by_cases q2 : 0 < row
            · rw [if_pos q2]; omega
            · rw [if_neg q2]; exact q1
          · rw [← hls]; unfold lstF
            have q1 : (if 0 < col then c.getD (c.length - 1) 0 else 1) ≤ 9 := by
              by_cases q : 0 < col
              · rw [if_pos q]; exact hc9 _
              · rw [if_neg q]; decide
            have q3 := hc9 (c.length - L.getD (row - 1) 0)
            by_cases q2 : 0 < row
            · rw [if_pos q2]; omega
            · rw [if_neg q2]; omega
        · skip
          rw [if_neg (by omega), if_pos (by omega)] at hQ
          refine V_iloadn3 dX1_sumFrom_39 ?_
          refine V_aloadn1 dX1_sumFrom_40 ?_
          refine V_getI dX1_sumFrom_41 fX1_75 (Or.inl rfl) (by first | assumption | rfl) (by first | decide | omega) (by first | assumption | rfl) ?_
          first | refine U_icmp_ge (tgt := 62) dX1_sumFrom_44 (by decide) (by with_reducible rfl) (by with_reducible rfl) (by omega) (by omega) (fun c44 => ?_) (fun c44 => ?_) | refine V_icmp_ge (tgt := 62) dX1_sumFrom_44 (by decide) (fun c44 => ?_) (fun c44 => ?_)
          · skip
            omega
          · skip
            rw [if_pos hrl] at hQ
            refine V_aloadn0 dX1_sumFrom_47 ?_
            refine V_aloadn1 dX1_sumFrom_48 ?_
            refine V_iloadn2 dX1_sumFrom_49 ?_
            refine V_iloadn3 dX1_sumFrom_50 ?_
            refine V_iconst (v := nI 1) dX1_sumFrom_51 (by decide) ?_
            first | refine U_iadd dX1_sumFrom_52 (by with_reducible rfl) (by with_reducible rfl) ?_ | refine V_iadd dX1_sumFrom_52 ?_
            refine V_iconst (v := nI 0) dX1_sumFrom_53 (by decide) ?_
            refine V_lloadw5 dX1_sumFrom_54 ?_
            refine V_callS6 (μ' := mX1_sumFrom) dX1_sumFrom_56 okX1_sumFrom lX1_60 (Nat.le_of_ble_eq_true rfl) (Nat.le_of_ble_eq_true rfl) (by omega) ?_
            refine ih (d - 1) h _ c (row + 1) 0 A p (by omega) hF hI hA hA6 hcI hc9 hc1 (by omega) (by omega) (by omega) (Nat.zero_le _) (fun h1 hA1 hc1' fF => ?_)
            dsimp only [gPush]
            refine V_goto (tgt := 63) dX1_sumFrom_59 (by decide) ?_
            refine V_lret dX1_sumFrom_63 rfl ?_
            exact hQ h1 hA1 hc1' fF
      · skip
        omega
end C27
