/-! ===== the law: its switch, its loop ===== -/
theorem nI_sub6 : ∀ a, a < 6 → nI a - nI 6 < 0 := by decide
theorem sw_in {y : Int32} (h : ¬ (y.toInt < 0 ∨ 33 < y.toInt)) : ∃ n : Nat, n ≤ 33 ∧ y = nI n := by
  obtain ⟨n, hn, rfl⟩ := nI_of (x := y) (fun q => h (Or.inl (by simpa using Int32.lt_iff_toInt_lt.mp q)))
  rw [nI_toInt hn] at h
  exact ⟨n, by omega, rfl⟩
section C92
variable {Γ : gM} {d j : Nat} {h : gH} {Q : Option Value → gH → Prop} {S : GS}
set_option maxRecDepth 100000 in
set_option maxHeartbeats 4000000 in
theorem L_sw (hd : 20 ≤ d) (hj : j + 6 ≤ Γ.2.2.2.1.2.1) (hRC : RC h S) (hRM : RM h S) (kk : ∀ h' S', RC h' S' → RM h' S' → V Γ mL_law d 124 124 h' 1346 [some (.ref 1000), some (.ref 0), some (.ref 94), some (.int (nI j))] [] Q) : V Γ mL_law d 124 124 h 27 [some (.ref 1000), some (.ref 0), some (.ref 94), some (.int (nI j))] [] Q := by
  refine V_aloadn0 dL_law_27 ?_
  refine V_iloadn3 dL_law_28 ?_
  refine V_sld dL_law_29 (by omega) ?_
  refine V_bipush (v := nI 63) dL_law_30 (by decide) ?_
  refine V_iand dL_law_32 ?_
  generalize (Γ.2.2.2.1.2.2 j &&& nI 63) = y
  by_cases hy : y.toInt < 0 ∨ 33 < y.toInt
  · refine V_tableOut (tgt := 1346) dL_law_33 hy (by decide) ?_
    exact kk h S hRC hRM
  · obtain ⟨n, hn, rfl⟩ := sw_in hy
    clear hy
    match n, hn with
    | 0, _ =>
      refine V_tableIn (tgt := 184) dL_law_33 (by decide) (by decide) rfl (by decide) ?_
      exact L_0 hd hj hRC hRM kk
    | 1, _ =>
      refine V_tableIn (tgt := 207) dL_law_33 (by decide) (by decide) rfl (by decide) ?_
      exact L_1 hd hj hRC hRM kk
    | 2, _ =>
      refine V_tableIn (tgt := 240) dL_law_33 (by decide) (by decide) rfl (by decide) ?_
      exact L_2 hd hj hRC hRM kk
    | 3, _ =>
      refine V_tableIn (tgt := 303) dL_law_33 (by decide) (by decide) rfl (by decide) ?_
      exact L_3 hd hj hRC hRM kk
    | 4, _ =>
      refine V_tableIn (tgt := 326) dL_law_33 (by decide) (by decide) rfl (by decide) ?_
      exact L_4 hd hj hRC hRM kk
    | 5, _ =>
      refine V_tableIn (tgt := 349) dL_law_33 (by decide) (by decide) rfl (by decide) ?_
      exact L_5 hd hj hRC hRM kk
    | 6, _ =>
      refine V_tableIn (tgt := 382) dL_law_33 (by decide) (by decide) rfl (by decide) ?_
      exact L_6 hd hj hRC hRM kk
    | 7, _ =>
      refine V_tableIn (tgt := 415) dL_law_33 (by decide) (by decide) rfl (by decide) ?_
      exact L_7 hd hj hRC hRM kk
    | 8, _ =>
      refine V_tableIn (tgt := 448) dL_law_33 (by decide) (by decide) rfl (by decide) ?_
      exact L_8 hd hj hRC hRM kk
    | 9, _ =>
      refine V_tableIn (tgt := 491) dL_law_33 (by decide) (by decide) rfl (by decide) ?_
      exact L_9 hd hj hRC hRM kk
    | 10, _ =>
      refine V_tableIn (tgt := 544) dL_law_33 (by decide) (by decide) rfl (by decide) ?_
      exact L_10 hd hj hRC hRM kk
    | 11, _ =>
      refine V_tableIn (tgt := 567) dL_law_33 (by decide) (by decide) rfl (by decide) ?_
      exact L_11 hd hj hRC hRM kk
    | 12, _ =>
      refine V_tableIn (tgt := 600) dL_law_33 (by decide) (by decide) rfl (by decide) ?_
      exact L_12 hd hj hRC hRM kk
    | 13, _ =>
      refine V_tableIn (tgt := 633) dL_law_33 (by decide) (by decide) rfl (by decide) ?_
      exact L_13 hd hj hRC hRM kk
    | 14, _ =>
      refine V_tableIn (tgt := 656) dL_law_33 (by decide) (by decide) rfl (by decide) ?_
      exact L_14 hd hj hRC hRM kk
    | 15, _ =>
      refine V_tableIn (tgt := 679) dL_law_33 (by decide) (by decide) rfl (by decide) ?_
      exact L_15 hd hj hRC hRM kk
    | 16, _ =>
      refine V_tableIn (tgt := 722) dL_law_33 (by decide) (by decide) rfl (by decide) ?_
      exact L_16 hd hj hRC hRM kk
    | 17, _ =>
      refine V_tableIn (tgt := 755) dL_law_33 (by decide) (by decide) rfl (by decide) ?_
      exact L_17 hd hj hRC hRM kk
    | 18, _ =>
      refine V_tableIn (tgt := 788) dL_law_33 (by decide) (by decide) rfl (by decide) ?_
      exact L_18 hd hj hRC hRM kk
    | 19, _ =>
      refine V_tableIn (tgt := 821) dL_law_33 (by decide) (by decide) rfl (by decide) ?_
      exact L_19 hd hj hRC hRM kk
    | 20, _ =>
      refine V_tableIn (tgt := 854) dL_law_33 (by decide) (by decide) rfl (by decide) ?_
      exact L_20 hd hj hRC hRM kk
    | 21, _ =>
      refine V_tableIn (tgt := 897) dL_law_33 (by decide) (by decide) rfl (by decide) ?_
      exact L_21 hd hj hRC hRM kk
    | 22, _ =>
      refine V_tableIn (tgt := 930) dL_law_33 (by decide) (by decide) rfl (by decide) ?_
      exact L_22 hd hj hRC hRM kk
    | 23, _ =>
      refine V_tableIn (tgt := 953) dL_law_33 (by decide) (by decide) rfl (by decide) ?_
      exact L_23 hd hj hRC hRM kk
    | 24, _ =>
      refine V_tableIn (tgt := 976) dL_law_33 (by decide) (by decide) rfl (by decide) ?_
      exact L_24 hd hj hRC hRM kk
    | 25, _ =>
      refine V_tableIn (tgt := 1009) dL_law_33 (by decide) (by decide) rfl (by decide) ?_
      exact L_25 hd hj hRC hRM kk
    | 26, _ =>
      refine V_tableIn (tgt := 1052) dL_law_33 (by decide) (by decide) rfl (by decide) ?_
      exact L_26 hd hj hRC hRM kk
    | 27, _ =>
      refine V_tableIn (tgt := 1095) dL_law_33 (by decide) (by decide) rfl (by decide) ?_
      exact L_27 hd hj hRC hRM kk
    | 28, _ =>
      refine V_tableIn (tgt := 1138) dL_law_33 (by decide) (by decide) rfl (by decide) ?_
      exact L_28 hd hj hRC hRM kk
    | 29, _ =>
      refine V_tableIn (tgt := 1201) dL_law_33 (by decide) (by decide) rfl (by decide) ?_
      exact L_29 hd hj hRC hRM kk
    | 30, _ =>
      refine V_tableIn (tgt := 1244) dL_law_33 (by decide) (by decide) rfl (by decide) ?_
      exact L_30 hd hj hRC hRM kk
    | 31, _ =>
      refine V_tableIn (tgt := 1297) dL_law_33 (by decide) (by decide) rfl (by decide) ?_
      exact L_31 hd hj hRC hRM kk
    | 32, _ =>
      refine V_tableIn (tgt := 1320) dL_law_33 (by decide) (by decide) rfl (by decide) ?_
      exact L_32 hd hj hRC hRM kk
    | 33, _ =>
      refine V_tableIn (tgt := 1333) dL_law_33 (by decide) (by decide) rfl (by decide) ?_
      exact L_33 hd hj hRC hRM kk
    | n + 34, hn => exact absurd hn (by omega)
set_option maxRecDepth 100000 in
set_option maxHeartbeats 4000000 in
theorem L_loop (hd : 20 ≤ d) (hL : Γ.2.2.2.1.2.1 ≤ 3072) (hQ : ∀ h', Q (some (.int (nI 1))) h') : ∀ (k j : Nat) (h : gH) (S : GS), Γ.2.2.2.1.2.1 + 6 - j = k → j ≤ Γ.2.2.2.1.2.1 + 6 → RC h S → RM h S → V Γ mL_law d 124 124 h 18 [some (.ref 1000), some (.ref 0), some (.ref 94), some (.int (nI j))] [] Q := by
  intro k
  induction k using Nat.strongRecOn with
  | _ k ih =>
    intro j h S hk hj hRC hRM
    by_cases h6 : 6 ≤ Γ.2.2.2.1.2.1
    · skip
      refine V_iloadn3 dL_law_18 ?_
      refine V_aloadn0 dL_law_19 ?_
      refine V_slen dL_law_20 ?_
      refine V_bipush (v := nI 6) dL_law_21 (by decide) ?_
      first | refine U_isub dL_law_23 (by with_reducible rfl) (by with_reducible rfl) (by omega) ?_ | refine V_isub dL_law_23 ?_
      first | refine U_icmp_gt (tgt := 1352) dL_law_24 (by decide) (by with_reducible rfl) (by with_reducible rfl) (by omega) (by omega) (fun c24 => ?_) (fun c24 => ?_) | refine V_icmp_gt (tgt := 1352) dL_law_24 (by decide) (fun c24 => ?_) (fun c24 => ?_)
      · skip
        refine V_iconst (v := nI 1) dL_law_1352 (by decide) ?_
        refine V_iret dL_law_1353 rfl (by first | exact gBo_nar _ | rfl | decide) ?_
        exact hQ h
      · skip
        refine L_sw hd (by omega) hRC hRM (fun h' S' r1 r2 => ?_)
        refine V_iinc3 dL_law_1346 (v := nI (j + 6)) (gincN j 6) (by decide) rfl ?_
        refine V_goto (tgt := 18) dL_law_1349 (by decide) ?_
        exact ih _ (by omega) (j + 6) h' S' rfl (by omega) r1 r2
    · skip
      refine V_iloadn3 dL_law_18 ?_
      refine V_aloadn0 dL_law_19 ?_
      refine V_slen dL_law_20 ?_
      refine V_bipush (v := nI 6) dL_law_21 (by decide) ?_
      refine V_isub dL_law_23 ?_
      refine V_icmp_gt (tgt := 1352) dL_law_24 (by decide) (fun c24 => ?_) (fun c24 => ?_)
      · refine V_iconst (v := nI 1) dL_law_1352 (by decide) ?_
        refine V_iret dL_law_1353 rfl (by decide) ?_
        exact hQ h
      · exact absurd (Int32.lt_of_lt_of_le (nI_sub6 _ (by omega)) (nI_pos' (by omega))) c24
set_option maxRecDepth 100000 in
set_option maxHeartbeats 4000000 in
theorem L_law (hd : 21 ≤ d) (hL : Γ.2.2.2.1.2.1 ≤ 3072) (hQ : ∀ h', Q (some (.int (nI 1))) h') : V Γ mL_law d 0 124 h00 0 [some (.ref 1000), none, none, none] [] Q := by
  have hz : gZ 0 h00 := z00
  refine V_new (ci := 9) dL_law_0 rfl ⟨cL_7, nX9⟩ (by first | assumption | rfl) (by first | decide | omega) (by (repeat (first | with_reducible refine zI (by omega) ?_ | with_reducible refine zR (by omega) ?_ | with_reducible refine zTh (by omega) ?_ | with_reducible refine zX2 (by omega) ?_ | with_reducible refine zX3 (by omega) ?_ | with_reducible refine zX4 (by omega) ?_ | with_reducible refine zX5 (by omega) ?_ | with_reducible refine zX7 (by omega) ?_ | with_reducible refine zX0 (by omega) ?_ | with_reducible refine zX1 (by omega) ?_ | with_reducible refine zX6 (by omega) ?_ | with_reducible refine zX6L (by omega) ?_ | with_reducible refine zX9A (by omega) ?_ | with_reducible refine zX9L (by omega) ?_)); exact gZ.mono (by assumption) (by omega)) ?_
  first | refine V_dupa dL_law_3 ?_ | refine V_dupi dL_law_3 ?_
  refine V_callI (N1 := 94) (μ' := mX9_init) dL_law_4 okX9_init lL_9 (Nat.le_of_ble_eq_true rfl) (by decide) (by omega) (by omega) (by omega) ?_
  refine i_X9 (by (repeat (first | with_reducible refine zI (by omega) ?_ | with_reducible refine zR (by omega) ?_ | with_reducible refine zTh (by omega) ?_ | with_reducible refine zX2 (by omega) ?_ | with_reducible refine zX3 (by omega) ?_ | with_reducible refine zX4 (by omega) ?_ | with_reducible refine zX5 (by omega) ?_ | with_reducible refine zX7 (by omega) ?_ | with_reducible refine zX0 (by omega) ?_ | with_reducible refine zX1 (by omega) ?_ | with_reducible refine zX6 (by omega) ?_ | with_reducible refine zX6L (by omega) ?_ | with_reducible refine zX9A (by omega) ?_ | with_reducible refine zX9L (by omega) ?_)); exact gZ.mono (by assumption) (by omega)) (by omega) ?_
  dsimp only [gPush]
  refine V_astoren1 dL_law_7 (by decide) rfl ?_
  refine V_new (ci := 10) dL_law_8 rfl ⟨cL_10, nX10⟩ (by first | assumption | rfl) (by first | decide | omega) (by (repeat (first | with_reducible refine zI (by omega) ?_ | with_reducible refine zR (by omega) ?_ | with_reducible refine zTh (by omega) ?_ | with_reducible refine zX2 (by omega) ?_ | with_reducible refine zX3 (by omega) ?_ | with_reducible refine zX4 (by omega) ?_ | with_reducible refine zX5 (by omega) ?_ | with_reducible refine zX7 (by omega) ?_ | with_reducible refine zX0 (by omega) ?_ | with_reducible refine zX1 (by omega) ?_ | with_reducible refine zX6 (by omega) ?_ | with_reducible refine zX6L (by omega) ?_ | with_reducible refine zX9A (by omega) ?_ | with_reducible refine zX9L (by omega) ?_)); exact gZ.mono (by assumption) (by omega)) ?_
  first | refine V_dupa dL_law_11 ?_ | refine V_dupi dL_law_11 ?_
  refine V_callI (N1 := 124) (μ' := mX10_init) dL_law_12 okX10_init lL_12 (Nat.le_of_ble_eq_true rfl) (by decide) (by omega) (by omega) (by omega) ?_
  refine i_X10 (by (repeat (first | with_reducible refine zI (by omega) ?_ | with_reducible refine zR (by omega) ?_ | with_reducible refine zTh (by omega) ?_ | with_reducible refine zX2 (by omega) ?_ | with_reducible refine zX3 (by omega) ?_ | with_reducible refine zX4 (by omega) ?_ | with_reducible refine zX5 (by omega) ?_ | with_reducible refine zX7 (by omega) ?_ | with_reducible refine zX0 (by omega) ?_ | with_reducible refine zX1 (by omega) ?_ | with_reducible refine zX6 (by omega) ?_ | with_reducible refine zX6L (by omega) ?_ | with_reducible refine zX9A (by omega) ?_ | with_reducible refine zX9L (by omega) ?_)); exact gZ.mono (by assumption) (by omega)) (by omega) ?_
  dsimp only [gPush]
  refine V_astoren2 dL_law_15 (by decide) rfl ?_
  refine V_iconst (v := nI 0) dL_law_16 (by decide) ?_
  refine V_istoren3 dL_law_17 (by decide) rfl ?_
  exact L_loop (by omega) hL hQ _ 0 hS0 S00 rfl (by omega) RC_00 RM_00
end C92
