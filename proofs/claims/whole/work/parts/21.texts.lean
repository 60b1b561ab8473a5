/-! ===== texts of the names of acts ===== -/
def nmL : List (List Nat) := [[114, 97, 105, 115, 101], [108, 111, 119, 101, 114], [114, 101, 102, 108, 101, 99, 116], [116, 111, 112], [102, 111, 111, 116], [116, 117, 114, 110]]
theorem gSlen_eq {i : Nat} (hi : i < 6) : gSlen.getD i 0 = (nmL.getD i []).length := by
  match i, hi with
  | 0, _ => rfl
  | 1, _ => rfl
  | 2, _ => rfl
  | 3, _ => rfl
  | 4, _ => rfl
  | 5, _ => rfl
theorem gChars : ∀ i, i < 6 → ∀ j, j < gSlen.getD i 0 → (((gSbyt.getD i []).getD j 0 &&& nI 255).toUInt32 % 65536).toInt32 = nI ((nmL.getD i []).getD j 0) := by decide +kernel
theorem gChars_n : ∀ i, i < 6 → ∀ j, j < gSlen.getD i 0 → narrow .char (.int (nI ((nmL.getD i []).getD j 0))) = .int (nI ((nmL.getD i []).getD j 0)) := by decide +kernel
section C21
variable {Γ : gM} {d : Nat} {h : gH} {Q : Option Value → gH → Prop}
set_option maxRecDepth 100000 in
set_option maxHeartbeats 4000000 in
theorem c_coder {i : Nat} (hi : i < 6) (hQ : Q (some (.int (nI 0))) h) : V Γ mJ0_coder_7d493 d 124 124 h 0 [some (.ref (1001 + i))] [] Q := by
  refine V_compact dJ0_coder_7d493_0 fJ0_38 ?_
  first | refine U_ifB_eq (tgt := 13) dJ0_coder_7d493_3 (by decide) (by with_reducible rfl) (fun c3 => ?_) (fun c3 => ?_) | refine U_if_eq (tgt := 13) dJ0_coder_7d493_3 (by decide) (by with_reducible rfl) (by omega) (fun c3 => ?_) (fun c3 => ?_) | refine V_if_eq (tgt := 13) dJ0_coder_7d493_3 (by decide) (fun c3 => ?_) (fun c3 => ?_)
  · skip
    omega
  · skip
    refine V_aloadn0 dJ0_coder_7d493_6 ?_
    refine V_strC dJ0_coder_7d493_7 fJ0_15 hi ?_
    refine V_goto (tgt := 14) dJ0_coder_7d493_10 (by decide) ?_
    refine V_iret dJ0_coder_7d493_14 rfl (by first | exact gBo_nar _ | rfl | decide) ?_
    exact hQ
set_option maxRecDepth 100000 in
set_option maxHeartbeats 4000000 in
theorem c_isLatin1 {i : Nat} (hi : i < 6) (hQ : Q (some (.int (nI 1))) h) : V Γ mJ0_isLatin1_aae02 d 124 124 h 0 [some (.ref (1001 + i))] [] Q := by
  refine V_compact dJ0_isLatin1_aae02_0 fJ0_38 ?_
  first | refine U_ifB_eq (tgt := 17) dJ0_isLatin1_aae02_3 (by decide) (by with_reducible rfl) (fun c3 => ?_) (fun c3 => ?_) | refine U_if_eq (tgt := 17) dJ0_isLatin1_aae02_3 (by decide) (by with_reducible rfl) (by omega) (fun c3 => ?_) (fun c3 => ?_) | refine V_if_eq (tgt := 17) dJ0_isLatin1_aae02_3 (by decide) (fun c3 => ?_) (fun c3 => ?_)
  · skip
    omega
  · skip
    refine V_aloadn0 dJ0_isLatin1_aae02_6 ?_
    refine V_strC dJ0_isLatin1_aae02_7 fJ0_15 hi ?_
    first | refine U_ifB_ne (tgt := 17) dJ0_isLatin1_aae02_10 (by decide) (by with_reducible rfl) (fun c10 => ?_) (fun c10 => ?_) | refine U_if_ne (tgt := 17) dJ0_isLatin1_aae02_10 (by decide) (by with_reducible rfl) (by omega) (fun c10 => ?_) (fun c10 => ?_) | refine V_if_ne (tgt := 17) dJ0_isLatin1_aae02_10 (by decide) (fun c10 => ?_) (fun c10 => ?_)
    · skip
      exact absurd rfl c10
    · skip
      refine V_iconst (v := nI 1) dJ0_isLatin1_aae02_13 (by decide) ?_
      refine V_goto (tgt := 18) dJ0_isLatin1_aae02_14 (by decide) ?_
      refine V_iret dJ0_isLatin1_aae02_18 rfl (by first | exact gBo_nar _ | rfl | decide) ?_
      exact hQ
set_option maxRecDepth 100000 in
set_option maxHeartbeats 4000000 in
theorem c_strLen {i : Nat} (hd : 1 ≤ d) (hi : i < 6) (hQ : Q (some (.int (nI (nmL.getD i []).length))) h) : V Γ mJ0_length_8abf5 d 124 124 h 0 [some (.ref (1001 + i))] [] Q := by
  have e : ∀ k, k < 100 → nI k >>> (nI 0 &&& 31) = nI k := fun k hk => by
    rw [pk_shrN (k := 0) (by omega) _ (by decide)]
    simp
  refine V_aloadn0 dJ0_length_8abf5_0 ?_
  refine V_strV dJ0_length_8abf5_1 fJ0_9 hi ?_
  refine V_sblen dJ0_length_8abf5_4 hi ?_
  refine V_aloadn0 dJ0_length_8abf5_5 ?_
  refine V_callT0 (μ' := mJ0_coder_7d493) dJ0_length_8abf5_6 okJ0_coder_7d493 lJ0_335 rfl (by omega) (Nat.le_of_ble_eq_true rfl) (Nat.le_of_ble_eq_true rfl) (by omega) ?_
  refine c_coder hi ?_
  dsimp only [gPush]
  refine V_ishr dJ0_length_8abf5_9 ?_
  rw [e _ (gSlen_lt hi), gSlen_eq hi]
  refine V_iret dJ0_length_8abf5_10 rfl rfl ?_
  exact hQ
set_option maxRecDepth 100000 in
set_option maxHeartbeats 4000000 in
theorem c_precond {a b : Nat} {v : Value} (hb : b < 2 ^ 31) (hab : a < b) (hv : v.category = 1) (hQ : Q (some (.int (nI a))) h) : V Γ mJ3_checkIndex_8e157 d 124 124 h 0 [some (.int (nI a)), some (.int (nI b)), some v] [] Q := by
  refine V_iloadn0 dJ3_checkIndex_8e157_0 ?_
  refine U_if_lt (tgt := 9) dJ3_checkIndex_8e157_1 (by decide) (by with_reducible rfl) (by omega) ?_
  refine V_iloadn0 dJ3_checkIndex_8e157_4 ?_
  refine V_iloadn1 dJ3_checkIndex_8e157_5 ?_
  first | refine U_icmp_lt (tgt := 16) dJ3_checkIndex_8e157_6 (by decide) (by with_reducible rfl) (by with_reducible rfl) (by omega) (by omega) (fun c6 => ?_) (fun c6 => ?_) | refine V_icmp_lt (tgt := 16) dJ3_checkIndex_8e157_6 (by decide) (fun c6 => ?_) (fun c6 => ?_)
  · skip
    refine V_iloadn0 dJ3_checkIndex_8e157_16 ?_
    refine V_iret dJ3_checkIndex_8e157_17 rfl rfl ?_
    exact hQ
  · skip
    omega
set_option maxRecDepth 100000 in
set_option maxHeartbeats 4000000 in
theorem c_checkIndex {a b : Nat} (hd : 1 ≤ d) (hb : b < 2 ^ 31) (hab : a < b) (hQ : Q none h) : V Γ mJ0_checkIndex_df160 d 124 124 h 0 [some (.int (nI a)), some (.int (nI b))] [] Q := by
  refine V_iloadn0 dJ0_checkIndex_df160_0 ?_
  refine V_iloadn1 dJ0_checkIndex_df160_1 ?_
  refine V_sioobe dJ0_checkIndex_df160_2 fJ0_1053 (fun v hv => ?_)
  have g1 : gArg [v] = [some v] := by rw [gArg, if_neg (by rw [hv]; decide)]; rfl
  have g2 : gArg [.int (nI a), .int (nI b), v] = [some (.int (nI a)), some (.int (nI b)), some v] := by
    show some (Value.int (nI a)) :: some (Value.int (nI b)) :: gArg [v] = _
    rw [g1]
  refine V_callS3 (μ' := mJ3_checkIndex_8e157) dJ0_checkIndex_df160_5 okJ3_checkIndex_8e157 lJ0_1059 (Nat.le_of_ble_eq_true rfl) (by rw [g2]; exact Nat.le_of_ble_eq_true rfl) (by omega) ?_
  have e : gArgs 3 [.int (nI a), .int (nI b), v] = [some (.int (nI a)), some (.int (nI b)), some v] := by unfold gArgs; rw [g2]; rfl
  rw [show gArgs mJ3_checkIndex_8e157.2.2.1 [.int (nI a), .int (nI b), v] = [some (.int (nI a)), some (.int (nI b)), some v] from e]
  refine c_precond hb hab hv ?_
  dsimp only [gPush]
  refine V_popi dJ0_checkIndex_df160_8 ?_
  refine V_ret dJ0_checkIndex_df160_9 rfl ?_
  exact hQ
set_option maxRecDepth 100000 in
set_option maxHeartbeats 4000000 in
theorem c_latinCharAt {i j : Nat} (hd : 2 ≤ d) (hi : i < 6) (hj : j < gSlen.getD i 0) (hQ : Q (some (.int (nI ((nmL.getD i []).getD j 0)))) h) : V Γ mJ1_charAt_3b067 d 124 124 h 0 [some (.ref (1101 + i)), some (.int (nI j))] [] Q := by
  have hl := gSlen_lt hi
  refine V_iloadn1 dJ1_charAt_3b067_0 ?_
  refine V_aloadn0 dJ1_charAt_3b067_1 ?_
  refine V_sblen dJ1_charAt_3b067_2 hi ?_
  refine V_callS2 (μ' := mJ0_checkIndex_df160) dJ1_charAt_3b067_3 okJ0_checkIndex_df160 lJ1_9 (Nat.le_of_ble_eq_true rfl) (Nat.le_of_ble_eq_true rfl) (by omega) ?_
  refine c_checkIndex (by omega) (by omega) hj ?_
  dsimp only [gPush]
  refine V_aloadn0 dJ1_charAt_3b067_6 ?_
  refine V_iloadn1 dJ1_charAt_3b067_7 ?_
  refine V_sbald dJ1_charAt_3b067_8 hi hj ?_
  refine V_sipush (v := nI 255) dJ1_charAt_3b067_9 (by decide) ?_
  refine V_iand dJ1_charAt_3b067_12 ?_
  refine V_i2c dJ1_charAt_3b067_13 rfl ?_
  rw [gChars i hi j hj]
  refine V_iret dJ1_charAt_3b067_14 rfl (gChars_n i hi j hj) ?_
  exact hQ
set_option maxRecDepth 100000 in
set_option maxHeartbeats 4000000 in
theorem c_charAt {i j : Nat} (hd : 3 ≤ d) (hi : i < 6) (hj : j < gSlen.getD i 0) (hQ : Q (some (.int (nI ((nmL.getD i []).getD j 0)))) h) : V Γ mJ0_charAt_5068e d 124 124 h 0 [some (.ref (1001 + i)), some (.int (nI j))] [] Q := by
  refine V_aloadn0 dJ0_charAt_5068e_0 ?_
  refine V_callT0 (μ' := mJ0_isLatin1_aae02) dJ0_charAt_5068e_1 okJ0_isLatin1_aae02 lJ0_492 rfl (by omega) (Nat.le_of_ble_eq_true rfl) (Nat.le_of_ble_eq_true rfl) (by omega) ?_
  refine c_isLatin1 hi ?_
  dsimp only [gPush]
  first | refine U_ifB_eq (tgt := 16) dJ0_charAt_5068e_4 (by decide) (by with_reducible rfl) (fun c4 => ?_) (fun c4 => ?_) | refine U_if_eq (tgt := 16) dJ0_charAt_5068e_4 (by decide) (by with_reducible rfl) (by omega) (fun c4 => ?_) (fun c4 => ?_) | refine V_if_eq (tgt := 16) dJ0_charAt_5068e_4 (by decide) (fun c4 => ?_) (fun c4 => ?_)
  · skip
    omega
  · skip
    refine V_aloadn0 dJ0_charAt_5068e_7 ?_
    refine V_strV dJ0_charAt_5068e_8 fJ0_9 hi ?_
    refine V_iloadn1 dJ0_charAt_5068e_11 ?_
    refine V_callS2 (μ' := mJ1_charAt_3b067) dJ0_charAt_5068e_12 okJ1_charAt_3b067 lJ0_495 (Nat.le_of_ble_eq_true rfl) (Nat.le_of_ble_eq_true rfl) (by omega) ?_
    refine c_latinCharAt (by omega) hi hj ?_
    dsimp only [gPush]
    refine V_iret dJ0_charAt_5068e_15 rfl (gChars_n i hi j hj) ?_
    exact hQ
end C21
