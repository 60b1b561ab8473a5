/-! ===== the class: tape, tableau, acts ===== -/
theorem raF_ok {B : List Nat} {n a : Nat} (h : (raF B n a).1 = true) : (raF B n a).2.1 ≤ 5 ∧ ((raF B n a).2.1 ≠ 5 → 1 ≤ (raF B n a).2.2.1 ∧ (raF B n a).2.2.1 < n) ∧ (raF B n a).2.2.1 ≤ 8 + n := by
  unfold raF at h ⊢
  cases hm : nmF B (skp B a) (eon B (skp B a)) 0 6 with
  | none => rw [hm] at h; cases h
  | some k =>
    rw [hm] at h
    have hk := nmF_lt B _ _ 6 0 k hm
    simp only at h ⊢
    by_cases k5 : k = 5
    · rw [if_pos k5]
      exact ⟨Nat.le_refl _, fun q => absurd rfl q, Nat.zero_le _⟩
    · rw [if_neg k5] at h ⊢
      by_cases hs : (stpF B n (eon B (skp B a))).1 = true
      · rw [if_pos hs]
        have hb : 49 ≤ B.getD (skp B (eon B (skp B a))) 0 ∧ B.getD (skp B (eon B (skp B a))) 0 ≤ 48 + (n - 1) := by
          unfold stpF at hs
          split at hs
          · rename_i q; exact q.2
          · cases hs
        refine ⟨by show k ≤ 5; omega, fun _ => ⟨?_, ?_⟩, ?_⟩
        · show 1 ≤ B.getD (skp B (eon B (skp B a))) 0 - 48
          omega
        · show B.getD (skp B (eon B (skp B a))) 0 - 48 < n
          omega
        · show B.getD (skp B (eon B (skp B a))) 0 - 48 ≤ 8 + n
          omega
      · rw [if_neg hs] at h; cases h
theorem RC_tp {h h' : gH} {S : GS} {B : List Nat} (hR : RC h S) (e : ∀ a, a < 43 ∨ a = 58 ∨ (86 ≤ a ∧ a < 94) → gI h' a = gI h a) (l : ∀ a, a = 59 ∨ (86 ≤ a ∧ a < 94) → gL h' a = gL h a) (hC' : CLay h') (hB' : TpB h' B) : RC h' (setTp S B) := by
  obtain ⟨c1, c2, c3, c4, c5, c6, c7, c8⟩ := hR
  exact ⟨hC', ⟨c2.1, c2.2.1, ⟨hB'.2.2.1, hB'.2.2.2⟩, c2.2.2.2⟩, RS_cg c3 (fun a _ h2 => e a (by omega)), by rw [e 0 (by omega)]; exact c4, fun K hK => RS_cg (c5 K hK) (fun a _ h2 => e a (by omega)), hB', fun s hs => ShtI_cg (c7 s hs) (e _ (by omega)) (l _ (by omega)), FamI_cg c8 (e 58 (by omega)) (l 59 (by omega))⟩
theorem TpB_nil {h : gH} : TpB (sI h 43 0 (nI 0)) [] := ⟨by rw [gI_sI, if_pos ⟨rfl, rfl⟩]; rfl, fun p hp => absurd hp (Nat.not_lt_zero _), by decide, fun p => by simp⟩
theorem nI_and255 (x : Nat) : nI x &&& nI 255 = nI (x % 256) := by
  rw [pk_and (nI x) 8 (by decide)]
  have e : (nI x).toBitVec.toNat = x % 2 ^ 32 := by
    show (BitVec.ofNat 32 x).toNat = _
    rw [BitVec.toNat_ofNat]
  rw [e]
  congr 1
  omega
theorem byF_succ (m j : Nat) : byF m (j + 1) = byF m j ++ [m / 2 ^ (8 * j) % 256] := by
  unfold byF
  rw [List.range_succ, List.map_append]
  rfl
theorem byF_len (m j : Nat) : (byF m j).length = j := by simp [byF]
section C49
variable {Γ : gM} {d : Nat} {h : gH} {Q : Option Value → gH → Prop} {S : GS}
set_option maxRecDepth 100000 in
set_option maxHeartbeats 4000000 in
theorem c_tapeAppend {m k : Nat} {B : List Nat} (hr : gR h 43 4 = some 44) (hB : TpB h B) (hm : m < 2 ^ 64) (hk : k ≤ 8) (hlen : B.length + k ≤ 60) (hQ : ∀ h', TpB h' (B ++ byF m k) → Fr1 h h' 43 45 → Q none h') : V Γ mX7_append d 124 124 h 0 [some (.ref 43), some (.long (lN m)), none, some (.int (nI k)), none] [] Q := by
  have loop : ∀ q j h1, k - j = q → j ≤ k → TpB h1 (B ++ byF m j) → Fr1 h h1 43 45 → V Γ mX7_append d 124 124 h1 3 [some (.ref 43), some (.long (lN m)), none, some (.int (nI k)), some (.int (nI j))] [] Q := by
    intro q
    induction q using Nat.strongRecOn with
    | _ q ih =>
      intro j h1 hq hj hB1 hF1
      have r4 : gR h1 43 4 = some 44 := by rw [hF1.2.2]; exact hr
      obtain ⟨b0, b1, b2, b3⟩ := id hB1
      have hl : (B ++ byF m j).length = B.length + j := by rw [List.length_append, byF_len]
      rw [hl] at b0
      have e8 := nI_and255 (m / 2 ^ (8 * j))
      generalize hh2 : sI h1 44 (B.length + j) (nI (m / 2 ^ (8 * j) % 256)) = h2
      have c0 : gI h2 43 0 = nI (B.length + j) := by rw [← hh2, gI_sI, if_neg (by omega)]; exact b0
      have hB3 : j < k → TpB (sI h2 43 0 (nI (B.length + j + 1))) (B ++ byF m (j + 1)) := fun hjk => by
        rw [byF_succ, ← List.append_assoc]
        refine ⟨?_, fun p hp => ?_, ?_, fun p => ?_⟩
        · rw [gI_sI, if_pos ⟨rfl, rfl⟩, List.length_append, hl]; rfl
        · rw [gI_sI, if_neg (by omega), ← hh2, gI_sI, getD_snoc, hl]
          rw [List.length_append, hl] at hp
          by_cases e : p = B.length + j
          · rw [if_pos ⟨rfl, e⟩, if_pos e]
          · rw [if_neg (fun z => e z.2), if_neg e]
            exact b1 p (by rw [hl]; simp at hp; omega)
        · rw [List.length_append, hl]; simp; omega
        · rw [getD_snoc]
          split
          · omega
          · exact b3 p
      have hF3 : Fr1 h (sI h2 43 0 (nI (B.length + j + 1))) 43 45 := by rw [← hh2]; exact fr_sI (fr_sI hF1 (by omega) (by omega)) (by omega) (by omega)
      refine V_iloadw4 dX7_append_3 ?_
      refine V_iloadn3 dX7_append_5 ?_
      first | refine U_icmp_ge (tgt := 46) dX7_append_6 (by decide) (by with_reducible rfl) (by with_reducible rfl) (by omega) (by omega) (fun c6 => ?_) (fun c6 => ?_) | refine V_icmp_ge (tgt := 46) dX7_append_6 (by decide) (fun c6 => ?_) (fun c6 => ?_)
      · skip
        have e : j = k := by omega
        subst e
        refine V_ret dX7_append_46 rfl ?_
        exact hQ h1 hB1 hF1
      · skip
        refine V_aloadn0 dX7_append_9 ?_
        refine V_getR dX7_append_10 fX7_9 (by first | assumption | rfl) (by first | decide | omega) (by first | assumption | rfl) ?_
        refine V_aloadn0 dX7_append_13 ?_
        refine V_getI dX7_append_14 fX7_15 (Or.inl rfl) (by first | assumption | rfl) (by first | decide | omega) (by first | assumption | rfl) ?_
        refine V_lloadn1 dX7_append_17 ?_
        refine V_bipush (v := nI 8) dX7_append_18 (by decide) ?_
        refine V_iloadw4 dX7_append_20 ?_
        first | refine U_imul dX7_append_22 (by with_reducible rfl) (by with_reducible rfl) ?_ | refine V_imul dX7_append_22 ?_
        refine V_lushr dX7_append_23 (wb_shr hm (by omega)) ?_
        refine V_l2i dX7_append_24 (lN_i _) ?_
        refine V_sipush (v := nI 255) dX7_append_25 (by decide) ?_
        refine V_iand dX7_append_28 ?_
        refine V_topI e8 ?_
        refine U_iast dX7_append_29 (by with_reducible rfl) (by first | assumption | rfl) (by first | decide | omega) (by omega) ?_
        rw [hh2]
        refine V_aloadn0 dX7_append_30 ?_
        first | refine V_dupa dX7_append_31 ?_ | refine V_dupi dX7_append_31 ?_
        refine V_getI dX7_append_32 fX7_15 (Or.inl rfl) (by first | assumption | rfl) (by first | decide | omega) (by first | assumption | rfl) ?_
        refine V_iconst (v := nI 1) dX7_append_35 (by decide) ?_
        first | refine U_iadd dX7_append_36 (by with_reducible rfl) (by with_reducible rfl) ?_ | refine V_iadd dX7_append_36 ?_
        refine V_putI dX7_append_37 fX7_15 (by first | assumption | rfl) (by first | decide | omega) ?_
        refine V_iinc4 dX7_append_40 (by first | exact ginc1 _ | rfl) (by decide) rfl ?_
        refine V_goto (tgt := 3) dX7_append_43 (by decide) ?_
        exact ih (k - (j + 1)) (by omega) (j + 1) _ rfl (by omega) (hB3 (by omega)) hF3
  refine V_iconst (v := nI 0) dX7_append_0 (by decide) ?_
  refine V_istorew4 dX7_append_1 (by decide) rfl ?_
  exact loop _ 0 h rfl (by omega) (by rw [show byF m 0 = [] from rfl, List.append_nil]; exact hB) Fr1.rf
set_option maxRecDepth 100000 in
set_option maxHeartbeats 4000000 in
theorem c_feed {e : Int64} {k : Int32} (hd : 1 ≤ d) (hR : RC h S) (hQ : ∀ h', RC h' (f_feed S e k).2 → FrC h h' → Q (some (.int (f_feed S e k).1)) h') : V Γ mX9_feed d 124 124 h 0 [some (.ref 0), some (.long e), none, some (.int k)] [] Q := by
  obtain ⟨hC, hW, hA, hK, hK2, hB, hSh, hFm⟩ := id hR
  have t0 := hB.1
  have t60 := hB.2.2.1
  obtain ⟨m, hm, rfl⟩ := wb_of e
  cases hg : inR k 1 8 with
  | false =>
    have eq0 : f_feed S (lN m) k = (-1, S) := if_f hg
    rw [eq0] at hQ
    have hQ' := hQ h hR FrC.rf
    refine V_iloadn3 dX9_feed_0 ?_
    refine V_iconst (v := nI 1) dX9_feed_1 (by decide) ?_
    first | refine U_icmp_lt (tgt := 11) dX9_feed_2 (by decide) (by with_reducible rfl) (by with_reducible rfl) (by omega) (by omega) (fun c2 => ?_) (fun c2 => ?_) | refine V_icmp_lt (tgt := 11) dX9_feed_2 (by decide) (fun c2 => ?_) (fun c2 => ?_)
    · skip
      refine V_iconst (v := -1) dX9_feed_11 (by decide) ?_
      refine V_iret dX9_feed_12 rfl rfl ?_
      exact hQ'
    · skip
      refine V_iloadn3 dX9_feed_5 ?_
      refine V_bipush (v := nI 8) dX9_feed_6 (by decide) ?_
      first | refine U_icmp_le (tgt := 13) dX9_feed_8 (by decide) (by with_reducible rfl) (by with_reducible rfl) (by omega) (by omega) (fun c8 => ?_) (fun c8 => ?_) | refine V_icmp_le (tgt := 13) dX9_feed_8 (by decide) (fun c8 => ?_) (fun c8 => ?_)
      · skip
        exact absurd hg (by rw [inR_in c2 c8]; exact Bool.noConfusion)
      · skip
        refine V_iconst (v := -1) dX9_feed_11 (by decide) ?_
        refine V_iret dX9_feed_12 rfl rfl ?_
        exact hQ'
  | true =>
    obtain ⟨j, j1, j8, rfl⟩ := inR_t (by decide) (by decide) hg
    have eq0 : f_feed S (lN m) (nI j) = _ := if_t hg
    rw [eq0, cN_nI (by omega), wb_tn hm] at hQ
    refine V_iloadn3 dX9_feed_0 ?_
    refine V_iconst (v := nI 1) dX9_feed_1 (by decide) ?_
    first | refine U_icmp_lt (tgt := 11) dX9_feed_2 (by decide) (by with_reducible rfl) (by with_reducible rfl) (by omega) (by omega) (fun c2 => ?_) (fun c2 => ?_) | refine V_icmp_lt (tgt := 11) dX9_feed_2 (by decide) (fun c2 => ?_) (fun c2 => ?_)
    · skip
      omega
    · skip
      refine V_iloadn3 dX9_feed_5 ?_
      refine V_bipush (v := nI 8) dX9_feed_6 (by decide) ?_
      first | refine U_icmp_le (tgt := 13) dX9_feed_8 (by decide) (by with_reducible rfl) (by with_reducible rfl) (by omega) (by omega) (fun c8 => ?_) (fun c8 => ?_) | refine V_icmp_le (tgt := 13) dX9_feed_8 (by decide) (fun c8 => ?_) (fun c8 => ?_)
      · skip
        refine V_aloadn0 dX9_feed_13 ?_
        refine V_getR dX9_feed_14 fX9_22 (by first | assumption | rfl | exact lay_s0 (by omega) | exact lay_s1 (by omega) | exact lay_s2 (by omega) | exact lay_h0 (by omega) | exact lay_h1 (by omega)) (by first | decide | omega) (by first | assumption | exact CL0_0 (by assumption) | exact CL0_1 (by assumption) | exact CL0_3 (by assumption) | exact CL0_4 (by assumption) | exact CL0_5 (by assumption) | exact CL0_6 (by assumption) | exact CL0_7 (by assumption) | exact CL0_8 (by assumption) | exact CL0_9 (by assumption) | exact CL0_10 (by assumption) | exact CL0_11 (by assumption) | exact CL0_12 (by assumption) | exact CL0_13 (by assumption) | exact CL1_2 (by assumption) | exact CL1_3 (by assumption) | exact CL80_2 (by assumption) | exact CL_slot (by assumption) (by omega) | exact (CL_sh (by assumption) (by omega)).1 | exact (CL_sh (by assumption) (by omega)).2.1 | rfl) ?_
        refine V_getI dX9_feed_17 fX9_110 (Or.inl rfl) (by first | assumption | rfl | exact lay_s0 (by omega) | exact lay_s1 (by omega) | exact lay_s2 (by omega) | exact lay_h0 (by omega) | exact lay_h1 (by omega)) (by first | decide | omega) (by first | assumption | exact CL0_0 (by assumption) | exact CL0_1 (by assumption) | exact CL0_3 (by assumption) | exact CL0_4 (by assumption) | exact CL0_5 (by assumption) | exact CL0_6 (by assumption) | exact CL0_7 (by assumption) | exact CL0_8 (by assumption) | exact CL0_9 (by assumption) | exact CL0_10 (by assumption) | exact CL0_11 (by assumption) | exact CL0_12 (by assumption) | exact CL0_13 (by assumption) | exact CL1_2 (by assumption) | exact CL1_3 (by assumption) | exact CL80_2 (by assumption) | exact CL_slot (by assumption) (by omega) | exact (CL_sh (by assumption) (by omega)).1 | exact (CL_sh (by assumption) (by omega)).2.1 | rfl) ?_
        refine V_iloadn3 dX9_feed_20 ?_
        first | refine U_iadd dX9_feed_21 (by with_reducible rfl) (by with_reducible rfl) ?_ | refine V_iadd dX9_feed_21 ?_
        refine V_bipush (v := nI 60) dX9_feed_22 (by decide) ?_
        first | refine U_icmp_le (tgt := 30) dX9_feed_24 (by decide) (by with_reducible rfl) (by with_reducible rfl) (by omega) (by omega) (fun c24 => ?_) (fun c24 => ?_) | refine V_icmp_le (tgt := 30) dX9_feed_24 (by decide) (fun c24 => ?_) (fun c24 => ?_)
        · skip
          rw [if_neg (by omega)] at hQ
          refine V_aloadn0 dX9_feed_30 ?_
          refine V_getR dX9_feed_31 fX9_22 (by first | assumption | rfl | exact lay_s0 (by omega) | exact lay_s1 (by omega) | exact lay_s2 (by omega) | exact lay_h0 (by omega) | exact lay_h1 (by omega)) (by first | decide | omega) (by first | assumption | exact CL0_0 (by assumption) | exact CL0_1 (by assumption) | exact CL0_3 (by assumption) | exact CL0_4 (by assumption) | exact CL0_5 (by assumption) | exact CL0_6 (by assumption) | exact CL0_7 (by assumption) | exact CL0_8 (by assumption) | exact CL0_9 (by assumption) | exact CL0_10 (by assumption) | exact CL0_11 (by assumption) | exact CL0_12 (by assumption) | exact CL0_13 (by assumption) | exact CL1_2 (by assumption) | exact CL1_3 (by assumption) | exact CL80_2 (by assumption) | exact CL_slot (by assumption) (by omega) | exact (CL_sh (by assumption) (by omega)).1 | exact (CL_sh (by assumption) (by omega)).2.1 | rfl) ?_
          refine V_lloadn1 dX9_feed_34 ?_
          refine V_iloadn3 dX9_feed_35 ?_
          refine V_callV2 (μ' := mX7_append) dX9_feed_36 okX7_append lX9_113 rfl (by first | assumption | rfl | exact lay_s0 (by omega) | exact lay_s1 (by omega) | exact lay_s2 (by omega) | exact lay_h0 (by omega) | exact lay_h1 (by omega)) (by first | decide | omega) (Nat.le_of_ble_eq_true rfl) (Nat.le_of_ble_eq_true rfl) (by omega) ?_
          refine c_tapeAppend (CL43 hC) hB hm (by omega) (by omega) (fun h1 hB1 hF1 => ?_)
          have hC1 := CLay_eq hC hF1.2.2
          have t1 : gI h1 43 0 = nI (S.2.2.1.length + j) := by have := hB1.1; rw [List.length_append, byF_len] at this; exact this
          have hQ' := hQ h1 (RC_tp hR (fun a ha => hF1.1 a (by omega)) (fun a ha => by rw [hF1.2.1]) hC1 hB1) (hF1.toC (by omega))
          dsimp only [gPush]
          refine V_aloadn0 dX9_feed_39 ?_
          refine V_getR dX9_feed_40 fX9_22 (by first | assumption | rfl | exact lay_s0 (by omega) | exact lay_s1 (by omega) | exact lay_s2 (by omega) | exact lay_h0 (by omega) | exact lay_h1 (by omega)) (by first | decide | omega) (by first | assumption | exact CL0_0 (by assumption) | exact CL0_1 (by assumption) | exact CL0_3 (by assumption) | exact CL0_4 (by assumption) | exact CL0_5 (by assumption) | exact CL0_6 (by assumption) | exact CL0_7 (by assumption) | exact CL0_8 (by assumption) | exact CL0_9 (by assumption) | exact CL0_10 (by assumption) | exact CL0_11 (by assumption) | exact CL0_12 (by assumption) | exact CL0_13 (by assumption) | exact CL1_2 (by assumption) | exact CL1_3 (by assumption) | exact CL80_2 (by assumption) | exact CL_slot (by assumption) (by omega) | exact (CL_sh (by assumption) (by omega)).1 | exact (CL_sh (by assumption) (by omega)).2.1 | rfl) ?_
          refine V_getI dX9_feed_43 fX9_110 (Or.inl rfl) (by first | assumption | rfl | exact lay_s0 (by omega) | exact lay_s1 (by omega) | exact lay_s2 (by omega) | exact lay_h0 (by omega) | exact lay_h1 (by omega)) (by first | decide | omega) (by first | assumption | exact CL0_0 (by assumption) | exact CL0_1 (by assumption) | exact CL0_3 (by assumption) | exact CL0_4 (by assumption) | exact CL0_5 (by assumption) | exact CL0_6 (by assumption) | exact CL0_7 (by assumption) | exact CL0_8 (by assumption) | exact CL0_9 (by assumption) | exact CL0_10 (by assumption) | exact CL0_11 (by assumption) | exact CL0_12 (by assumption) | exact CL0_13 (by assumption) | exact CL1_2 (by assumption) | exact CL1_3 (by assumption) | exact CL80_2 (by assumption) | exact CL_slot (by assumption) (by omega) | exact (CL_sh (by assumption) (by omega)).1 | exact (CL_sh (by assumption) (by omega)).2.1 | rfl) ?_
          refine V_iret dX9_feed_46 rfl rfl ?_
          exact hQ'
        · skip
          rw [if_pos (by omega)] at hQ
          have hQ' := hQ h hR FrC.rf
          refine V_bipush (v := -2) dX9_feed_27 (by decide) ?_
          refine V_iret dX9_feed_29 rfl rfl ?_
          exact hQ'
      · skip
        omega
set_option maxRecDepth 100000 in
set_option maxHeartbeats 4000000 in
theorem c_tableau {x : Int32} (hd : 3 ≤ d) (hR : RC h S) (hQ : ∀ h', RC h' (f_tableau S x).2 → FrC h h' → Q (some (.int (f_tableau S x).1)) h') : V Γ mX9_tableau d 124 124 h 0 [some (.ref 0), some (.int x), none, none] [] Q := by
  obtain ⟨hC, hW, hA, hK, hK2, hB, hSh, hFm⟩ := id hR
  have n0 := hA.1
  have hn2 := hW.1.1
  have hn5 := hW.1.2.1
  cases hg : inB x 6 with
  | false =>
    have eq0 : f_tableau S x = (-1, S) := if_f hg
    rw [eq0] at hQ
    have hQ' := hQ h hR FrC.rf
    refine V_iloadn1 dX9_tableau_0 ?_
    refine V_callS1 (μ' := mX9_isSlot) dX9_tableau_1 okX9_isSlot lX9_91 (Nat.le_of_ble_eq_true rfl) (Nat.le_of_ble_eq_true rfl) (by omega) ?_
    refine c_isSlot ?_
    rw [hg]
    dsimp only [gPush]
    first | refine U_ifB_ne (tgt := 9) dX9_tableau_4 (by decide) (by with_reducible rfl) (fun c4 => ?_) (fun c4 => ?_) | refine U_if_ne (tgt := 9) dX9_tableau_4 (by decide) (by with_reducible rfl) (by omega) (fun c4 => ?_) (fun c4 => ?_) | refine V_if_ne (tgt := 9) dX9_tableau_4 (by decide) (fun c4 => ?_) (fun c4 => ?_)
    · skip
      cases c4
    · skip
      refine V_iconst (v := -1) dX9_tableau_7 (by decide) ?_
      refine V_iret dX9_tableau_8 rfl rfl ?_
      exact hQ'
  | true =>
    obtain ⟨s, hs, rfl⟩ := inB_t (by decide) hg
    have eq0 : f_tableau S (nI s) = _ := if_t hg
    rw [eq0, cN_nI (by omega)] at hQ
    obtain ⟨hP, hP6⟩ := TbP_tab (B := S.2.2.1) (n := S.1.1) 60 0 0 [] (Nat.le_refl _) trivial (Nat.zero_le _)
    have hWP := WT_P hP hP6
    refine V_iloadn1 dX9_tableau_0 ?_
    refine V_callS1 (μ' := mX9_isSlot) dX9_tableau_1 okX9_isSlot lX9_91 (Nat.le_of_ble_eq_true rfl) (Nat.le_of_ble_eq_true rfl) (by omega) ?_
    refine c_isSlot ?_
    rw [hg]
    dsimp only [gPush]
    first | refine U_ifB_ne (tgt := 9) dX9_tableau_4 (by decide) (by with_reducible rfl) (fun c4 => ?_) (fun c4 => ?_) | refine U_if_ne (tgt := 9) dX9_tableau_4 (by decide) (by with_reducible rfl) (by omega) (fun c4 => ?_) (fun c4 => ?_) | refine V_if_ne (tgt := 9) dX9_tableau_4 (by decide) (fun c4 => ?_) (fun c4 => ?_)
    · skip
      refine V_aloadn0 dX9_tableau_9 ?_
      refine V_getR dX9_tableau_10 fX9_22 (by first | assumption | rfl | exact lay_s0 (by omega) | exact lay_s1 (by omega) | exact lay_s2 (by omega) | exact lay_h0 (by omega) | exact lay_h1 (by omega)) (by first | decide | omega) (by first | assumption | exact CL0_0 (by assumption) | exact CL0_1 (by assumption) | exact CL0_3 (by assumption) | exact CL0_4 (by assumption) | exact CL0_5 (by assumption) | exact CL0_6 (by assumption) | exact CL0_7 (by assumption) | exact CL0_8 (by assumption) | exact CL0_9 (by assumption) | exact CL0_10 (by assumption) | exact CL0_11 (by assumption) | exact CL0_12 (by assumption) | exact CL0_13 (by assumption) | exact CL1_2 (by assumption) | exact CL1_3 (by assumption) | exact CL80_2 (by assumption) | exact CL_slot (by assumption) (by omega) | exact (CL_sh (by assumption) (by omega)).1 | exact (CL_sh (by assumption) (by omega)).2.1 | rfl) ?_
      refine V_aloadn0 dX9_tableau_13 ?_
      refine V_getR dX9_tableau_14 fX9_42 (by first | assumption | rfl | exact lay_s0 (by omega) | exact lay_s1 (by omega) | exact lay_s2 (by omega) | exact lay_h0 (by omega) | exact lay_h1 (by omega)) (by first | decide | omega) (by first | assumption | exact CL0_0 (by assumption) | exact CL0_1 (by assumption) | exact CL0_3 (by assumption) | exact CL0_4 (by assumption) | exact CL0_5 (by assumption) | exact CL0_6 (by assumption) | exact CL0_7 (by assumption) | exact CL0_8 (by assumption) | exact CL0_9 (by assumption) | exact CL0_10 (by assumption) | exact CL0_11 (by assumption) | exact CL0_12 (by assumption) | exact CL0_13 (by assumption) | exact CL1_2 (by assumption) | exact CL1_3 (by assumption) | exact CL80_2 (by assumption) | exact CL_slot (by assumption) (by omega) | exact (CL_sh (by assumption) (by omega)).1 | exact (CL_sh (by assumption) (by omega)).2.1 | rfl) ?_
      refine V_aloadn0 dX9_tableau_17 ?_
      refine V_getR dX9_tableau_18 fX9_10 (by first | assumption | rfl | exact lay_s0 (by omega) | exact lay_s1 (by omega) | exact lay_s2 (by omega) | exact lay_h0 (by omega) | exact lay_h1 (by omega)) (by first | decide | omega) (by first | assumption | exact CL0_0 (by assumption) | exact CL0_1 (by assumption) | exact CL0_3 (by assumption) | exact CL0_4 (by assumption) | exact CL0_5 (by assumption) | exact CL0_6 (by assumption) | exact CL0_7 (by assumption) | exact CL0_8 (by assumption) | exact CL0_9 (by assumption) | exact CL0_10 (by assumption) | exact CL0_11 (by assumption) | exact CL0_12 (by assumption) | exact CL0_13 (by assumption) | exact CL1_2 (by assumption) | exact CL1_3 (by assumption) | exact CL80_2 (by assumption) | exact CL_slot (by assumption) (by omega) | exact (CL_sh (by assumption) (by omega)).1 | exact (CL_sh (by assumption) (by omega)).2.1 | rfl) ?_
      refine V_getI dX9_tableau_21 fX9_84 (Or.inl rfl) (by first | assumption | rfl | exact lay_s0 (by omega) | exact lay_s1 (by omega) | exact lay_s2 (by omega) | exact lay_h0 (by omega) | exact lay_h1 (by omega)) (by first | decide | omega) (by first | assumption | exact CL0_0 (by assumption) | exact CL0_1 (by assumption) | exact CL0_3 (by assumption) | exact CL0_4 (by assumption) | exact CL0_5 (by assumption) | exact CL0_6 (by assumption) | exact CL0_7 (by assumption) | exact CL0_8 (by assumption) | exact CL0_9 (by assumption) | exact CL0_10 (by assumption) | exact CL0_11 (by assumption) | exact CL0_12 (by assumption) | exact CL0_13 (by assumption) | exact CL1_2 (by assumption) | exact CL1_3 (by assumption) | exact CL80_2 (by assumption) | exact CL_slot (by assumption) (by omega) | exact (CL_sh (by assumption) (by omega)).1 | exact (CL_sh (by assumption) (by omega)).2.1 | rfl) ?_
      refine V_callV2 (μ' := mX7_readsTableau) dX9_tableau_24 okX7_readsTableau lX9_117 rfl (by first | assumption | rfl | exact lay_s0 (by omega) | exact lay_s1 (by omega) | exact lay_s2 (by omega) | exact lay_h0 (by omega) | exact lay_h1 (by omega)) (by first | decide | omega) (Nat.le_of_ble_eq_true rfl) (Nat.le_of_ble_eq_true rfl) (by omega) ?_
      refine c_readsTableau (by omega) hn5 (CL43 hC) hB (CL_G hC) (fun h1 T1 hG1 hI1 hF1 => ?_)
      have hC1 := CLay_eq hC hF1.2.2
      have a1 : gI (sI h1 43 0 (nI 0)) 43 1 = nI (tabF S.2.2.1 S.1.1 60 0 0 []).2.1 := by rw [gI_sI, if_neg (by omega)]; exact hI1.2.1
      dsimp only [gPush]
      refine V_istoren2 dX9_tableau_27 (by decide) rfl ?_
      refine V_aloadn0 dX9_tableau_28 ?_
      refine V_getR dX9_tableau_29 fX9_22 (by first | assumption | rfl | exact lay_s0 (by omega) | exact lay_s1 (by omega) | exact lay_s2 (by omega) | exact lay_h0 (by omega) | exact lay_h1 (by omega)) (by first | decide | omega) (by first | assumption | exact CL0_0 (by assumption) | exact CL0_1 (by assumption) | exact CL0_3 (by assumption) | exact CL0_4 (by assumption) | exact CL0_5 (by assumption) | exact CL0_6 (by assumption) | exact CL0_7 (by assumption) | exact CL0_8 (by assumption) | exact CL0_9 (by assumption) | exact CL0_10 (by assumption) | exact CL0_11 (by assumption) | exact CL0_12 (by assumption) | exact CL0_13 (by assumption) | exact CL1_2 (by assumption) | exact CL1_3 (by assumption) | exact CL80_2 (by assumption) | exact CL_slot (by assumption) (by omega) | exact (CL_sh (by assumption) (by omega)).1 | exact (CL_sh (by assumption) (by omega)).2.1 | rfl) ?_
      refine V_callV0 (μ' := mX7_useUp) dX9_tableau_32 okX7_useUp lX9_121 rfl (by first | assumption | rfl | exact lay_s0 (by omega) | exact lay_s1 (by omega) | exact lay_s2 (by omega) | exact lay_h0 (by omega) | exact lay_h1 (by omega)) (by first | decide | omega) (Nat.le_of_ble_eq_true rfl) (Nat.le_of_ble_eq_true rfl) (by omega) ?_
      refine c_useUp ?_
      have hC2 : CLay (sI h1 43 0 (nI 0)) := CLay_eq hC1 rfl
      have hR2 : RC (sI h1 43 0 (nI 0)) (setTp S []) := RC_tp hR (fun a ha => by
        have e : gI (sI h1 43 0 (nI 0)) a = gI h1 a := by
          funext b
          rw [gI_sI, if_neg (by omega)]
        rw [e]; exact hF1.1 a (by omega) (by omega)) (fun a ha => by rw [gL_sI, hF1.2.1]) hC2 TpB_nil
      have f2 : FrC h (sI h1 43 0 (nI 0)) := (hF1.toC (by omega) (by omega)).tr ((fr_sI (lo := 43) (hi := 44) Fr1.rf (by omega) (by omega)).toC (by omega))
      dsimp only [gPush]
      refine V_iloadn2 dX9_tableau_35 ?_
      first | refine U_ifB_ne (tgt := 50) dX9_tableau_36 (by decide) (by with_reducible rfl) (fun c36 => ?_) (fun c36 => ?_) | refine U_if_ne (tgt := 50) dX9_tableau_36 (by decide) (by with_reducible rfl) (by omega) (fun c36 => ?_) (fun c36 => ?_) | refine V_if_ne (tgt := 50) dX9_tableau_36 (by decide) (fun c36 => ?_) (fun c36 => ?_)
      · skip
        rw [if_t (show (tbR S).1 = true from c36)] at hQ
        refine V_aloadn0 dX9_tableau_50 ?_
        refine V_getR dX9_tableau_51 fX9_10 (by first | assumption | rfl | exact lay_s0 (by omega) | exact lay_s1 (by omega) | exact lay_s2 (by omega) | exact lay_h0 (by omega) | exact lay_h1 (by omega)) (by first | decide | omega) (by first | assumption | exact CL0_0 (by assumption) | exact CL0_1 (by assumption) | exact CL0_3 (by assumption) | exact CL0_4 (by assumption) | exact CL0_5 (by assumption) | exact CL0_6 (by assumption) | exact CL0_7 (by assumption) | exact CL0_8 (by assumption) | exact CL0_9 (by assumption) | exact CL0_10 (by assumption) | exact CL0_11 (by assumption) | exact CL0_12 (by assumption) | exact CL0_13 (by assumption) | exact CL1_2 (by assumption) | exact CL1_3 (by assumption) | exact CL80_2 (by assumption) | exact CL_slot (by assumption) (by omega) | exact (CL_sh (by assumption) (by omega)).1 | exact (CL_sh (by assumption) (by omega)).2.1 | rfl) ?_
        refine V_getR dX9_tableau_54 fX9_99 (by first | assumption | rfl | exact lay_s0 (by omega) | exact lay_s1 (by omega) | exact lay_s2 (by omega) | exact lay_h0 (by omega) | exact lay_h1 (by omega)) (by first | decide | omega) (by first | assumption | exact CL0_0 (by assumption) | exact CL0_1 (by assumption) | exact CL0_3 (by assumption) | exact CL0_4 (by assumption) | exact CL0_5 (by assumption) | exact CL0_6 (by assumption) | exact CL0_7 (by assumption) | exact CL0_8 (by assumption) | exact CL0_9 (by assumption) | exact CL0_10 (by assumption) | exact CL0_11 (by assumption) | exact CL0_12 (by assumption) | exact CL0_13 (by assumption) | exact CL1_2 (by assumption) | exact CL1_3 (by assumption) | exact CL80_2 (by assumption) | exact CL_slot (by assumption) (by omega) | exact (CL_sh (by assumption) (by omega)).1 | exact (CL_sh (by assumption) (by omega)).2.1 | rfl) ?_
        refine V_iloadn1 dX9_tableau_57 ?_
        refine U_aald dX9_tableau_58 (by with_reducible rfl) (by first | assumption | rfl | exact lay_s0 (by omega) | exact lay_s1 (by omega) | exact lay_s2 (by omega) | exact lay_h0 (by omega) | exact lay_h1 (by omega)) (by decide) (by first | decide | omega) (by omega) (by first | assumption | exact CL0_0 (by assumption) | exact CL0_1 (by assumption) | exact CL0_3 (by assumption) | exact CL0_4 (by assumption) | exact CL0_5 (by assumption) | exact CL0_6 (by assumption) | exact CL0_7 (by assumption) | exact CL0_8 (by assumption) | exact CL0_9 (by assumption) | exact CL0_10 (by assumption) | exact CL0_11 (by assumption) | exact CL0_12 (by assumption) | exact CL0_13 (by assumption) | exact CL1_2 (by assumption) | exact CL1_3 (by assumption) | exact CL80_2 (by assumption) | exact CL_slot (by assumption) (by omega) | exact (CL_sh (by assumption) (by omega)).1 | exact (CL_sh (by assumption) (by omega)).2.1 | rfl) ?_
        refine V_astoren3 dX9_tableau_59 (by decide) rfl ?_
        refine V_aloadn0 dX9_tableau_60 ?_
        refine V_getR dX9_tableau_61 fX9_42 (by first | assumption | rfl | exact lay_s0 (by omega) | exact lay_s1 (by omega) | exact lay_s2 (by omega) | exact lay_h0 (by omega) | exact lay_h1 (by omega)) (by first | decide | omega) (by first | assumption | exact CL0_0 (by assumption) | exact CL0_1 (by assumption) | exact CL0_3 (by assumption) | exact CL0_4 (by assumption) | exact CL0_5 (by assumption) | exact CL0_6 (by assumption) | exact CL0_7 (by assumption) | exact CL0_8 (by assumption) | exact CL0_9 (by assumption) | exact CL0_10 (by assumption) | exact CL0_11 (by assumption) | exact CL0_12 (by assumption) | exact CL0_13 (by assumption) | exact CL1_2 (by assumption) | exact CL1_3 (by assumption) | exact CL80_2 (by assumption) | exact CL_slot (by assumption) (by omega) | exact (CL_sh (by assumption) (by omega)).1 | exact (CL_sh (by assumption) (by omega)).2.1 | rfl) ?_
        refine V_aloadn3 dX9_tableau_64 ?_
        refine V_callV1 (μ' := mX2_writeTo) dX9_tableau_65 okX2_writeTo lX9_127 rfl (by first | assumption | rfl | exact lay_s0 (by omega) | exact lay_s1 (by omega) | exact lay_s2 (by omega) | exact lay_h0 (by omega) | exact lay_h1 (by omega)) (by first | decide | omega) (Nat.le_of_ble_eq_true rfl) (Nat.le_of_ble_eq_true rfl) (by omega) ?_
        refine c_writeTo (by omega) (CL_G hC2) (GI_fr hG1 (fr_sI (lo := 43) (hi := 44) Fr1.rf (by omega) (by omega)) (by omega)) (CL_T hC2 hs) (by omega) (fun h3 hT3 hF3 => ?_)
        have t1 := hT3.2.1
        have hQ' := hQ h3 (RC_put hR2 hs hWP hT3 (hF3.wd (by omega) (by omega))) (f2.tr (hF3.toC (by omega)))
        dsimp only [gPush]
        refine V_aloadn3 dX9_tableau_68 ?_
        refine V_getI dX9_tableau_69 fX9_107 (Or.inl rfl) (by first | assumption | rfl | exact lay_s0 (by omega) | exact lay_s1 (by omega) | exact lay_s2 (by omega) | exact lay_h0 (by omega) | exact lay_h1 (by omega)) (by first | decide | omega) (by first | assumption | exact CL0_0 (by assumption) | exact CL0_1 (by assumption) | exact CL0_3 (by assumption) | exact CL0_4 (by assumption) | exact CL0_5 (by assumption) | exact CL0_6 (by assumption) | exact CL0_7 (by assumption) | exact CL0_8 (by assumption) | exact CL0_9 (by assumption) | exact CL0_10 (by assumption) | exact CL0_11 (by assumption) | exact CL0_12 (by assumption) | exact CL0_13 (by assumption) | exact CL1_2 (by assumption) | exact CL1_3 (by assumption) | exact CL80_2 (by assumption) | exact CL_slot (by assumption) (by omega) | exact (CL_sh (by assumption) (by omega)).1 | exact (CL_sh (by assumption) (by omega)).2.1 | rfl) ?_
        refine V_iret dX9_tableau_72 rfl rfl ?_
        exact hQ'
      · skip
        rw [if_f (show (tbR S).1 = false from c36)] at hQ
        have hQ' := hQ _ hR2 f2
        refine V_bipush (v := -100) dX9_tableau_39 (by decide) ?_
        refine V_aloadn0 dX9_tableau_41 ?_
        refine V_getR dX9_tableau_42 fX9_22 (by first | assumption | rfl | exact lay_s0 (by omega) | exact lay_s1 (by omega) | exact lay_s2 (by omega) | exact lay_h0 (by omega) | exact lay_h1 (by omega)) (by first | decide | omega) (by first | assumption | exact CL0_0 (by assumption) | exact CL0_1 (by assumption) | exact CL0_3 (by assumption) | exact CL0_4 (by assumption) | exact CL0_5 (by assumption) | exact CL0_6 (by assumption) | exact CL0_7 (by assumption) | exact CL0_8 (by assumption) | exact CL0_9 (by assumption) | exact CL0_10 (by assumption) | exact CL0_11 (by assumption) | exact CL0_12 (by assumption) | exact CL0_13 (by assumption) | exact CL1_2 (by assumption) | exact CL1_3 (by assumption) | exact CL80_2 (by assumption) | exact CL_slot (by assumption) (by omega) | exact (CL_sh (by assumption) (by omega)).1 | exact (CL_sh (by assumption) (by omega)).2.1 | rfl) ?_
        refine V_getI dX9_tableau_45 fX9_124 (Or.inl rfl) (by first | assumption | rfl | exact lay_s0 (by omega) | exact lay_s1 (by omega) | exact lay_s2 (by omega) | exact lay_h0 (by omega) | exact lay_h1 (by omega)) (by first | decide | omega) (by first | assumption | exact CL0_0 (by assumption) | exact CL0_1 (by assumption) | exact CL0_3 (by assumption) | exact CL0_4 (by assumption) | exact CL0_5 (by assumption) | exact CL0_6 (by assumption) | exact CL0_7 (by assumption) | exact CL0_8 (by assumption) | exact CL0_9 (by assumption) | exact CL0_10 (by assumption) | exact CL0_11 (by assumption) | exact CL0_12 (by assumption) | exact CL0_13 (by assumption) | exact CL1_2 (by assumption) | exact CL1_3 (by assumption) | exact CL80_2 (by assumption) | exact CL_slot (by assumption) (by omega) | exact (CL_sh (by assumption) (by omega)).1 | exact (CL_sh (by assumption) (by omega)).2.1 | rfl) ?_
        first | refine U_isub dX9_tableau_48 (by with_reducible rfl) (by with_reducible rfl) (by omega) ?_ | refine V_isub dX9_tableau_48 ?_
        refine V_iret dX9_tableau_49 rfl rfl ?_
        exact hQ'
    · skip
      cases c4
end C49
