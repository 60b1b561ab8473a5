/-! ===== the reference: acts told, performed ===== -/
theorem rdA_len (B : List Nat) (n : Nat) : ∀ f a, (rdA B n f a).2.2.length ≤ f
  | 0, a => Nat.le_refl _
  | f + 1, a => by
    rw [rdA_s]
    split
    · split
      · have := rdA_len B n f (raF B n (skp B a)).2.2.2
        simp only [List.length_cons]
        omega
      · exact Nat.zero_le _
    · exact Nat.zero_le _
theorem rdA_ok (B : List Nat) (n : Nat) : ∀ f a q, q ∈ (rdA B n f a).2.2 → q.1 ≤ 5 ∧ (q.1 ≠ 5 → 1 ≤ q.2 ∧ q.2 < n)
  | 0, a, q, h => by rw [rdA_0] at h; cases h
  | f + 1, a, q, h => by
    rw [rdA_s] at h
    split at h
    · split at h
      · rename_i h1 h2
        obtain ⟨u1, u2, u3⟩ := raF_ok h2
        rcases List.mem_cons.mp h with e | e
        · subst e; exact ⟨u1, u2⟩
        · exact rdA_ok B n f _ q e
      · cases h
    · cases h
theorem semF_le {B : List Nat} {a : Nat} (ha : a ≤ B.length) : (semF B a).2 ≤ B.length := by
  have := skp_le ha
  unfold semF
  split
  · rename_i q; simp only; omega
  · exact this
theorem stpF_le {B : List Nat} {n a : Nat} (ha : a ≤ B.length) : (stpF B n a).2 ≤ B.length := by
  have := skp_le ha
  unfold stpF
  split
  · rename_i q; simp only; omega
  · exact this
theorem raF_le {B : List Nat} {n a : Nat} (ha : a ≤ B.length) : (raF B n a).2.2.2 ≤ B.length := by
  have h1 := skp_le ha
  have h2 := eon_le h1
  unfold raF
  split
  · exact h1
  · split
    · exact semF_le h2
    · split
      · exact semF_le (stpF_le h2)
      · exact stpF_le h2
theorem drop_q {l : List (Nat × Nat)} {j : Nat} (hj : j < l.length) : l.drop j = l.getD j (0, 0) :: l.drop (j + 1) := by
  rw [List.drop_eq_getElem_cons hj]
  simp [List.getD_eq_getElem?_getD, hj]
theorem mem_q {l : List (Nat × Nat)} {j : Nat} (hj : j < l.length) : l.getD j (0, 0) ∈ l := by
  have e : l.getD j (0, 0) = l[j] := by simp [List.getD_eq_getElem?_getD, hj]
  rw [e]
  exact List.getElem_mem hj
theorem pf_acF {n kd act i : Nat} {w L : List Nat} (hac : acB act w i = false) : pfB act kd w L i n = false := by
  unfold acB at hac
  unfold pfB
  by_cases a0 : act = 0
  · rw [if_pos a0] at hac ⊢; exact hac
  · rw [if_neg a0] at hac ⊢
    by_cases a1 : act = 1
    · rw [if_pos a1] at hac ⊢; exact hac
    · rw [if_neg a1] at hac; cases hac
section C76
variable {Γ : gM} {d : Nat} {h : gH} {Q : Option Value → gH → Prop} {S : GS}
set_option maxRecDepth 100000 in
set_option maxHeartbeats 4000000 in
theorem m_acts {x : Int32} (hd : 5 ≤ d) (hR : RM h S) (hWG : WG S) (hQ : ∀ h', RM h' (f_acts S x).2 → FrD h h' → Q (some (.int (f_acts S x).1)) h') : V Γ mX10_acts_ d 124 124 h 0 [some (.ref 94), some (.int x), none, none, none, none] [] Q := by
  obtain ⟨hM, ⟨r0, r1, rT, rW⟩, rK, rK2, rB, rS⟩ := id hR
  obtain ⟨hWS, hWK, hWB, hWX⟩ := id hWG
  have hn2 := hWS.1
  have hn5 := hWS.2.1
  cases hg : inB x 6 with
  | false =>
    have eq0 : f_acts S x = (-1, S) := if_f hg
    rw [eq0] at hQ
    refine V_iloadn1 dX10_acts__0 ?_
    refine V_callS1 (μ' := mX10_isSlot) dX10_acts__1 okX10_isSlot lX10_114 (Nat.le_of_ble_eq_true rfl) (Nat.le_of_ble_eq_true rfl) (by omega) ?_
    refine m_isSlot (by omega) ?_
    rw [hg]
    dsimp only [gPush]
    first | refine U_ifB_ne (tgt := 9) dX10_acts__4 (by decide) (by with_reducible rfl) (fun c4 => ?_) (fun c4 => ?_) | refine U_if_ne (tgt := 9) dX10_acts__4 (by decide) (by with_reducible rfl) (by omega) (fun c4 => ?_) (fun c4 => ?_) | refine V_if_ne (tgt := 9) dX10_acts__4 (by decide) (fun c4 => ?_) (fun c4 => ?_)
    · skip
      cases c4
    · skip
      refine V_iconst (v := -1) dX10_acts__7 (by decide) ?_
      refine V_iret dX10_acts__8 rfl rfl ?_
      exact hQ h hR FrD.rf
  | true =>
    obtain ⟨s, hs, rfl⟩ := inB_t (by decide) hg
    have hWT := hWS.2.2.1 s hs
    obtain ⟨t0, tz⟩ := rT s hs
    have kd2 := hWT.1
    have eS : tS S (nI s) = S.1.2.2.1 s := by unfold tS; rw [cN_nI (by omega)]
    have eq0 : f_acts S (nI s) = _ := if_t hg
    rw [eq0, eS, cN_nI (by omega)] at hQ
    unfold acD at hQ
    rw [eS] at hQ
    have hlen : (acR S).2.2.length ≤ 60 := rdA_len _ _ 60 0
    have hok : ∀ q, q ∈ (acR S).2.2 → q.1 ≤ 5 ∧ (q.1 ≠ 5 → 1 ≤ q.2 ∧ q.2 < S.1.1) := rdA_ok _ _ 60 0
    by_cases hz : (S.1.2.2.1 s).1 = 0
    · rw [if_pos hz] at hQ
      refine V_iloadn1 dX10_acts__0 ?_
      refine V_callS1 (μ' := mX10_isSlot) dX10_acts__1 okX10_isSlot lX10_114 (Nat.le_of_ble_eq_true rfl) (Nat.le_of_ble_eq_true rfl) (by omega) ?_
      refine m_isSlot (by omega) ?_
      rw [hg]
      dsimp only [gPush]
      first | refine U_ifB_ne (tgt := 9) dX10_acts__4 (by decide) (by with_reducible rfl) (fun c4 => ?_) (fun c4 => ?_) | refine U_if_ne (tgt := 9) dX10_acts__4 (by decide) (by with_reducible rfl) (by omega) (fun c4 => ?_) (fun c4 => ?_) | refine V_if_ne (tgt := 9) dX10_acts__4 (by decide) (fun c4 => ?_) (fun c4 => ?_)
      · skip
        refine V_aloadn0 dX10_acts__9 ?_
        refine V_getR dX10_acts__10 fX10_16 (by first | assumption | rfl) (by first | decide | omega) (by first | assumption | exact ML_4 (by assumption) | exact ML_5 (by assumption) | exact ML_6 (by assumption) | exact ML_7 (by assumption) | exact ML_8 (by assumption) | exact ML_9 (by assumption) | exact ML_10 (by assumption) | exact ML_11 (by assumption) | exact ML_12 (by assumption) | exact ML_13 (by assumption) | exact ML_15 (by assumption) | exact ML_16 (by assumption) | exact ML_17 (by assumption) | exact ML_20 (by assumption) | exact ML_23 (by assumption) | exact ML_24 (by assumption) | exact ML_30 (by assumption) | exact ML_31 (by assumption) | exact ML_32 (by assumption) | exact ML_33 (by assumption) | exact ML_35 (by assumption) | exact ML_36 (by assumption) | exact ML_37 (by assumption) | exact ML_38 (by assumption) | exact ML_41 (by assumption) | exact ML_42 (by assumption) | exact ML_43 (by assumption) | exact ML_44 (by assumption) | exact ML_45 (by assumption) | rfl) ?_
        refine V_iloadn1 dX10_acts__13 ?_
        refine U_iald dX10_acts__14 (by with_reducible rfl) (by first | assumption | rfl) (by first | decide | omega) (by omega) (by first | assumption | exact ML_4 (by assumption) | exact ML_5 (by assumption) | exact ML_6 (by assumption) | exact ML_7 (by assumption) | exact ML_8 (by assumption) | exact ML_9 (by assumption) | exact ML_10 (by assumption) | exact ML_11 (by assumption) | exact ML_12 (by assumption) | exact ML_13 (by assumption) | exact ML_15 (by assumption) | exact ML_16 (by assumption) | exact ML_17 (by assumption) | exact ML_20 (by assumption) | exact ML_23 (by assumption) | exact ML_24 (by assumption) | exact ML_30 (by assumption) | exact ML_31 (by assumption) | exact ML_32 (by assumption) | exact ML_33 (by assumption) | exact ML_35 (by assumption) | exact ML_36 (by assumption) | exact ML_37 (by assumption) | exact ML_38 (by assumption) | exact ML_41 (by assumption) | exact ML_42 (by assumption) | exact ML_43 (by assumption) | exact ML_44 (by assumption) | exact ML_45 (by assumption) | rfl) ?_
        first | refine U_ifB_ne (tgt := 21) dX10_acts__15 (by decide) (by with_reducible rfl) (fun c15 => ?_) (fun c15 => ?_) | refine U_if_ne (tgt := 21) dX10_acts__15 (by decide) (by with_reducible rfl) (by omega) (fun c15 => ?_) (fun c15 => ?_) | refine V_if_ne (tgt := 21) dX10_acts__15 (by decide) (fun c15 => ?_) (fun c15 => ?_)
        · skip
          omega
        · skip
          refine V_bipush (v := -11) dX10_acts__18 (by decide) ?_
          refine V_iret dX10_acts__20 rfl rfl ?_
          exact hQ h hR FrD.rf
      · skip
        cases c4
    rw [if_neg hz] at hQ
    cases hr1 : (acR S).1 with
    | false =>
      rw [if_neg (by rw [hr1]; exact Bool.false_ne_true)] at hQ
      have hpl : (acR S).2.1 ≤ 60 := by
        have key : ∀ f a, a ≤ S.2.2.1.length → (rdA S.2.2.1 S.1.1 f a).1 = false → (rdA S.2.2.1 S.1.1 f a).2.1 ≤ S.2.2.1.length := by
          intro f
          induction f with
          | zero => intro a ha h1; rw [rdA_0] at h1; cases h1
          | succ f ih =>
            intro a ha h1
            rw [rdA_s] at h1 ⊢
            have hsl := skp_le ha
            have hrl : (raF S.2.2.1 S.1.1 (skp S.2.2.1 a)).2.2.2 ≤ S.2.2.1.length := raF_le hsl
            split at h1
            · rename_i q1
              rw [if_pos q1]
              split at h1
              · rename_i q2
                rw [if_pos q2]
                exact ih _ hrl h1
              · rename_i q2
                rw [if_neg q2]
                exact hrl
            · cases h1
        exact Nat.le_trans (key 60 0 (Nat.zero_le _) hr1) hWB.1
      have neg : ∀ b, b ≤ 60 → ¬ 0 ≤ (-100 - nI b) := by decide
      refine V_iloadn1 dX10_acts__0 ?_
      refine V_callS1 (μ' := mX10_isSlot) dX10_acts__1 okX10_isSlot lX10_114 (Nat.le_of_ble_eq_true rfl) (Nat.le_of_ble_eq_true rfl) (by omega) ?_
      refine m_isSlot (by omega) ?_
      rw [hg]
      dsimp only [gPush]
      first | refine U_ifB_ne (tgt := 9) dX10_acts__4 (by decide) (by with_reducible rfl) (fun c4 => ?_) (fun c4 => ?_) | refine U_if_ne (tgt := 9) dX10_acts__4 (by decide) (by with_reducible rfl) (by omega) (fun c4 => ?_) (fun c4 => ?_) | refine V_if_ne (tgt := 9) dX10_acts__4 (by decide) (fun c4 => ?_) (fun c4 => ?_)
      · skip
        refine V_aloadn0 dX10_acts__9 ?_
        refine V_getR dX10_acts__10 fX10_16 (by first | assumption | rfl) (by first | decide | omega) (by first | assumption | exact ML_4 (by assumption) | exact ML_5 (by assumption) | exact ML_6 (by assumption) | exact ML_7 (by assumption) | exact ML_8 (by assumption) | exact ML_9 (by assumption) | exact ML_10 (by assumption) | exact ML_11 (by assumption) | exact ML_12 (by assumption) | exact ML_13 (by assumption) | exact ML_15 (by assumption) | exact ML_16 (by assumption) | exact ML_17 (by assumption) | exact ML_20 (by assumption) | exact ML_23 (by assumption) | exact ML_24 (by assumption) | exact ML_30 (by assumption) | exact ML_31 (by assumption) | exact ML_32 (by assumption) | exact ML_33 (by assumption) | exact ML_35 (by assumption) | exact ML_36 (by assumption) | exact ML_37 (by assumption) | exact ML_38 (by assumption) | exact ML_41 (by assumption) | exact ML_42 (by assumption) | exact ML_43 (by assumption) | exact ML_44 (by assumption) | exact ML_45 (by assumption) | rfl) ?_
        refine V_iloadn1 dX10_acts__13 ?_
        refine U_iald dX10_acts__14 (by with_reducible rfl) (by first | assumption | rfl) (by first | decide | omega) (by omega) (by first | assumption | exact ML_4 (by assumption) | exact ML_5 (by assumption) | exact ML_6 (by assumption) | exact ML_7 (by assumption) | exact ML_8 (by assumption) | exact ML_9 (by assumption) | exact ML_10 (by assumption) | exact ML_11 (by assumption) | exact ML_12 (by assumption) | exact ML_13 (by assumption) | exact ML_15 (by assumption) | exact ML_16 (by assumption) | exact ML_17 (by assumption) | exact ML_20 (by assumption) | exact ML_23 (by assumption) | exact ML_24 (by assumption) | exact ML_30 (by assumption) | exact ML_31 (by assumption) | exact ML_32 (by assumption) | exact ML_33 (by assumption) | exact ML_35 (by assumption) | exact ML_36 (by assumption) | exact ML_37 (by assumption) | exact ML_38 (by assumption) | exact ML_41 (by assumption) | exact ML_42 (by assumption) | exact ML_43 (by assumption) | exact ML_44 (by assumption) | exact ML_45 (by assumption) | rfl) ?_
        first | refine U_ifB_ne (tgt := 21) dX10_acts__15 (by decide) (by with_reducible rfl) (fun c15 => ?_) (fun c15 => ?_) | refine U_if_ne (tgt := 21) dX10_acts__15 (by decide) (by with_reducible rfl) (by omega) (fun c15 => ?_) (fun c15 => ?_) | refine V_if_ne (tgt := 21) dX10_acts__15 (by decide) (fun c15 => ?_) (fun c15 => ?_)
        · skip
          refine V_aloadn0 dX10_acts__21 ?_
          refine V_callV0 (μ' := mX10_readsActs) dX10_acts__22 okX10_readsActs lX10_221 rfl (by first | assumption | rfl) (by first | decide | omega) (Nat.le_of_ble_eq_true rfl) (Nat.le_of_ble_eq_true rfl) (by omega) ?_
          refine m_readsActs (by omega) hR hWG (fun z => by rw [hr1] at z; cases z) (fun _ h1 hR1 hF1 => ?_)
          dsimp only [gPush]
          refine V_istoren2 dX10_acts__25 (by decide) rfl ?_
          refine V_iloadn2 dX10_acts__26 ?_
          refine V_if_ge (tgt := 32) dX10_acts__27 (by decide) (fun c27 => ?_) (fun c27 => ?_)
          · skip
            exact absurd c27 (neg _ hpl)
          · skip
            refine V_iloadn2 dX10_acts__30 ?_
            refine V_iret dX10_acts__31 rfl rfl ?_
            exact hQ h1 hR1 hF1
        · skip
          omega
      · skip
        cases c4
    | true =>
      rw [if_pos hr1] at hQ
      generalize hl9 : (acR S).2.2 = l at hQ hlen hok
      generalize hkd9 : (S.1.2.2.1 s).1 = kd at hQ hz kd2
      have loop : ∀ r j h0 h3 w' L' c' x5, j + r = l.length → FrD h h0 → AtL h0 l → gI h3 94 19 = nI kd → WW h3 w' → SH h3 L' → WT S.1.1 (kd, w', L') → doA S.1.1 kd l (S.1.2.2.1 s).2.1 (S.1.2.2.1 s).2.2 0 = doA S.1.1 kd (l.drop j) w' L' c' → c' ≤ j → RM h3 (setTp S []) → FrX h0 h3 → V Γ mX10_acts_ d 124 124 h3 42 [some (.ref 94), some (.int (nI s)), some (.int (nI l.length)), some (.int (nI c')), some (.int (nI j)), x5] [] Q := by
        intro r
        induction r with
        | zero =>
          intro j h0 h3 w' L' c' x5 hj hF0 hA0 hk3 hW3 hL3 hWT3 hdo hc hR3 hF3
          have hM3 := hR3.1
          rw [List.drop_eq_nil_of_le (by omega), doA_nil] at hdo
          rw [hdo] at hQ
          refine V_iloadw4 dX10_acts__42 ?_
          refine V_iloadn2 dX10_acts__44 ?_
          first | refine U_icmp_ge (tgt := 98) dX10_acts__45 (by decide) (by with_reducible rfl) (by with_reducible rfl) (by omega) (by omega) (fun c45 => ?_) (fun c45 => ?_) | refine V_icmp_ge (tgt := 98) dX10_acts__45 (by decide) (fun c45 => ?_) (fun c45 => ?_)
          · skip
            refine V_aloadn0 dX10_acts__98 ?_
            refine V_iloadn1 dX10_acts__99 ?_
            refine V_callV1 (μ' := mX10_lays) dX10_acts__100 okX10_lays lX10_121 rfl (by first | assumption | rfl) (by first | decide | omega) (Nat.le_of_ble_eq_true rfl) (Nat.le_of_ble_eq_true rfl) (by omega) ?_
            refine m_lays hs hR3 hWS kd2 hk3 hW3 (fun _ => hL3) (fun z => hWT3.2.2.2.2.1 z) (fun h4 hR4 e4 l4 k4 => ?_)
            have hQ' := hQ h4 hR4 ((hF0.tr hF3.D).tr ⟨fun a ha => e4 a (by omega), fun a ha => by rw [l4], k4⟩)
            dsimp only [gPush]
            refine V_iloadn3 dX10_acts__103 ?_
            refine V_iret dX10_acts__104 rfl rfl ?_
            exact hQ'
          · skip
            omega
        | succ r ih =>
          intro j h0 h3 w' L' c' x5 hj hF0 hA0 hk3 hW3 hL3 hWT3 hdo hc hR3 hF3
          have hM3 := hR3.1
          rw [drop_q (by omega), doA_cons] at hdo
          obtain ⟨o1, o2⟩ := hok _ (mem_q (show j < l.length by omega))
          obtain ⟨b1, b2⟩ := hA0 j (by omega)
          rw [← hF3.1 111 (by omega)] at b1
          rw [← hF3.1 112 (by omega)] at b2
          generalize (l.getD j (0, 0)).1 = act at hdo o1 o2 b1 b2
          generalize (l.getD j (0, 0)).2 = i at hdo o2 b2
          obtain ⟨xv, hxv⟩ : ∃ xv, gI h3 112 j = xv := ⟨_, rfl⟩
          have hx : act ≠ 5 → xv = nI i ∧ 1 ≤ i ∧ i < S.1.1 := fun z => ⟨by rw [← hxv]; exact b2 z, o2 z⟩
          have hlt := hWT3.2.2.1
          have hwb : numF w' 0 w'.length < 1000000 := numF_b (LtW9 hlt hn5) hWT3.2.1
          have hWp := WT_pf (act := act) (i := i) hWT3 hz o2
          have hwb2 : numF (pfW act kd w' L' i S.1.1).1 0 (pfW act kd w' L' i S.1.1).1.length < 1000000 := numF_b (LtW9 hWp.2.2.1 hn5) hWp.2.1
          have nn : gI h3 94 0 = nI S.1.1 := hR3.2.1.1
          cases hac : acB act w' i with
          | false =>
            have hb := pf_acF (kd := kd) (L := L') (n := S.1.1) hac
            rw [if_neg (by rw [hb]; exact Bool.false_ne_true)] at hdo
            refine V_iloadw4 dX10_acts__42 ?_
            refine V_iloadn2 dX10_acts__44 ?_
            first | refine U_icmp_ge (tgt := 98) dX10_acts__45 (by decide) (by with_reducible rfl) (by with_reducible rfl) (by omega) (by omega) (fun c45 => ?_) (fun c45 => ?_) | refine V_icmp_ge (tgt := 98) dX10_acts__45 (by decide) (fun c45 => ?_) (fun c45 => ?_)
            · skip
              omega
            · skip
              refine V_aloadn0 dX10_acts__48 ?_
              refine V_callV0 (μ' := mX10_read) dX10_acts__49 okX10_read lX10_149 rfl (by first | assumption | rfl) (by first | decide | omega) (Nat.le_of_ble_eq_true rfl) (Nat.le_of_ble_eq_true rfl) (by omega) ?_
              refine m_read hM3 hW3 ?_
              dsimp only [gPush]
              refine V_istorew5 dX10_acts__52 (by decide) rfl ?_
              refine V_iloadn3 dX10_acts__54 ?_
              refine V_aloadn0 dX10_acts__55 ?_
              refine V_aloadn0 dX10_acts__56 ?_
              refine V_getR dX10_acts__57 fX10_65 (by first | assumption | rfl) (by first | decide | omega) (by first | assumption | exact ML_4 (by assumption) | exact ML_5 (by assumption) | exact ML_6 (by assumption) | exact ML_7 (by assumption) | exact ML_8 (by assumption) | exact ML_9 (by assumption) | exact ML_10 (by assumption) | exact ML_11 (by assumption) | exact ML_12 (by assumption) | exact ML_13 (by assumption) | exact ML_15 (by assumption) | exact ML_16 (by assumption) | exact ML_17 (by assumption) | exact ML_20 (by assumption) | exact ML_23 (by assumption) | exact ML_24 (by assumption) | exact ML_30 (by assumption) | exact ML_31 (by assumption) | exact ML_32 (by assumption) | exact ML_33 (by assumption) | exact ML_35 (by assumption) | exact ML_36 (by assumption) | exact ML_37 (by assumption) | exact ML_38 (by assumption) | exact ML_41 (by assumption) | exact ML_42 (by assumption) | exact ML_43 (by assumption) | exact ML_44 (by assumption) | exact ML_45 (by assumption) | rfl) ?_
              refine V_iloadw4 dX10_acts__60 ?_
              refine U_iald dX10_acts__62 (by with_reducible rfl) (by first | assumption | rfl) (by first | decide | omega) (by omega) (by first | assumption | exact ML_4 (by assumption) | exact ML_5 (by assumption) | exact ML_6 (by assumption) | exact ML_7 (by assumption) | exact ML_8 (by assumption) | exact ML_9 (by assumption) | exact ML_10 (by assumption) | exact ML_11 (by assumption) | exact ML_12 (by assumption) | exact ML_13 (by assumption) | exact ML_15 (by assumption) | exact ML_16 (by assumption) | exact ML_17 (by assumption) | exact ML_20 (by assumption) | exact ML_23 (by assumption) | exact ML_24 (by assumption) | exact ML_30 (by assumption) | exact ML_31 (by assumption) | exact ML_32 (by assumption) | exact ML_33 (by assumption) | exact ML_35 (by assumption) | exact ML_36 (by assumption) | exact ML_37 (by assumption) | exact ML_38 (by assumption) | exact ML_41 (by assumption) | exact ML_42 (by assumption) | exact ML_43 (by assumption) | exact ML_44 (by assumption) | exact ML_45 (by assumption) | rfl) ?_
              refine V_aloadn0 dX10_acts__63 ?_
              refine V_getR dX10_acts__64 fX10_68 (by first | assumption | rfl) (by first | decide | omega) (by first | assumption | exact ML_4 (by assumption) | exact ML_5 (by assumption) | exact ML_6 (by assumption) | exact ML_7 (by assumption) | exact ML_8 (by assumption) | exact ML_9 (by assumption) | exact ML_10 (by assumption) | exact ML_11 (by assumption) | exact ML_12 (by assumption) | exact ML_13 (by assumption) | exact ML_15 (by assumption) | exact ML_16 (by assumption) | exact ML_17 (by assumption) | exact ML_20 (by assumption) | exact ML_23 (by assumption) | exact ML_24 (by assumption) | exact ML_30 (by assumption) | exact ML_31 (by assumption) | exact ML_32 (by assumption) | exact ML_33 (by assumption) | exact ML_35 (by assumption) | exact ML_36 (by assumption) | exact ML_37 (by assumption) | exact ML_38 (by assumption) | exact ML_41 (by assumption) | exact ML_42 (by assumption) | exact ML_43 (by assumption) | exact ML_44 (by assumption) | exact ML_45 (by assumption) | rfl) ?_
              refine V_iloadw4 dX10_acts__67 ?_
              refine U_iald dX10_acts__69 (by with_reducible rfl) (by first | assumption | rfl) (by first | decide | omega) (by omega) (by first | assumption | exact ML_4 (by assumption) | exact ML_5 (by assumption) | exact ML_6 (by assumption) | exact ML_7 (by assumption) | exact ML_8 (by assumption) | exact ML_9 (by assumption) | exact ML_10 (by assumption) | exact ML_11 (by assumption) | exact ML_12 (by assumption) | exact ML_13 (by assumption) | exact ML_15 (by assumption) | exact ML_16 (by assumption) | exact ML_17 (by assumption) | exact ML_20 (by assumption) | exact ML_23 (by assumption) | exact ML_24 (by assumption) | exact ML_30 (by assumption) | exact ML_31 (by assumption) | exact ML_32 (by assumption) | exact ML_33 (by assumption) | exact ML_35 (by assumption) | exact ML_36 (by assumption) | exact ML_37 (by assumption) | exact ML_38 (by assumption) | exact ML_41 (by assumption) | exact ML_42 (by assumption) | exact ML_43 (by assumption) | exact ML_44 (by assumption) | exact ML_45 (by assumption) | rfl) ?_
              refine V_callV2 (μ' := mX10_acts) dX10_acts__70 okX10_acts lX10_188 rfl (by first | assumption | rfl) (by first | decide | omega) (Nat.le_of_ble_eq_true rfl) (Nat.le_of_ble_eq_true rfl) (by omega) ?_
              refine m_doAct (i := i) (by omega) hn5 hM3 nn hk3 kd2 hW3 hlt hL3 o1 hx (fun h4 hk4 hW4 hL4 hF4 => ?_)
              rw [hac]
              dsimp only [gPush]
              first | refine U_ifB_eq (tgt := 89) dX10_acts__73 (by decide) (by with_reducible rfl) (fun c73 => ?_) (fun c73 => ?_) | refine U_if_eq (tgt := 89) dX10_acts__73 (by decide) (by with_reducible rfl) (by omega) (fun c73 => ?_) (fun c73 => ?_) | refine V_if_eq (tgt := 89) dX10_acts__73 (by decide) (fun c73 => ?_) (fun c73 => ?_)
              · skip
                refine V_iconst (v := nI 0) dX10_acts__89 (by decide) ?_
                first | refine U_iadd dX10_acts__90 (by with_reducible rfl) (by with_reducible rfl) ?_ | refine V_iadd dX10_acts__90 ?_
                refine V_istoren3 dX10_acts__91 (by decide) rfl ?_
                refine V_iinc4 dX10_acts__92 (by first | exact ginc1 _ | rfl) (by decide) rfl ?_
                refine V_goto (tgt := 42) dX10_acts__95 (by decide) ?_
                exact ih (j + 1) h0 h4 _ _ c' _ (by omega) hF0 hA0 hk4 hW4 hL4 hWp hdo (by omega) (RM_X hR3 hF4) (hF3.tr hF4)
              · skip
                cases c73
          | true =>
            have hpn := pf_num hWT3 hz hn5 o2 hac
            rw [hpn] at hdo
            refine V_iloadw4 dX10_acts__42 ?_
            refine V_iloadn2 dX10_acts__44 ?_
            first | refine U_icmp_ge (tgt := 98) dX10_acts__45 (by decide) (by with_reducible rfl) (by with_reducible rfl) (by omega) (by omega) (fun c45 => ?_) (fun c45 => ?_) | refine V_icmp_ge (tgt := 98) dX10_acts__45 (by decide) (fun c45 => ?_) (fun c45 => ?_)
            · skip
              omega
            · skip
              refine V_aloadn0 dX10_acts__48 ?_
              refine V_callV0 (μ' := mX10_read) dX10_acts__49 okX10_read lX10_149 rfl (by first | assumption | rfl) (by first | decide | omega) (Nat.le_of_ble_eq_true rfl) (Nat.le_of_ble_eq_true rfl) (by omega) ?_
              refine m_read hM3 hW3 ?_
              dsimp only [gPush]
              refine V_istorew5 dX10_acts__52 (by decide) rfl ?_
              refine V_iloadn3 dX10_acts__54 ?_
              refine V_aloadn0 dX10_acts__55 ?_
              refine V_aloadn0 dX10_acts__56 ?_
              refine V_getR dX10_acts__57 fX10_65 (by first | assumption | rfl) (by first | decide | omega) (by first | assumption | exact ML_4 (by assumption) | exact ML_5 (by assumption) | exact ML_6 (by assumption) | exact ML_7 (by assumption) | exact ML_8 (by assumption) | exact ML_9 (by assumption) | exact ML_10 (by assumption) | exact ML_11 (by assumption) | exact ML_12 (by assumption) | exact ML_13 (by assumption) | exact ML_15 (by assumption) | exact ML_16 (by assumption) | exact ML_17 (by assumption) | exact ML_20 (by assumption) | exact ML_23 (by assumption) | exact ML_24 (by assumption) | exact ML_30 (by assumption) | exact ML_31 (by assumption) | exact ML_32 (by assumption) | exact ML_33 (by assumption) | exact ML_35 (by assumption) | exact ML_36 (by assumption) | exact ML_37 (by assumption) | exact ML_38 (by assumption) | exact ML_41 (by assumption) | exact ML_42 (by assumption) | exact ML_43 (by assumption) | exact ML_44 (by assumption) | exact ML_45 (by assumption) | rfl) ?_
              refine V_iloadw4 dX10_acts__60 ?_
              refine U_iald dX10_acts__62 (by with_reducible rfl) (by first | assumption | rfl) (by first | decide | omega) (by omega) (by first | assumption | exact ML_4 (by assumption) | exact ML_5 (by assumption) | exact ML_6 (by assumption) | exact ML_7 (by assumption) | exact ML_8 (by assumption) | exact ML_9 (by assumption) | exact ML_10 (by assumption) | exact ML_11 (by assumption) | exact ML_12 (by assumption) | exact ML_13 (by assumption) | exact ML_15 (by assumption) | exact ML_16 (by assumption) | exact ML_17 (by assumption) | exact ML_20 (by assumption) | exact ML_23 (by assumption) | exact ML_24 (by assumption) | exact ML_30 (by assumption) | exact ML_31 (by assumption) | exact ML_32 (by assumption) | exact ML_33 (by assumption) | exact ML_35 (by assumption) | exact ML_36 (by assumption) | exact ML_37 (by assumption) | exact ML_38 (by assumption) | exact ML_41 (by assumption) | exact ML_42 (by assumption) | exact ML_43 (by assumption) | exact ML_44 (by assumption) | exact ML_45 (by assumption) | rfl) ?_
              refine V_aloadn0 dX10_acts__63 ?_
              refine V_getR dX10_acts__64 fX10_68 (by first | assumption | rfl) (by first | decide | omega) (by first | assumption | exact ML_4 (by assumption) | exact ML_5 (by assumption) | exact ML_6 (by assumption) | exact ML_7 (by assumption) | exact ML_8 (by assumption) | exact ML_9 (by assumption) | exact ML_10 (by assumption) | exact ML_11 (by assumption) | exact ML_12 (by assumption) | exact ML_13 (by assumption) | exact ML_15 (by assumption) | exact ML_16 (by assumption) | exact ML_17 (by assumption) | exact ML_20 (by assumption) | exact ML_23 (by assumption) | exact ML_24 (by assumption) | exact ML_30 (by assumption) | exact ML_31 (by assumption) | exact ML_32 (by assumption) | exact ML_33 (by assumption) | exact ML_35 (by assumption) | exact ML_36 (by assumption) | exact ML_37 (by assumption) | exact ML_38 (by assumption) | exact ML_41 (by assumption) | exact ML_42 (by assumption) | exact ML_43 (by assumption) | exact ML_44 (by assumption) | exact ML_45 (by assumption) | rfl) ?_
              refine V_iloadw4 dX10_acts__67 ?_
              refine U_iald dX10_acts__69 (by with_reducible rfl) (by first | assumption | rfl) (by first | decide | omega) (by omega) (by first | assumption | exact ML_4 (by assumption) | exact ML_5 (by assumption) | exact ML_6 (by assumption) | exact ML_7 (by assumption) | exact ML_8 (by assumption) | exact ML_9 (by assumption) | exact ML_10 (by assumption) | exact ML_11 (by assumption) | exact ML_12 (by assumption) | exact ML_13 (by assumption) | exact ML_15 (by assumption) | exact ML_16 (by assumption) | exact ML_17 (by assumption) | exact ML_20 (by assumption) | exact ML_23 (by assumption) | exact ML_24 (by assumption) | exact ML_30 (by assumption) | exact ML_31 (by assumption) | exact ML_32 (by assumption) | exact ML_33 (by assumption) | exact ML_35 (by assumption) | exact ML_36 (by assumption) | exact ML_37 (by assumption) | exact ML_38 (by assumption) | exact ML_41 (by assumption) | exact ML_42 (by assumption) | exact ML_43 (by assumption) | exact ML_44 (by assumption) | exact ML_45 (by assumption) | rfl) ?_
              refine V_callV2 (μ' := mX10_acts) dX10_acts__70 okX10_acts lX10_188 rfl (by first | assumption | rfl) (by first | decide | omega) (Nat.le_of_ble_eq_true rfl) (Nat.le_of_ble_eq_true rfl) (by omega) ?_
              refine m_doAct (i := i) (by omega) hn5 hM3 nn hk3 kd2 hW3 hlt hL3 o1 hx (fun h4 hk4 hW4 hL4 hF4 => ?_)
              rw [hac]
              have hR4 := RM_X hR3 hF4
              have hM4 := hR4.1
              dsimp only [gPush]
              first | refine U_ifB_eq (tgt := 89) dX10_acts__73 (by decide) (by with_reducible rfl) (fun c73 => ?_) (fun c73 => ?_) | refine U_if_eq (tgt := 89) dX10_acts__73 (by decide) (by with_reducible rfl) (by omega) (fun c73 => ?_) (fun c73 => ?_) | refine V_if_eq (tgt := 89) dX10_acts__73 (by decide) (fun c73 => ?_) (fun c73 => ?_)
              · skip
                cases c73
              · skip
                refine V_aloadn0 dX10_acts__76 ?_
                refine V_callV0 (μ' := mX10_read) dX10_acts__77 okX10_read lX10_149 rfl (by first | assumption | rfl) (by first | decide | omega) (Nat.le_of_ble_eq_true rfl) (Nat.le_of_ble_eq_true rfl) (by omega) ?_
                refine m_read hM4 hW4 ?_
                dsimp only [gPush]
                refine V_iloadw5 dX10_acts__80 ?_
                first | refine U_icmp_eq (tgt := 89) dX10_acts__82 (by decide) (by with_reducible rfl) (by with_reducible rfl) (by omega) (by omega) (fun c82 => ?_) (fun c82 => ?_) | refine V_icmp_eq (tgt := 89) dX10_acts__82 (by decide) (fun c82 => ?_) (fun c82 => ?_)
                · skip
                  rw [if_neg (by rw [decide_eq_false (fun z => z c82)]; exact Bool.false_ne_true)] at hdo
                  refine V_iconst (v := nI 0) dX10_acts__89 (by decide) ?_
                  first | refine U_iadd dX10_acts__90 (by with_reducible rfl) (by with_reducible rfl) ?_ | refine V_iadd dX10_acts__90 ?_
                  refine V_istoren3 dX10_acts__91 (by decide) rfl ?_
                  refine V_iinc4 dX10_acts__92 (by first | exact ginc1 _ | rfl) (by decide) rfl ?_
                  refine V_goto (tgt := 42) dX10_acts__95 (by decide) ?_
                  exact ih (j + 1) h0 h4 _ _ _ _ (by omega) hF0 hA0 hk4 hW4 hL4 hWp hdo (by omega) hR4 (hF3.tr hF4)
                · skip
                  rw [if_pos (decide_eq_true (show ¬ numF (pfW act kd w' L' i S.1.1).1 0 (pfW act kd w' L' i S.1.1).1.length = numF w' 0 w'.length from fun z => c82 (by rw [z])))] at hdo
                  refine V_iconst (v := nI 1) dX10_acts__85 (by decide) ?_
                  refine V_goto (tgt := 90) dX10_acts__86 (by decide) ?_
                  first | refine U_iadd dX10_acts__90 (by with_reducible rfl) (by with_reducible rfl) ?_ | refine V_iadd dX10_acts__90 ?_
                  refine V_istoren3 dX10_acts__91 (by decide) rfl ?_
                  refine V_iinc4 dX10_acts__92 (by first | exact ginc1 _ | rfl) (by decide) rfl ?_
                  refine V_goto (tgt := 42) dX10_acts__95 (by decide) ?_
                  exact ih (j + 1) h0 h4 _ _ _ _ (by omega) hF0 hA0 hk4 hW4 hL4 hWp hdo (by omega) hR4 (hF3.tr hF4)
      have nng : nI 0 ≤ nI l.length := nI_le (Nat.zero_le _) (by omega)
      refine V_iloadn1 dX10_acts__0 ?_
      refine V_callS1 (μ' := mX10_isSlot) dX10_acts__1 okX10_isSlot lX10_114 (Nat.le_of_ble_eq_true rfl) (Nat.le_of_ble_eq_true rfl) (by omega) ?_
      refine m_isSlot (by omega) ?_
      rw [hg]
      dsimp only [gPush]
      first | refine U_ifB_ne (tgt := 9) dX10_acts__4 (by decide) (by with_reducible rfl) (fun c4 => ?_) (fun c4 => ?_) | refine U_if_ne (tgt := 9) dX10_acts__4 (by decide) (by with_reducible rfl) (by omega) (fun c4 => ?_) (fun c4 => ?_) | refine V_if_ne (tgt := 9) dX10_acts__4 (by decide) (fun c4 => ?_) (fun c4 => ?_)
      · skip
        refine V_aloadn0 dX10_acts__9 ?_
        refine V_getR dX10_acts__10 fX10_16 (by first | assumption | rfl) (by first | decide | omega) (by first | assumption | exact ML_4 (by assumption) | exact ML_5 (by assumption) | exact ML_6 (by assumption) | exact ML_7 (by assumption) | exact ML_8 (by assumption) | exact ML_9 (by assumption) | exact ML_10 (by assumption) | exact ML_11 (by assumption) | exact ML_12 (by assumption) | exact ML_13 (by assumption) | exact ML_15 (by assumption) | exact ML_16 (by assumption) | exact ML_17 (by assumption) | exact ML_20 (by assumption) | exact ML_23 (by assumption) | exact ML_24 (by assumption) | exact ML_30 (by assumption) | exact ML_31 (by assumption) | exact ML_32 (by assumption) | exact ML_33 (by assumption) | exact ML_35 (by assumption) | exact ML_36 (by assumption) | exact ML_37 (by assumption) | exact ML_38 (by assumption) | exact ML_41 (by assumption) | exact ML_42 (by assumption) | exact ML_43 (by assumption) | exact ML_44 (by assumption) | exact ML_45 (by assumption) | rfl) ?_
        refine V_iloadn1 dX10_acts__13 ?_
        refine U_iald dX10_acts__14 (by with_reducible rfl) (by first | assumption | rfl) (by first | decide | omega) (by omega) (by first | assumption | exact ML_4 (by assumption) | exact ML_5 (by assumption) | exact ML_6 (by assumption) | exact ML_7 (by assumption) | exact ML_8 (by assumption) | exact ML_9 (by assumption) | exact ML_10 (by assumption) | exact ML_11 (by assumption) | exact ML_12 (by assumption) | exact ML_13 (by assumption) | exact ML_15 (by assumption) | exact ML_16 (by assumption) | exact ML_17 (by assumption) | exact ML_20 (by assumption) | exact ML_23 (by assumption) | exact ML_24 (by assumption) | exact ML_30 (by assumption) | exact ML_31 (by assumption) | exact ML_32 (by assumption) | exact ML_33 (by assumption) | exact ML_35 (by assumption) | exact ML_36 (by assumption) | exact ML_37 (by assumption) | exact ML_38 (by assumption) | exact ML_41 (by assumption) | exact ML_42 (by assumption) | exact ML_43 (by assumption) | exact ML_44 (by assumption) | exact ML_45 (by assumption) | rfl) ?_
        first | refine U_ifB_ne (tgt := 21) dX10_acts__15 (by decide) (by with_reducible rfl) (fun c15 => ?_) (fun c15 => ?_) | refine U_if_ne (tgt := 21) dX10_acts__15 (by decide) (by with_reducible rfl) (by omega) (fun c15 => ?_) (fun c15 => ?_) | refine V_if_ne (tgt := 21) dX10_acts__15 (by decide) (fun c15 => ?_) (fun c15 => ?_)
        · skip
          refine V_aloadn0 dX10_acts__21 ?_
          refine V_callV0 (μ' := mX10_readsActs) dX10_acts__22 okX10_readsActs lX10_221 rfl (by first | assumption | rfl) (by first | decide | omega) (Nat.le_of_ble_eq_true rfl) (Nat.le_of_ble_eq_true rfl) (by omega) ?_
          refine m_readsActs (by omega) hR hWG (fun _ h1 hR1 hF1 hA1 => ?_) (fun z => by rw [hr1] at z; cases z)
          rw [hl9] at hA1 ⊢
          dsimp only [gPush]
          refine V_istoren2 dX10_acts__25 (by decide) rfl ?_
          refine V_iloadn2 dX10_acts__26 ?_
          refine V_if_ge (tgt := 32) dX10_acts__27 (by decide) (fun c27 => ?_) (fun c27 => ?_)
          · skip
            refine V_iconst (v := nI 0) dX10_acts__32 (by decide) ?_
            refine V_istoren3 dX10_acts__33 (by decide) rfl ?_
            refine V_aloadn0 dX10_acts__34 ?_
            refine V_iloadn1 dX10_acts__35 ?_
            refine V_callV1 (μ' := mX10_takes) dX10_acts__36 okX10_takes lX10_146 rfl (by first | assumption | rfl) (by first | decide | omega) (Nat.le_of_ble_eq_true rfl) (Nat.le_of_ble_eq_true rfl) (by omega) ?_
            refine m_takes hs hR1 hWT hn5 (fun z => hz (hkd9.symm.trans z)) (fun h2 hk2 hW2 hL2 hR2 hF2 => ?_)
            have hk2' : gI h2 94 19 = nI kd := by rw [← hkd9]; exact hk2
            dsimp only [gPush]
            refine V_iconst (v := nI 0) dX10_acts__39 (by decide) ?_
            refine V_istorew4 dX10_acts__40 (by decide) rfl ?_
            exact loop l.length 0 h1 h2 _ _ 0 _ (Nat.zero_add _) hF1 hA1 hk2' hW2 hL2 (by rw [← hkd9]; exact hWT) rfl (Nat.le_refl _) hR2 hF2
          · skip
            exact absurd nng c27
        · skip
          omega
      · skip
        cases c4
end C76
