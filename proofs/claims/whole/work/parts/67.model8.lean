/-! ===== the reference: act, insert, record, alike ===== -/
theorem raise_ne {w : List Nat} {i : Nat} (hl : w.length ≤ 6) (hi : 1 ≤ i) (hf : fhC w i ≠ 0) : raiseW w i ≠ w := fun q => by
  have h := sum_raise hl hi hf
  rw [q] at h
  omega
theorem lower_ne {w : List Nat} {i : Nat} (hl : w.length ≤ 6) (hi : 1 ≤ i) (hf : llC w i ≠ 0) : lowerW w i ≠ w := fun q => by
  have h := sum_lower hl hi hf
  rw [q] at h
  omega
theorem LtW9 {n : Nat} {w : List Nat} (hw : LtW n w) (hn : n ≤ 5) : ∀ p, w.getD p 0 ≤ 9 := fun p => by
  by_cases c : p < w.length
  · have := (hw p c).2; omega
  · rw [getD_out (by omega)]; decide
theorem pf_len {n kd act i : Nat} {w L : List Nat} : (pfW act kd w L i n).1.length = w.length := by
  unfold pfW
  by_cases a0 : act = 0
  · rw [if_pos a0]; exact raiseW_len w i
  rw [if_neg a0]
  by_cases a1 : act = 1
  · rw [if_pos a1]; exact lowerW_len w i
  rw [if_neg a1]
  by_cases a5 : act = 5
  · rw [if_pos a5]
    unfold turnW
    by_cases k2 : kd = 2
    · rw [if_pos k2]; show (rdL _).length = _; rw [rdL_len, insW_sz]
    · rw [if_neg k2]; exact twF_len w n
  · rw [if_neg a5]
    show (mvW act w i).length = w.length
    have rl : ∀ k (v : List Nat), (rIt v i k).length = v.length := fun k v => by
      induction k with
      | zero => rfl
      | succ k ih => rw [rIt, raiseW_len, ih]
    have ll : ∀ k (v : List Nat), (lIt v i k).length = v.length := fun k v => by
      induction k with
      | zero => rfl
      | succ k ih => rw [lIt, lowerW_len, ih]
    unfold mvW
    split
    · exact rl _ _
    · split
      · exact ll _ _
      · split
        · rw [rl, ll]
        · rfl
theorem pf_num {n kd act i : Nat} {w L : List Nat} (hW : WT n (kd, w, L)) (hz : kd ≠ 0) (hn5 : n ≤ 5) (hi : act ≠ 5 → 1 ≤ i ∧ i < n) (hb : acB act w i = true) : pfB act kd w L i n = decide (¬ numF (pfW act kd w L i n).1 0 (pfW act kd w L i n).1.length = numF w 0 w.length) := by
  have hW' := WT_pf (act := act) (i := i) hW hz hi
  have hl : w.length ≤ 6 := hW.2.1
  have key := num_inj (w := (pfW act kd w L i n).1) (w' := w) pf_len (LtW9 hW'.2.2.1 hn5) (LtW9 hW.2.2.1 hn5)
  have hd : decide (¬ numF (pfW act kd w L i n).1 0 (pfW act kd w L i n).1.length = numF w 0 w.length) = !decide ((pfW act kd w L i n).1 = w) := by
    by_cases c : (pfW act kd w L i n).1 = w
    · rw [decide_eq_true c, decide_eq_false (fun q => q (key.mpr c))]; rfl
    · have hno : ¬ numF (pfW act kd w L i n).1 0 (pfW act kd w L i n).1.length = numF w 0 w.length := fun q => c (key.mp q)
      rw [decide_eq_false c, decide_eq_true hno]; rfl
  rw [hd]
  unfold pfB
  by_cases a0 : act = 0
  · subst a0
    rw [if_pos rfl]
    have hf : fhC w i ≠ 0 := of_decide_eq_true hb
    have e : (pfW 0 kd w L i n).1 = raiseW w i := rfl
    rw [e, decide_eq_true hf, decide_eq_false (raise_ne hl (hi (by decide)).1 hf)]
    rfl
  rw [if_neg a0]
  by_cases a1 : act = 1
  · subst a1
    rw [if_pos rfl]
    have hf : llC w i ≠ 0 := of_decide_eq_true hb
    have e : (pfW 1 kd w L i n).1 = lowerW w i := rfl
    rw [e, decide_eq_true hf, decide_eq_false (lower_ne hl (hi (by decide)).1 hf)]
    rfl
  rw [if_neg a1]
  congr 1
  by_cases c : (pfW act kd w L i n).1 = w
  · have hLL : (pfW act kd w L i n).2 = L := by
      by_cases k2 : kd = 2
      · have h1 := hW'.2.2.2.2.2 k2
        have h2 := hW.2.2.2.2.2 k2
        have h1' : (pfW act kd w L i n).2 = (rnL (pfW act kd w L i n).1).reverse := h1
        have h2' : L = (rnL w).reverse := h2
        rw [h1', c, ← h2']
      · have h1' : (pfW act kd w L i n).2 = [] := hW'.2.2.2.2.1 k2
        have h2' : L = [] := hW.2.2.2.2.1 k2
        rw [h1', h2']
    rw [decide_eq_true c, decide_eq_true ⟨rfl, c, hLL⟩]
  · rw [decide_eq_false c, decide_eq_false (fun q => c q.2.1)]
section C67
variable {Γ : gM} {d : Nat} {h : gH} {Q : Option Value → gH → Prop} {S : GS}

set_option maxRecDepth 100000 in
set_option maxHeartbeats 4000000 in
theorem m_act {x a i y : Int32} (hd : 5 ≤ d) (hR : RM h S) (hWG : WG S) (hQ : ∀ h', RM h' (f_act S x a i y).2 → FrD h h' → Q (some (.int (f_act S x a i y).1)) h') : V Γ mX10_act d 124 124 h 0 [some (.ref 94), some (.int x), some (.int a), some (.int i), some (.int y), none] [] Q := by
  obtain ⟨hM, ⟨r0, r1, rT, rW⟩, rK, rK2, rB, rS⟩ := id hR
  obtain ⟨hWS, hWK, hWB, hWX⟩ := id hWG
  have hn2 := hWS.1
  have hn5 := hWS.2.1
  by_cases hg : (inB x 6 && (inB y 6 && (inR a 0 5 && (decide (a = nI 5) || inS i S.1.1)))) = true
  · have hg2 := hg
    rw [Bool.and_eq_true, Bool.and_eq_true, Bool.and_eq_true] at hg2
    obtain ⟨s, hs, rfl⟩ := inB_t (by decide) hg2.1
    obtain ⟨q, hq, rfl⟩ := inB_t (by decide) hg2.2.1
    obtain ⟨k, k0, k5, rfl⟩ := inR_t (by decide) (by decide) hg2.2.2.1
    have hst := hg2.2.2.2
    have hWT := hWS.2.2.1 s hs
    obtain ⟨t0, tz⟩ := rT s hs
    have kd2 := hWT.1
    have hlt := hWT.2.2.1
    have eS : tS S (nI s) = S.1.2.2.1 s := by unfold tS; rw [cN_nI (by omega)]
    have eq0 : f_act S (nI s) (nI k) i (nI q) = _ := if_t hg
    rw [eq0, eS, cN_nI (by omega), cN_nI (by omega)] at hQ
    have hi : k ≠ 5 → i = nI (iA (nI k) i) ∧ 1 ≤ iA (nI k) i ∧ iA (nI k) i < S.1.1 := fun k5 => by
      have hk : ¬ nI k = nI 5 := fun z => k5 ((nI_eq (by omega) (by omega)).mp z)
      rw [decide_eq_false hk, Bool.false_or] at hst
      obtain ⟨i', i1, i2, rfl⟩ := inS_t (by omega) hst
      unfold iA
      rw [if_neg hk, cN_nI (by omega)]
      exact ⟨rfl, i1, i2⟩
    generalize iA (nI k) i = j at hi hQ
    have from39 : V Γ mX10_act d 124 124 h 39 [some (.ref 94), some (.int (nI s)), some (.int (nI k)), some (.int i), some (.int (nI q)), none] [] Q := by
      by_cases hz : (S.1.2.2.1 s).1 = 0
      · rw [if_pos hz] at hQ
        refine V_aloadn0 dX10_act_39 ?_
        refine V_getR dX10_act_40 fX10_16 (by first | assumption | rfl) (by first | decide | omega) (by first | assumption | exact ML_4 (by assumption) | exact ML_5 (by assumption) | exact ML_6 (by assumption) | exact ML_7 (by assumption) | exact ML_8 (by assumption) | exact ML_9 (by assumption) | exact ML_10 (by assumption) | exact ML_11 (by assumption) | exact ML_12 (by assumption) | exact ML_13 (by assumption) | exact ML_15 (by assumption) | exact ML_16 (by assumption) | exact ML_17 (by assumption) | exact ML_20 (by assumption) | exact ML_23 (by assumption) | exact ML_24 (by assumption) | exact ML_30 (by assumption) | exact ML_31 (by assumption) | exact ML_32 (by assumption) | exact ML_33 (by assumption) | exact ML_35 (by assumption) | exact ML_36 (by assumption) | exact ML_37 (by assumption) | exact ML_38 (by assumption) | exact ML_41 (by assumption) | exact ML_42 (by assumption) | exact ML_43 (by assumption) | exact ML_44 (by assumption) | exact ML_45 (by assumption) | rfl) ?_
        refine V_iloadn1 dX10_act_43 ?_
        refine U_iald dX10_act_44 (by with_reducible rfl) (by first | assumption | rfl) (by first | decide | omega) (by omega) (by first | assumption | exact ML_4 (by assumption) | exact ML_5 (by assumption) | exact ML_6 (by assumption) | exact ML_7 (by assumption) | exact ML_8 (by assumption) | exact ML_9 (by assumption) | exact ML_10 (by assumption) | exact ML_11 (by assumption) | exact ML_12 (by assumption) | exact ML_13 (by assumption) | exact ML_15 (by assumption) | exact ML_16 (by assumption) | exact ML_17 (by assumption) | exact ML_20 (by assumption) | exact ML_23 (by assumption) | exact ML_24 (by assumption) | exact ML_30 (by assumption) | exact ML_31 (by assumption) | exact ML_32 (by assumption) | exact ML_33 (by assumption) | exact ML_35 (by assumption) | exact ML_36 (by assumption) | exact ML_37 (by assumption) | exact ML_38 (by assumption) | exact ML_41 (by assumption) | exact ML_42 (by assumption) | exact ML_43 (by assumption) | exact ML_44 (by assumption) | exact ML_45 (by assumption) | rfl) ?_
        first | refine U_ifB_ne (tgt := 51) dX10_act_45 (by decide) (by with_reducible rfl) (fun c45 => ?_) (fun c45 => ?_) | refine U_if_ne (tgt := 51) dX10_act_45 (by decide) (by with_reducible rfl) (by omega) (fun c45 => ?_) (fun c45 => ?_) | refine V_if_ne (tgt := 51) dX10_act_45 (by decide) (fun c45 => ?_) (fun c45 => ?_)
        · skip
          omega
        · skip
          refine V_bipush (v := -11) dX10_act_48 (by decide) ?_
          refine V_iret dX10_act_50 rfl rfl ?_
          exact hQ h hR FrD.rf
      rw [if_neg hz] at hQ
      have hwb := numF_b (LtW9 hlt hn5) hWT.2.1
      have hWp := WT_pf (act := k) (i := j) hWT hz (fun z => (hi z).2)
      have hwb2 : numF (pfW k (S.1.2.2.1 s).1 (S.1.2.2.1 s).2.1 (S.1.2.2.1 s).2.2 j S.1.1).1 0 (pfW k (S.1.2.2.1 s).1 (S.1.2.2.1 s).2.1 (S.1.2.2.1 s).2.2 j S.1.1).1.length < 1000000 := numF_b (LtW9 hWp.2.2.1 hn5) hWp.2.1
      cases hac : acB k (S.1.2.2.1 s).2.1 j with
      | false =>
        have hb : pfB k (S.1.2.2.1 s).1 (S.1.2.2.1 s).2.1 (S.1.2.2.1 s).2.2 j S.1.1 = false ∧ (nI k = nI 0 ∨ nI k = nI 1) := by
          unfold acB at hac
          unfold pfB
          by_cases a0 : k = 0
          · rw [if_pos a0] at hac ⊢; exact ⟨hac, Or.inl (by rw [a0])⟩
          · rw [if_neg a0] at hac ⊢
            by_cases a1 : k = 1
            · rw [if_pos a1] at hac ⊢; exact ⟨hac, Or.inr (by rw [a1])⟩
            · rw [if_neg a1] at hac; cases hac
        rw [if_pos hb] at hQ
        refine V_aloadn0 dX10_act_39 ?_
        refine V_getR dX10_act_40 fX10_16 (by first | assumption | rfl) (by first | decide | omega) (by first | assumption | exact ML_4 (by assumption) | exact ML_5 (by assumption) | exact ML_6 (by assumption) | exact ML_7 (by assumption) | exact ML_8 (by assumption) | exact ML_9 (by assumption) | exact ML_10 (by assumption) | exact ML_11 (by assumption) | exact ML_12 (by assumption) | exact ML_13 (by assumption) | exact ML_15 (by assumption) | exact ML_16 (by assumption) | exact ML_17 (by assumption) | exact ML_20 (by assumption) | exact ML_23 (by assumption) | exact ML_24 (by assumption) | exact ML_30 (by assumption) | exact ML_31 (by assumption) | exact ML_32 (by assumption) | exact ML_33 (by assumption) | exact ML_35 (by assumption) | exact ML_36 (by assumption) | exact ML_37 (by assumption) | exact ML_38 (by assumption) | exact ML_41 (by assumption) | exact ML_42 (by assumption) | exact ML_43 (by assumption) | exact ML_44 (by assumption) | exact ML_45 (by assumption) | rfl) ?_
        refine V_iloadn1 dX10_act_43 ?_
        refine U_iald dX10_act_44 (by with_reducible rfl) (by first | assumption | rfl) (by first | decide | omega) (by omega) (by first | assumption | exact ML_4 (by assumption) | exact ML_5 (by assumption) | exact ML_6 (by assumption) | exact ML_7 (by assumption) | exact ML_8 (by assumption) | exact ML_9 (by assumption) | exact ML_10 (by assumption) | exact ML_11 (by assumption) | exact ML_12 (by assumption) | exact ML_13 (by assumption) | exact ML_15 (by assumption) | exact ML_16 (by assumption) | exact ML_17 (by assumption) | exact ML_20 (by assumption) | exact ML_23 (by assumption) | exact ML_24 (by assumption) | exact ML_30 (by assumption) | exact ML_31 (by assumption) | exact ML_32 (by assumption) | exact ML_33 (by assumption) | exact ML_35 (by assumption) | exact ML_36 (by assumption) | exact ML_37 (by assumption) | exact ML_38 (by assumption) | exact ML_41 (by assumption) | exact ML_42 (by assumption) | exact ML_43 (by assumption) | exact ML_44 (by assumption) | exact ML_45 (by assumption) | rfl) ?_
        first | refine U_ifB_ne (tgt := 51) dX10_act_45 (by decide) (by with_reducible rfl) (fun c45 => ?_) (fun c45 => ?_) | refine U_if_ne (tgt := 51) dX10_act_45 (by decide) (by with_reducible rfl) (by omega) (fun c45 => ?_) (fun c45 => ?_) | refine V_if_ne (tgt := 51) dX10_act_45 (by decide) (fun c45 => ?_) (fun c45 => ?_)
        · skip
          refine V_aloadn0 dX10_act_51 ?_
          refine V_iloadn1 dX10_act_52 ?_
          refine V_callV1 (μ' := mX10_takes) dX10_act_53 okX10_takes lX10_146 rfl (by first | assumption | rfl) (by first | decide | omega) (Nat.le_of_ble_eq_true rfl) (Nat.le_of_ble_eq_true rfl) (by omega) ?_
          refine m_takes hs hR hWT hn5 hz (fun h1 hk1 hW1 hL1 hR1 hF1 => ?_)
          have hM1 := hR1.1
          dsimp only [gPush]
          refine V_aloadn0 dX10_act_56 ?_
          refine V_callV0 (μ' := mX10_read) dX10_act_57 okX10_read lX10_149 rfl (by first | assumption | rfl) (by first | decide | omega) (Nat.le_of_ble_eq_true rfl) (Nat.le_of_ble_eq_true rfl) (by omega) ?_
          refine m_read hM1 hW1 ?_
          dsimp only [gPush]
          refine V_istorew5 dX10_act_60 (by decide) rfl ?_
          refine V_aloadn0 dX10_act_62 ?_
          refine V_iloadn2 dX10_act_63 ?_
          refine V_iloadn3 dX10_act_64 ?_
          refine V_callV2 (μ' := mX10_acts) dX10_act_65 okX10_acts lX10_188 rfl (by first | assumption | rfl) (by first | decide | omega) (Nat.le_of_ble_eq_true rfl) (Nat.le_of_ble_eq_true rfl) (by omega) ?_
          refine m_doAct (i := j) (by omega) hn5 hM1 hR1.2.1.1 hk1 kd2 hW1 hlt hL1 (by omega) (fun z => hi z) (fun h2 hk2 hW2 hL2 hF2 => ?_)
          rw [hac]
          have hR2 := RM_X hR1 hF2
          dsimp only [gPush]
          first | refine U_ifB_ne (tgt := 74) dX10_act_68 (by decide) (by with_reducible rfl) (fun c68 => ?_) (fun c68 => ?_) | refine U_if_ne (tgt := 74) dX10_act_68 (by decide) (by with_reducible rfl) (by omega) (fun c68 => ?_) (fun c68 => ?_) | refine V_if_ne (tgt := 74) dX10_act_68 (by decide) (fun c68 => ?_) (fun c68 => ?_)
          · skip
            cases c68
          · skip
            refine V_bipush (v := -3) dX10_act_71 (by decide) ?_
            refine V_iret dX10_act_73 rfl rfl ?_
            exact hQ h2 hR2 (hF1.tr hF2).D
        · skip
          omega
      | true =>
        have hpn := pf_num hWT hz hn5 (fun z => (hi z).2) hac
        have hb : ¬ (pfB k (S.1.2.2.1 s).1 (S.1.2.2.1 s).2.1 (S.1.2.2.1 s).2.2 j S.1.1 = false ∧ (nI k = nI 0 ∨ nI k = nI 1)) := by
          intro z
          have h1 := z.1
          unfold acB at hac
          unfold pfB at h1
          rcases z.2 with e | e
          · have e' := (nI_eq (by omega) (by omega)).mp e
            rw [if_pos e'] at hac h1
            rw [hac] at h1; cases h1
          · have e' := (nI_eq (by omega) (by omega)).mp e
            rw [if_neg (by omega), if_pos e'] at hac h1
            rw [hac] at h1; cases h1
        rw [if_neg hb, hpn] at hQ
        refine V_aloadn0 dX10_act_39 ?_
        refine V_getR dX10_act_40 fX10_16 (by first | assumption | rfl) (by first | decide | omega) (by first | assumption | exact ML_4 (by assumption) | exact ML_5 (by assumption) | exact ML_6 (by assumption) | exact ML_7 (by assumption) | exact ML_8 (by assumption) | exact ML_9 (by assumption) | exact ML_10 (by assumption) | exact ML_11 (by assumption) | exact ML_12 (by assumption) | exact ML_13 (by assumption) | exact ML_15 (by assumption) | exact ML_16 (by assumption) | exact ML_17 (by assumption) | exact ML_20 (by assumption) | exact ML_23 (by assumption) | exact ML_24 (by assumption) | exact ML_30 (by assumption) | exact ML_31 (by assumption) | exact ML_32 (by assumption) | exact ML_33 (by assumption) | exact ML_35 (by assumption) | exact ML_36 (by assumption) | exact ML_37 (by assumption) | exact ML_38 (by assumption) | exact ML_41 (by assumption) | exact ML_42 (by assumption) | exact ML_43 (by assumption) | exact ML_44 (by assumption) | exact ML_45 (by assumption) | rfl) ?_
        refine V_iloadn1 dX10_act_43 ?_
        refine U_iald dX10_act_44 (by with_reducible rfl) (by first | assumption | rfl) (by first | decide | omega) (by omega) (by first | assumption | exact ML_4 (by assumption) | exact ML_5 (by assumption) | exact ML_6 (by assumption) | exact ML_7 (by assumption) | exact ML_8 (by assumption) | exact ML_9 (by assumption) | exact ML_10 (by assumption) | exact ML_11 (by assumption) | exact ML_12 (by assumption) | exact ML_13 (by assumption) | exact ML_15 (by assumption) | exact ML_16 (by assumption) | exact ML_17 (by assumption) | exact ML_20 (by assumption) | exact ML_23 (by assumption) | exact ML_24 (by assumption) | exact ML_30 (by assumption) | exact ML_31 (by assumption) | exact ML_32 (by assumption) | exact ML_33 (by assumption) | exact ML_35 (by assumption) | exact ML_36 (by assumption) | exact ML_37 (by assumption) | exact ML_38 (by assumption) | exact ML_41 (by assumption) | exact ML_42 (by assumption) | exact ML_43 (by assumption) | exact ML_44 (by assumption) | exact ML_45 (by assumption) | rfl) ?_
        first | refine U_ifB_ne (tgt := 51) dX10_act_45 (by decide) (by with_reducible rfl) (fun c45 => ?_) (fun c45 => ?_) | refine U_if_ne (tgt := 51) dX10_act_45 (by decide) (by with_reducible rfl) (by omega) (fun c45 => ?_) (fun c45 => ?_) | refine V_if_ne (tgt := 51) dX10_act_45 (by decide) (fun c45 => ?_) (fun c45 => ?_)
        · skip
          refine V_aloadn0 dX10_act_51 ?_
          refine V_iloadn1 dX10_act_52 ?_
          refine V_callV1 (μ' := mX10_takes) dX10_act_53 okX10_takes lX10_146 rfl (by first | assumption | rfl) (by first | decide | omega) (Nat.le_of_ble_eq_true rfl) (Nat.le_of_ble_eq_true rfl) (by omega) ?_
          refine m_takes hs hR hWT hn5 hz (fun h1 hk1 hW1 hL1 hR1 hF1 => ?_)
          have hM1 := hR1.1
          dsimp only [gPush]
          refine V_aloadn0 dX10_act_56 ?_
          refine V_callV0 (μ' := mX10_read) dX10_act_57 okX10_read lX10_149 rfl (by first | assumption | rfl) (by first | decide | omega) (Nat.le_of_ble_eq_true rfl) (Nat.le_of_ble_eq_true rfl) (by omega) ?_
          refine m_read hM1 hW1 ?_
          dsimp only [gPush]
          refine V_istorew5 dX10_act_60 (by decide) rfl ?_
          refine V_aloadn0 dX10_act_62 ?_
          refine V_iloadn2 dX10_act_63 ?_
          refine V_iloadn3 dX10_act_64 ?_
          refine V_callV2 (μ' := mX10_acts) dX10_act_65 okX10_acts lX10_188 rfl (by first | assumption | rfl) (by first | decide | omega) (Nat.le_of_ble_eq_true rfl) (Nat.le_of_ble_eq_true rfl) (by omega) ?_
          refine m_doAct (i := j) (by omega) hn5 hM1 hR1.2.1.1 hk1 kd2 hW1 hlt hL1 (by omega) (fun z => hi z) (fun h2 hk2 hW2 hL2 hF2 => ?_)
          rw [hac]
          have hR2 := RM_X hR1 hF2
          dsimp only [gPush]
          first | refine U_ifB_ne (tgt := 74) dX10_act_68 (by decide) (by with_reducible rfl) (fun c68 => ?_) (fun c68 => ?_) | refine U_if_ne (tgt := 74) dX10_act_68 (by decide) (by with_reducible rfl) (by omega) (fun c68 => ?_) (fun c68 => ?_) | refine V_if_ne (tgt := 74) dX10_act_68 (by decide) (fun c68 => ?_) (fun c68 => ?_)
          · skip
            refine V_aloadn0 dX10_act_74 ?_
            refine V_iloadw4 dX10_act_75 ?_
            refine V_callV1 (μ' := mX10_lays) dX10_act_77 okX10_lays lX10_121 rfl (by first | assumption | rfl) (by first | decide | omega) (Nat.le_of_ble_eq_true rfl) (Nat.le_of_ble_eq_true rfl) (by omega) ?_
            refine m_lays hq hR2 hWS kd2 hk2 hW2 (fun _ => hL2) (fun z => hWp.2.2.2.2.1 z) (fun h3 hR3 e3 l3 k3 => ?_)
            have hM3 := hR3.1
            have hQ' := hQ h3 hR3 ((hF1.tr hF2).D.tr ⟨fun a ha => e3 a (by omega), fun a ha => by rw [l3], k3⟩)
            dsimp only [gPush]
            refine V_aloadn0 dX10_act_80 ?_
            refine V_callV0 (μ' := mX10_read) dX10_act_81 okX10_read lX10_149 rfl (by first | assumption | rfl) (by first | decide | omega) (Nat.le_of_ble_eq_true rfl) (Nat.le_of_ble_eq_true rfl) (by omega) ?_
            refine m_read hM3 (WW_cg hW2 (by rw [e3 94 (by omega)]) (e3 105 (by omega))) ?_
            dsimp only [gPush]
            refine V_iloadw5 dX10_act_84 ?_
            first | refine U_icmp_ne (tgt := 93) dX10_act_86 (by decide) (by with_reducible rfl) (by with_reducible rfl) (by omega) (by omega) (fun c86 => ?_) (fun c86 => ?_) | refine V_icmp_ne (tgt := 93) dX10_act_86 (by decide) (fun c86 => ?_) (fun c86 => ?_)
            · skip
              rw [decide_eq_true c86] at hQ'
              refine V_iconst (v := nI 1) dX10_act_93 (by decide) ?_
              refine V_iret dX10_act_94 rfl rfl ?_
              exact hQ'
            · skip
              rw [decide_eq_false (fun z => z c86)] at hQ'
              refine V_iconst (v := nI 0) dX10_act_89 (by decide) ?_
              refine V_goto (tgt := 94) dX10_act_90 (by decide) ?_
              refine V_iret dX10_act_94 rfl rfl ?_
              exact hQ'
          · skip
            cases c68
        · skip
          omega
    refine V_iloadn1 dX10_act_0 ?_
    refine V_callS1 (μ' := mX10_isSlot) dX10_act_1 okX10_isSlot lX10_114 (Nat.le_of_ble_eq_true rfl) (Nat.le_of_ble_eq_true rfl) (by omega) ?_
    refine m_isSlot (by omega) ?_
    rw [hg2.1]
    dsimp only [gPush]
    first | refine U_ifB_eq (tgt := 37) dX10_act_4 (by decide) (by with_reducible rfl) (fun c4 => ?_) (fun c4 => ?_) | refine U_if_eq (tgt := 37) dX10_act_4 (by decide) (by with_reducible rfl) (by omega) (fun c4 => ?_) (fun c4 => ?_) | refine V_if_eq (tgt := 37) dX10_act_4 (by decide) (fun c4 => ?_) (fun c4 => ?_)
    · skip
      cases c4
    · skip
      refine V_iloadn2 dX10_act_7 ?_
      refine V_iconst (v := nI 0) dX10_act_8 (by decide) ?_
      refine V_iconst (v := nI 5) dX10_act_9 (by decide) ?_
      refine V_callS3 (μ' := mX10_in) dX10_act_10 okX10_in lX10_104 (Nat.le_of_ble_eq_true rfl) (Nat.le_of_ble_eq_true rfl) (by omega) ?_
      refine m_inR ?_
      rw [hg2.2.2.1]
      dsimp only [gPush]
      first | refine U_ifB_eq (tgt := 37) dX10_act_13 (by decide) (by with_reducible rfl) (fun c13 => ?_) (fun c13 => ?_) | refine U_if_eq (tgt := 37) dX10_act_13 (by decide) (by with_reducible rfl) (by omega) (fun c13 => ?_) (fun c13 => ?_) | refine V_if_eq (tgt := 37) dX10_act_13 (by decide) (fun c13 => ?_) (fun c13 => ?_)
      · skip
        cases c13
      · skip
        refine V_iloadn2 dX10_act_16 ?_
        refine V_iconst (v := nI 5) dX10_act_17 (by decide) ?_
        first | refine U_icmp_ge (tgt := 29) dX10_act_18 (by decide) (by with_reducible rfl) (by with_reducible rfl) (by omega) (by omega) (fun c18 => ?_) (fun c18 => ?_) | refine V_icmp_ge (tgt := 29) dX10_act_18 (by decide) (fun c18 => ?_) (fun c18 => ?_)
        · skip
          refine V_iloadw4 dX10_act_29 ?_
          refine V_callS1 (μ' := mX10_isSlot) dX10_act_31 okX10_isSlot lX10_114 (Nat.le_of_ble_eq_true rfl) (Nat.le_of_ble_eq_true rfl) (by omega) ?_
          refine m_isSlot (by omega) ?_
          rw [hg2.2.1]
          dsimp only [gPush]
          first | refine U_ifB_ne (tgt := 39) dX10_act_34 (by decide) (by with_reducible rfl) (fun c34 => ?_) (fun c34 => ?_) | refine U_if_ne (tgt := 39) dX10_act_34 (by decide) (by with_reducible rfl) (by omega) (fun c34 => ?_) (fun c34 => ?_) | refine V_if_ne (tgt := 39) dX10_act_34 (by decide) (fun c34 => ?_) (fun c34 => ?_)
          · skip
            exact from39
          · skip
            cases c34
        · skip
          refine V_aloadn0 dX10_act_21 ?_
          refine V_iloadn3 dX10_act_22 ?_
          refine V_callV1 (μ' := mX10_isSign) dX10_act_23 okX10_isSign lX10_173 rfl (by first | assumption | rfl) (by first | decide | omega) (Nat.le_of_ble_eq_true rfl) (Nat.le_of_ble_eq_true rfl) (by omega) ?_
          refine m_isSign (by omega) (by omega) hn5 r0 ?_
          dsimp only [gPush]
          first | refine U_ifB_eq (tgt := 37) dX10_act_26 (by decide) (by with_reducible rfl) (fun c26 => ?_) (fun c26 => ?_) | refine U_if_eq (tgt := 37) dX10_act_26 (by decide) (by with_reducible rfl) (by omega) (fun c26 => ?_) (fun c26 => ?_) | refine V_if_eq (tgt := 37) dX10_act_26 (by decide) (fun c26 => ?_) (fun c26 => ?_)
          · skip
            exfalso
            rw [decide_eq_false (fun z => by have := (nI_eq (by omega) (by omega)).mp z; omega), Bool.false_or, c26] at hst
            cases hst
          · skip
            refine V_iloadw4 dX10_act_29 ?_
            refine V_callS1 (μ' := mX10_isSlot) dX10_act_31 okX10_isSlot lX10_114 (Nat.le_of_ble_eq_true rfl) (Nat.le_of_ble_eq_true rfl) (by omega) ?_
            refine m_isSlot (by omega) ?_
            rw [hg2.2.1]
            dsimp only [gPush]
            first | refine U_ifB_ne (tgt := 39) dX10_act_34 (by decide) (by with_reducible rfl) (fun c34 => ?_) (fun c34 => ?_) | refine U_if_ne (tgt := 39) dX10_act_34 (by decide) (by with_reducible rfl) (by omega) (fun c34 => ?_) (fun c34 => ?_) | refine V_if_ne (tgt := 39) dX10_act_34 (by decide) (fun c34 => ?_) (fun c34 => ?_)
            · skip
              exact from39
            · skip
              cases c34
  · have eq0 : f_act S x a i y = (-1, S) := if_neg hg
    rw [eq0] at hQ
    have hQ9 := hQ h hR FrD.rf
    cases hA : inR a 0 5 with
    | false =>
      refine V_iloadn1 dX10_act_0 ?_
      refine V_callS1 (μ' := mX10_isSlot) dX10_act_1 okX10_isSlot lX10_114 (Nat.le_of_ble_eq_true rfl) (Nat.le_of_ble_eq_true rfl) (by omega) ?_
      refine m_isSlot (by omega) ?_
      dsimp only [gPush]
      first | refine U_ifB_eq (tgt := 37) dX10_act_4 (by decide) (by with_reducible rfl) (fun c4 => ?_) (fun c4 => ?_) | refine U_if_eq (tgt := 37) dX10_act_4 (by decide) (by with_reducible rfl) (by omega) (fun c4 => ?_) (fun c4 => ?_) | refine V_if_eq (tgt := 37) dX10_act_4 (by decide) (fun c4 => ?_) (fun c4 => ?_)
      · skip
        refine V_iconst (v := -1) dX10_act_37 (by decide) ?_
        refine V_iret dX10_act_38 rfl rfl ?_
        exact hQ9
      · skip
        refine V_iloadn2 dX10_act_7 ?_
        refine V_iconst (v := nI 0) dX10_act_8 (by decide) ?_
        refine V_iconst (v := nI 5) dX10_act_9 (by decide) ?_
        refine V_callS3 (μ' := mX10_in) dX10_act_10 okX10_in lX10_104 (Nat.le_of_ble_eq_true rfl) (Nat.le_of_ble_eq_true rfl) (by omega) ?_
        refine m_inR ?_
        rw [hA]
        dsimp only [gPush]
        first | refine U_ifB_eq (tgt := 37) dX10_act_13 (by decide) (by with_reducible rfl) (fun c13 => ?_) (fun c13 => ?_) | refine U_if_eq (tgt := 37) dX10_act_13 (by decide) (by with_reducible rfl) (by omega) (fun c13 => ?_) (fun c13 => ?_) | refine V_if_eq (tgt := 37) dX10_act_13 (by decide) (fun c13 => ?_) (fun c13 => ?_)
        · skip
          refine V_iconst (v := -1) dX10_act_37 (by decide) ?_
          refine V_iret dX10_act_38 rfl rfl ?_
          exact hQ9
        · skip
          cases c13
    | true =>
      obtain ⟨k, k0, k5, rfl⟩ := inR_t (by decide) (by decide) hA
      refine V_iloadn1 dX10_act_0 ?_
      refine V_callS1 (μ' := mX10_isSlot) dX10_act_1 okX10_isSlot lX10_114 (Nat.le_of_ble_eq_true rfl) (Nat.le_of_ble_eq_true rfl) (by omega) ?_
      refine m_isSlot (by omega) ?_
      dsimp only [gPush]
      first | refine U_ifB_eq (tgt := 37) dX10_act_4 (by decide) (by with_reducible rfl) (fun c4 => ?_) (fun c4 => ?_) | refine U_if_eq (tgt := 37) dX10_act_4 (by decide) (by with_reducible rfl) (by omega) (fun c4 => ?_) (fun c4 => ?_) | refine V_if_eq (tgt := 37) dX10_act_4 (by decide) (fun c4 => ?_) (fun c4 => ?_)
      · skip
        refine V_iconst (v := -1) dX10_act_37 (by decide) ?_
        refine V_iret dX10_act_38 rfl rfl ?_
        exact hQ9
      · skip
        refine V_iloadn2 dX10_act_7 ?_
        refine V_iconst (v := nI 0) dX10_act_8 (by decide) ?_
        refine V_iconst (v := nI 5) dX10_act_9 (by decide) ?_
        refine V_callS3 (μ' := mX10_in) dX10_act_10 okX10_in lX10_104 (Nat.le_of_ble_eq_true rfl) (Nat.le_of_ble_eq_true rfl) (by omega) ?_
        refine m_inR ?_
        rw [hA]
        dsimp only [gPush]
        first | refine U_ifB_eq (tgt := 37) dX10_act_13 (by decide) (by with_reducible rfl) (fun c13 => ?_) (fun c13 => ?_) | refine U_if_eq (tgt := 37) dX10_act_13 (by decide) (by with_reducible rfl) (by omega) (fun c13 => ?_) (fun c13 => ?_) | refine V_if_eq (tgt := 37) dX10_act_13 (by decide) (fun c13 => ?_) (fun c13 => ?_)
        · skip
          cases c13
        · skip
          refine V_iloadn2 dX10_act_16 ?_
          refine V_iconst (v := nI 5) dX10_act_17 (by decide) ?_
          first | refine U_icmp_ge (tgt := 29) dX10_act_18 (by decide) (by with_reducible rfl) (by with_reducible rfl) (by omega) (by omega) (fun c18 => ?_) (fun c18 => ?_) | refine V_icmp_ge (tgt := 29) dX10_act_18 (by decide) (fun c18 => ?_) (fun c18 => ?_)
          · skip
            have e5 : k = 5 := by omega
            subst e5
            have ok : (decide (nI 5 = nI 5) || inS i S.1.1) = true := by rw [decide_eq_true rfl]; rfl
            refine V_iloadw4 dX10_act_29 ?_
            refine V_callS1 (μ' := mX10_isSlot) dX10_act_31 okX10_isSlot lX10_114 (Nat.le_of_ble_eq_true rfl) (Nat.le_of_ble_eq_true rfl) (by omega) ?_
            refine m_isSlot (by omega) ?_
            dsimp only [gPush]
            first | refine U_ifB_ne (tgt := 39) dX10_act_34 (by decide) (by with_reducible rfl) (fun c34 => ?_) (fun c34 => ?_) | refine U_if_ne (tgt := 39) dX10_act_34 (by decide) (by with_reducible rfl) (by omega) (fun c34 => ?_) (fun c34 => ?_) | refine V_if_ne (tgt := 39) dX10_act_34 (by decide) (fun c34 => ?_) (fun c34 => ?_)
            · skip
              exact absurd (by rw [c4, c34, hA, ok]; rfl) hg
            · skip
              refine V_iconst (v := -1) dX10_act_37 (by decide) ?_
              refine V_iret dX10_act_38 rfl rfl ?_
              exact hQ9
          · skip
            refine V_aloadn0 dX10_act_21 ?_
            refine V_iloadn3 dX10_act_22 ?_
            refine V_callV1 (μ' := mX10_isSign) dX10_act_23 okX10_isSign lX10_173 rfl (by first | assumption | rfl) (by first | decide | omega) (Nat.le_of_ble_eq_true rfl) (Nat.le_of_ble_eq_true rfl) (by omega) ?_
            refine m_isSign (by omega) (by omega) hn5 r0 ?_
            dsimp only [gPush]
            first | refine U_ifB_eq (tgt := 37) dX10_act_26 (by decide) (by with_reducible rfl) (fun c26 => ?_) (fun c26 => ?_) | refine U_if_eq (tgt := 37) dX10_act_26 (by decide) (by with_reducible rfl) (by omega) (fun c26 => ?_) (fun c26 => ?_) | refine V_if_eq (tgt := 37) dX10_act_26 (by decide) (fun c26 => ?_) (fun c26 => ?_)
            · skip
              refine V_iconst (v := -1) dX10_act_37 (by decide) ?_
              refine V_iret dX10_act_38 rfl rfl ?_
              exact hQ9
            · skip
              have ok : (decide (nI k = nI 5) || inS i S.1.1) = true := by rw [c26, Bool.or_true]
              refine V_iloadw4 dX10_act_29 ?_
              refine V_callS1 (μ' := mX10_isSlot) dX10_act_31 okX10_isSlot lX10_114 (Nat.le_of_ble_eq_true rfl) (Nat.le_of_ble_eq_true rfl) (by omega) ?_
              refine m_isSlot (by omega) ?_
              dsimp only [gPush]
              first | refine U_ifB_ne (tgt := 39) dX10_act_34 (by decide) (by with_reducible rfl) (fun c34 => ?_) (fun c34 => ?_) | refine U_if_ne (tgt := 39) dX10_act_34 (by decide) (by with_reducible rfl) (by omega) (fun c34 => ?_) (fun c34 => ?_) | refine V_if_ne (tgt := 39) dX10_act_34 (by decide) (fun c34 => ?_) (fun c34 => ?_)
              · skip
                exact absurd (by rw [c4, c34, hA, ok]; rfl) hg
              · skip
                refine V_iconst (v := -1) dX10_act_37 (by decide) ?_
                refine V_iret dX10_act_38 rfl rfl ?_
                exact hQ9

set_option maxRecDepth 100000 in
set_option maxHeartbeats 4000000 in
theorem m_insert {x y : Int32} (hd : 3 ≤ d) (hR : RM h S) (hWG : WG S) (hQ : ∀ h', RM h' (f_insert S x y).2 → FrD h h' → Q (some (.int (f_insert S x y).1)) h') : V Γ mX10_insert d 124 124 h 0 [some (.ref 94), some (.int x), some (.int y)] [] Q := by
  obtain ⟨hM, ⟨r0, r1, rT, rW⟩, rK, rK2, rB, rS⟩ := id hR
  obtain ⟨hWS, hWK, hWB, hWX⟩ := id hWG
  have hn2 := hWS.1
  have hn5 := hWS.2.1
  by_cases hg : (inB x 6 && inB y 6) = true
  · have hg2 := hg
    rw [Bool.and_eq_true] at hg2
    obtain ⟨s, hs, rfl⟩ := inB_t (by decide) hg2.1
    obtain ⟨q, hq, rfl⟩ := inB_t (by decide) hg2.2
    have hWT := hWS.2.2.1 s hs
    have hWT2 := hWS.2.2.1 q hq
    obtain ⟨t0, tz⟩ := rT s hs
    obtain ⟨u0, uz⟩ := rT q hq
    have kd2 := hWT.1
    have kd2' := hWT2.1
    have hwl := hWT.2.1
    have hlt := hWT.2.2.1
    have eS : tS S (nI s) = S.1.2.2.1 s := by unfold tS; rw [cN_nI (by omega)]
    have eT : tS S (nI q) = S.1.2.2.1 q := by unfold tS; rw [cN_nI (by omega)]
    have eq0 : f_insert S (nI s) (nI q) = _ := if_t hg
    unfold inP at eq0
    rw [eq0, eS, cN_nI (by omega)] at hQ
    have hWI := WT_ins hlt hwl
    obtain ⟨lp, l6⟩ := L_pos hWI
    refine V_iloadn1 dX10_insert_0 ?_
    refine V_callS1 (μ' := mX10_isSlot) dX10_insert_1 okX10_isSlot lX10_114 (Nat.le_of_ble_eq_true rfl) (Nat.le_of_ble_eq_true rfl) (by omega) ?_
    refine m_isSlot (by omega) ?_
    rw [hg2.1]
    dsimp only [gPush]
    first | refine U_ifB_eq (tgt := 14) dX10_insert_4 (by decide) (by with_reducible rfl) (fun c4 => ?_) (fun c4 => ?_) | refine U_if_eq (tgt := 14) dX10_insert_4 (by decide) (by with_reducible rfl) (by omega) (fun c4 => ?_) (fun c4 => ?_) | refine V_if_eq (tgt := 14) dX10_insert_4 (by decide) (fun c4 => ?_) (fun c4 => ?_)
    · skip
      cases c4
    · skip
      refine V_iloadn2 dX10_insert_7 ?_
      refine V_callS1 (μ' := mX10_isSlot) dX10_insert_8 okX10_isSlot lX10_114 (Nat.le_of_ble_eq_true rfl) (Nat.le_of_ble_eq_true rfl) (by omega) ?_
      refine m_isSlot (by omega) ?_
      rw [hg2.2]
      dsimp only [gPush]
      first | refine U_ifB_ne (tgt := 16) dX10_insert_11 (by decide) (by with_reducible rfl) (fun c11 => ?_) (fun c11 => ?_) | refine U_if_ne (tgt := 16) dX10_insert_11 (by decide) (by with_reducible rfl) (by omega) (fun c11 => ?_) (fun c11 => ?_) | refine V_if_ne (tgt := 16) dX10_insert_11 (by decide) (fun c11 => ?_) (fun c11 => ?_)
      · skip
        refine V_aloadn0 dX10_insert_16 ?_
        refine V_getR dX10_insert_17 fX10_16 (by first | assumption | rfl) (by first | decide | omega) (by first | assumption | exact ML_4 (by assumption) | exact ML_5 (by assumption) | exact ML_6 (by assumption) | exact ML_7 (by assumption) | exact ML_8 (by assumption) | exact ML_9 (by assumption) | exact ML_10 (by assumption) | exact ML_11 (by assumption) | exact ML_12 (by assumption) | exact ML_13 (by assumption) | exact ML_15 (by assumption) | exact ML_16 (by assumption) | exact ML_17 (by assumption) | exact ML_20 (by assumption) | exact ML_23 (by assumption) | exact ML_24 (by assumption) | exact ML_30 (by assumption) | exact ML_31 (by assumption) | exact ML_32 (by assumption) | exact ML_33 (by assumption) | exact ML_35 (by assumption) | exact ML_36 (by assumption) | exact ML_37 (by assumption) | exact ML_38 (by assumption) | exact ML_41 (by assumption) | exact ML_42 (by assumption) | exact ML_43 (by assumption) | exact ML_44 (by assumption) | exact ML_45 (by assumption) | rfl) ?_
        refine V_iloadn1 dX10_insert_20 ?_
        refine U_iald dX10_insert_21 (by with_reducible rfl) (by first | assumption | rfl) (by first | decide | omega) (by omega) (by first | assumption | exact ML_4 (by assumption) | exact ML_5 (by assumption) | exact ML_6 (by assumption) | exact ML_7 (by assumption) | exact ML_8 (by assumption) | exact ML_9 (by assumption) | exact ML_10 (by assumption) | exact ML_11 (by assumption) | exact ML_12 (by assumption) | exact ML_13 (by assumption) | exact ML_15 (by assumption) | exact ML_16 (by assumption) | exact ML_17 (by assumption) | exact ML_20 (by assumption) | exact ML_23 (by assumption) | exact ML_24 (by assumption) | exact ML_30 (by assumption) | exact ML_31 (by assumption) | exact ML_32 (by assumption) | exact ML_33 (by assumption) | exact ML_35 (by assumption) | exact ML_36 (by assumption) | exact ML_37 (by assumption) | exact ML_38 (by assumption) | exact ML_41 (by assumption) | exact ML_42 (by assumption) | exact ML_43 (by assumption) | exact ML_44 (by assumption) | exact ML_45 (by assumption) | rfl) ?_
        first | refine U_ifB_ne (tgt := 28) dX10_insert_22 (by decide) (by with_reducible rfl) (fun c22 => ?_) (fun c22 => ?_) | refine U_if_ne (tgt := 28) dX10_insert_22 (by decide) (by with_reducible rfl) (by omega) (fun c22 => ?_) (fun c22 => ?_) | refine V_if_ne (tgt := 28) dX10_insert_22 (by decide) (fun c22 => ?_) (fun c22 => ?_)
        · skip
          rw [if_neg c22] at hQ
          refine V_aloadn0 dX10_insert_28 ?_
          refine V_iloadn1 dX10_insert_29 ?_
          refine V_callV1 (μ' := mX10_takes) dX10_insert_30 okX10_takes lX10_146 rfl (by first | assumption | rfl) (by first | decide | omega) (Nat.le_of_ble_eq_true rfl) (Nat.le_of_ble_eq_true rfl) (by omega) ?_
          refine m_takes hs hR hWT hn5 c22 (fun h1 hk1 hW1 hL1 hR1 hF1 => ?_)
          have hM1 := hR1.1
          dsimp only [gPush]
          refine V_aloadn0 dX10_insert_33 ?_
          refine V_callV0 (μ' := mX10_inserts) dX10_insert_34 okX10_inserts lX10_176 rfl (by first | assumption | rfl) (by first | decide | omega) (Nat.le_of_ble_eq_true rfl) (Nat.le_of_ble_eq_true rfl) (by omega) ?_
          refine m_inserts (by omega) hM1 hW1 (fun h2 hW2 hk2 hC2 hT2 hF2 => ?_)
          have hR2 := RM_X hR1 hF2
          dsimp only [gPush]
          refine V_aloadn0 dX10_insert_37 ?_
          refine V_iloadn2 dX10_insert_38 ?_
          refine V_callV1 (μ' := mX10_lays) dX10_insert_39 okX10_lays lX10_121 rfl (by first | assumption | rfl) (by first | decide | omega) (Nat.le_of_ble_eq_true rfl) (Nat.le_of_ble_eq_true rfl) (by omega) ?_
          refine m_lays hq hR2 hWS (by decide) hk2 hW2 (fun _ => SH_map hC2) (fun z => absurd rfl z) (fun h3 hR3 e3 l3 k3 => ?_)
          have hM3 := hR3.1
          have hQ9 := hQ h3 hR3 ((hF1.tr hF2).D.tr ⟨fun a ha => e3 a (by omega), fun a ha => by rw [l3], k3⟩)
          have hL3 := SH_map (CG_cg hC2 (e3 106 (by omega)) (e3 109 (by omega)))
          dsimp only [gPush]
          refine V_aloadn0 dX10_insert_42 ?_
          refine V_callV0 (μ' := mX10_manyRows) dX10_insert_43 okX10_manyRows lX10_155 rfl (by first | assumption | rfl) (by first | decide | omega) (Nat.le_of_ble_eq_true rfl) (Nat.le_of_ble_eq_true rfl) (by omega) ?_
          refine m_manyRows hM3 hL3 lp l6 ?_
          rw [List.length_map]
          dsimp only [gPush]
          refine V_iret dX10_insert_46 rfl rfl ?_
          exact hQ9
        · skip
          rw [if_pos c22] at hQ
          have hQ9 := hQ h hR FrD.rf
          refine V_bipush (v := -11) dX10_insert_25 (by decide) ?_
          refine V_iret dX10_insert_27 rfl rfl ?_
          exact hQ9
      · skip
        cases c11
  · have eq0 : f_insert S x y = (-1, S) := if_neg hg
    rw [eq0] at hQ
    have hQ9 := hQ h hR FrD.rf
    refine V_iloadn1 dX10_insert_0 ?_
    refine V_callS1 (μ' := mX10_isSlot) dX10_insert_1 okX10_isSlot lX10_114 (Nat.le_of_ble_eq_true rfl) (Nat.le_of_ble_eq_true rfl) (by omega) ?_
    refine m_isSlot (by omega) ?_
    dsimp only [gPush]
    first | refine U_ifB_eq (tgt := 14) dX10_insert_4 (by decide) (by with_reducible rfl) (fun c4 => ?_) (fun c4 => ?_) | refine U_if_eq (tgt := 14) dX10_insert_4 (by decide) (by with_reducible rfl) (by omega) (fun c4 => ?_) (fun c4 => ?_) | refine V_if_eq (tgt := 14) dX10_insert_4 (by decide) (fun c4 => ?_) (fun c4 => ?_)
    · skip
      refine V_iconst (v := -1) dX10_insert_14 (by decide) ?_
      refine V_iret dX10_insert_15 rfl rfl ?_
      exact hQ9
    · skip
      refine V_iloadn2 dX10_insert_7 ?_
      refine V_callS1 (μ' := mX10_isSlot) dX10_insert_8 okX10_isSlot lX10_114 (Nat.le_of_ble_eq_true rfl) (Nat.le_of_ble_eq_true rfl) (by omega) ?_
      refine m_isSlot (by omega) ?_
      dsimp only [gPush]
      first | refine U_ifB_ne (tgt := 16) dX10_insert_11 (by decide) (by with_reducible rfl) (fun c11 => ?_) (fun c11 => ?_) | refine U_if_ne (tgt := 16) dX10_insert_11 (by decide) (by with_reducible rfl) (by omega) (fun c11 => ?_) (fun c11 => ?_) | refine V_if_ne (tgt := 16) dX10_insert_11 (by decide) (fun c11 => ?_) (fun c11 => ?_)
      · skip
        exact absurd (by rw [c4, c11]; rfl) hg
      · skip
        refine V_iconst (v := -1) dX10_insert_14 (by decide) ?_
        refine V_iret dX10_insert_15 rfl rfl ?_
        exact hQ9

set_option maxRecDepth 100000 in
set_option maxHeartbeats 4000000 in
theorem m_record {x r : Int32} (hd : 3 ≤ d) (hR : RM h S) (hWG : WG S) (hQ : ∀ h', RM h' S → FrD h h' → Q (some (.int (g_record S x r))) h') : V Γ mX10_record d 124 124 h 0 [some (.ref 94), some (.int x), some (.int r), none, none] [] Q := by
  obtain ⟨hM, ⟨r0, r1, rT, rW⟩, rK, rK2, rB, rS⟩ := id hR
  obtain ⟨hWS, hWK, hWB, hWX⟩ := id hWG
  have hn2 := hWS.1
  have hn5 := hWS.2.1
  cases hg : inB x 6 with
  | false =>
    have hQ9 := hQ h hR FrD.rf
    have eq0 : g_record S x r = -1 := if_f hg
    rw [eq0] at hQ9
    refine V_iloadn1 dX10_record_0 ?_
    refine V_callS1 (μ' := mX10_isSlot) dX10_record_1 okX10_isSlot lX10_114 (Nat.le_of_ble_eq_true rfl) (Nat.le_of_ble_eq_true rfl) (by omega) ?_
    refine m_isSlot (by omega) ?_
    rw [hg]
    dsimp only [gPush]
    first | refine U_ifB_ne (tgt := 9) dX10_record_4 (by decide) (by with_reducible rfl) (fun c4 => ?_) (fun c4 => ?_) | refine U_if_ne (tgt := 9) dX10_record_4 (by decide) (by with_reducible rfl) (by omega) (fun c4 => ?_) (fun c4 => ?_) | refine V_if_ne (tgt := 9) dX10_record_4 (by decide) (fun c4 => ?_) (fun c4 => ?_)
    · skip
      cases c4
    · skip
      refine V_iconst (v := -1) dX10_record_7 (by decide) ?_
      refine V_iret dX10_record_8 rfl rfl ?_
      exact hQ9
  | true =>
    obtain ⟨s, hs, rfl⟩ := inB_t (by decide) hg
    have hWT := hWS.2.2.1 s hs
    obtain ⟨t0, tz⟩ := rT s hs
    have kd2 := hWT.1
    have hwl := hWT.2.1
    have hlt := hWT.2.2.1
    have eS : tS S (nI s) = S.1.2.2.1 s := by unfold tS; rw [cN_nI (by omega)]
    have eq0 : g_record S (nI s) r = _ := if_t hg
    unfold inP at eq0
    rw [eq0, eS] at hQ
    have hWI := WT_ins hlt hwl
    obtain ⟨lp, l6⟩ := L_pos hWI
    have hT9 : ∀ k r c, ((turW (S.1.2.2.1 s).2.1 k).getD r []).getD c 0 ≤ 1000000 → True := fun _ _ _ _ => trivial
    have loop : ∀ f k h1 q, q < (insW (S.1.2.2.1 s).2.1 (S.1.2.2.1 s).2.1.length).length → k + f = ((insW (S.1.2.2.1 s).2.1 (S.1.2.2.1 s).2.1.length).getD q []).length → MLay h1 → CG h1 (insW (S.1.2.2.1 s).2.1 (S.1.2.2.1 s).2.1.length) → CT h1 (insW (S.1.2.2.1 s).2.1 (S.1.2.2.1 s).2.1.length) (turW (S.1.2.2.1 s).2.1 (S.1.2.2.1 s).2.1.length) → Q (some (.int (nI (numF ((turW (S.1.2.2.1 s).2.1 (S.1.2.2.1 s).2.1.length).getD q []) 0 ((insW (S.1.2.2.1 s).2.1 (S.1.2.2.1 s).2.1.length).getD q []).length)))) h1 → V Γ mX10_record d 124 124 h1 52 [some (.ref 94), some (.int (nI s)), some (.int (nI q)), some (.int (nI (numF ((turW (S.1.2.2.1 s).2.1 (S.1.2.2.1 s).2.1.length).getD q []) 0 k))), some (.int (nI k))] [] Q := by
      generalize insW (S.1.2.2.1 s).2.1 (S.1.2.2.1 s).2.1.length = P
      generalize turW (S.1.2.2.1 s).2.1 (S.1.2.2.1 s).2.1.length = T
      intro f
      induction f with
      | zero =>
        intro k h1 q hq hk hM1 hC hT hQ1
        have h6 := hC.2.2.1
        have hr6 := CG_row6 hC q
        have g106 := hC.1 q (by omega)
        rw [show k = (P.getD q []).length by omega]
        refine V_iloadw4 dX10_record_52 ?_
        refine V_aloadn0 dX10_record_54 ?_
        refine V_getR dX10_record_55 fX10_50 (by first | assumption | rfl) (by first | decide | omega) (by first | assumption | exact ML_4 (by assumption) | exact ML_5 (by assumption) | exact ML_6 (by assumption) | exact ML_7 (by assumption) | exact ML_8 (by assumption) | exact ML_9 (by assumption) | exact ML_10 (by assumption) | exact ML_11 (by assumption) | exact ML_12 (by assumption) | exact ML_13 (by assumption) | exact ML_15 (by assumption) | exact ML_16 (by assumption) | exact ML_17 (by assumption) | exact ML_20 (by assumption) | exact ML_23 (by assumption) | exact ML_24 (by assumption) | exact ML_30 (by assumption) | exact ML_31 (by assumption) | exact ML_32 (by assumption) | exact ML_33 (by assumption) | exact ML_35 (by assumption) | exact ML_36 (by assumption) | exact ML_37 (by assumption) | exact ML_38 (by assumption) | exact ML_41 (by assumption) | exact ML_42 (by assumption) | exact ML_43 (by assumption) | exact ML_44 (by assumption) | exact ML_45 (by assumption) | rfl) ?_
        refine V_iloadn2 dX10_record_58 ?_
        refine U_iald dX10_record_59 (by with_reducible rfl) (by first | assumption | rfl) (by first | decide | omega) (by omega) (by first | assumption | exact ML_4 (by assumption) | exact ML_5 (by assumption) | exact ML_6 (by assumption) | exact ML_7 (by assumption) | exact ML_8 (by assumption) | exact ML_9 (by assumption) | exact ML_10 (by assumption) | exact ML_11 (by assumption) | exact ML_12 (by assumption) | exact ML_13 (by assumption) | exact ML_15 (by assumption) | exact ML_16 (by assumption) | exact ML_17 (by assumption) | exact ML_20 (by assumption) | exact ML_23 (by assumption) | exact ML_24 (by assumption) | exact ML_30 (by assumption) | exact ML_31 (by assumption) | exact ML_32 (by assumption) | exact ML_33 (by assumption) | exact ML_35 (by assumption) | exact ML_36 (by assumption) | exact ML_37 (by assumption) | exact ML_38 (by assumption) | exact ML_41 (by assumption) | exact ML_42 (by assumption) | exact ML_43 (by assumption) | exact ML_44 (by assumption) | exact ML_45 (by assumption) | rfl) ?_
        first | refine U_icmp_ge (tgt := 87) dX10_record_60 (by decide) (by with_reducible rfl) (by with_reducible rfl) (by omega) (by omega) (fun c60 => ?_) (fun c60 => ?_) | refine V_icmp_ge (tgt := 87) dX10_record_60 (by decide) (fun c60 => ?_) (fun c60 => ?_)
        · skip
          refine V_iloadn3 dX10_record_87 ?_
          refine V_iret dX10_record_88 rfl rfl ?_
          exact hQ1
        · skip
          omega
      | succ f ih =>
        intro k h1 q hq hk hM1 hC hT hQ1
        have h6 := hC.2.2.1
        have hr6 := CG_row6 hC q
        have g106 := hC.1 q (by omega)
        have g115 := hT q k (by omega) (by omega)
        have e : 10 * numF (T.getD q []) 0 k + (T.getD q []).getD k 0 = numF (T.getD q []) 0 (k + 1) := by rw [numF, Nat.zero_add]; omega
        refine V_iloadw4 dX10_record_52 ?_
        refine V_aloadn0 dX10_record_54 ?_
        refine V_getR dX10_record_55 fX10_50 (by first | assumption | rfl) (by first | decide | omega) (by first | assumption | exact ML_4 (by assumption) | exact ML_5 (by assumption) | exact ML_6 (by assumption) | exact ML_7 (by assumption) | exact ML_8 (by assumption) | exact ML_9 (by assumption) | exact ML_10 (by assumption) | exact ML_11 (by assumption) | exact ML_12 (by assumption) | exact ML_13 (by assumption) | exact ML_15 (by assumption) | exact ML_16 (by assumption) | exact ML_17 (by assumption) | exact ML_20 (by assumption) | exact ML_23 (by assumption) | exact ML_24 (by assumption) | exact ML_30 (by assumption) | exact ML_31 (by assumption) | exact ML_32 (by assumption) | exact ML_33 (by assumption) | exact ML_35 (by assumption) | exact ML_36 (by assumption) | exact ML_37 (by assumption) | exact ML_38 (by assumption) | exact ML_41 (by assumption) | exact ML_42 (by assumption) | exact ML_43 (by assumption) | exact ML_44 (by assumption) | exact ML_45 (by assumption) | rfl) ?_
        refine V_iloadn2 dX10_record_58 ?_
        refine U_iald dX10_record_59 (by with_reducible rfl) (by first | assumption | rfl) (by first | decide | omega) (by omega) (by first | assumption | exact ML_4 (by assumption) | exact ML_5 (by assumption) | exact ML_6 (by assumption) | exact ML_7 (by assumption) | exact ML_8 (by assumption) | exact ML_9 (by assumption) | exact ML_10 (by assumption) | exact ML_11 (by assumption) | exact ML_12 (by assumption) | exact ML_13 (by assumption) | exact ML_15 (by assumption) | exact ML_16 (by assumption) | exact ML_17 (by assumption) | exact ML_20 (by assumption) | exact ML_23 (by assumption) | exact ML_24 (by assumption) | exact ML_30 (by assumption) | exact ML_31 (by assumption) | exact ML_32 (by assumption) | exact ML_33 (by assumption) | exact ML_35 (by assumption) | exact ML_36 (by assumption) | exact ML_37 (by assumption) | exact ML_38 (by assumption) | exact ML_41 (by assumption) | exact ML_42 (by assumption) | exact ML_43 (by assumption) | exact ML_44 (by assumption) | exact ML_45 (by assumption) | rfl) ?_
        first | refine U_icmp_ge (tgt := 87) dX10_record_60 (by decide) (by with_reducible rfl) (by with_reducible rfl) (by omega) (by omega) (fun c60 => ?_) (fun c60 => ?_) | refine V_icmp_ge (tgt := 87) dX10_record_60 (by decide) (fun c60 => ?_) (fun c60 => ?_)
        · skip
          omega
        · skip
          refine V_bipush (v := nI 10) dX10_record_63 (by decide) ?_
          refine V_iloadn3 dX10_record_65 ?_
          first | refine U_imul dX10_record_66 (by with_reducible rfl) (by with_reducible rfl) ?_ | refine V_imul dX10_record_66 ?_
          refine V_aloadn0 dX10_record_67 ?_
          refine V_getR dX10_record_68 fX10_77 (by first | assumption | rfl) (by first | decide | omega) (by first | assumption | exact ML_4 (by assumption) | exact ML_5 (by assumption) | exact ML_6 (by assumption) | exact ML_7 (by assumption) | exact ML_8 (by assumption) | exact ML_9 (by assumption) | exact ML_10 (by assumption) | exact ML_11 (by assumption) | exact ML_12 (by assumption) | exact ML_13 (by assumption) | exact ML_15 (by assumption) | exact ML_16 (by assumption) | exact ML_17 (by assumption) | exact ML_20 (by assumption) | exact ML_23 (by assumption) | exact ML_24 (by assumption) | exact ML_30 (by assumption) | exact ML_31 (by assumption) | exact ML_32 (by assumption) | exact ML_33 (by assumption) | exact ML_35 (by assumption) | exact ML_36 (by assumption) | exact ML_37 (by assumption) | exact ML_38 (by assumption) | exact ML_41 (by assumption) | exact ML_42 (by assumption) | exact ML_43 (by assumption) | exact ML_44 (by assumption) | exact ML_45 (by assumption) | rfl) ?_
          refine V_bipush (v := nI 6) dX10_record_71 (by decide) ?_
          refine V_iloadn2 dX10_record_73 ?_
          first | refine U_imul dX10_record_74 (by with_reducible rfl) (by with_reducible rfl) ?_ | refine V_imul dX10_record_74 ?_
          refine V_iloadw4 dX10_record_75 ?_
          first | refine U_iadd dX10_record_77 (by with_reducible rfl) (by with_reducible rfl) ?_ | refine V_iadd dX10_record_77 ?_
          refine U_iald dX10_record_78 (by with_reducible rfl) (by first | assumption | rfl) (by first | decide | omega) (by omega) (by first | assumption | exact ML_4 (by assumption) | exact ML_5 (by assumption) | exact ML_6 (by assumption) | exact ML_7 (by assumption) | exact ML_8 (by assumption) | exact ML_9 (by assumption) | exact ML_10 (by assumption) | exact ML_11 (by assumption) | exact ML_12 (by assumption) | exact ML_13 (by assumption) | exact ML_15 (by assumption) | exact ML_16 (by assumption) | exact ML_17 (by assumption) | exact ML_20 (by assumption) | exact ML_23 (by assumption) | exact ML_24 (by assumption) | exact ML_30 (by assumption) | exact ML_31 (by assumption) | exact ML_32 (by assumption) | exact ML_33 (by assumption) | exact ML_35 (by assumption) | exact ML_36 (by assumption) | exact ML_37 (by assumption) | exact ML_38 (by assumption) | exact ML_41 (by assumption) | exact ML_42 (by assumption) | exact ML_43 (by assumption) | exact ML_44 (by assumption) | exact ML_45 (by assumption) | rfl) ?_
          first | refine U_iadd dX10_record_79 (by with_reducible rfl) (by with_reducible rfl) ?_ | refine V_iadd dX10_record_79 ?_
          refine V_istoren3 dX10_record_80 (by decide) rfl ?_
          refine V_iinc4 dX10_record_81 (by first | exact ginc1 _ | rfl) (by decide) rfl ?_
          refine V_goto (tgt := 52) dX10_record_84 (by decide) ?_
          rw [e]
          exact ih (k + 1) h1 q hq (by omega) hM1 hC hT hQ1
    refine V_iloadn1 dX10_record_0 ?_
    refine V_callS1 (μ' := mX10_isSlot) dX10_record_1 okX10_isSlot lX10_114 (Nat.le_of_ble_eq_true rfl) (Nat.le_of_ble_eq_true rfl) (by omega) ?_
    refine m_isSlot (by omega) ?_
    rw [hg]
    dsimp only [gPush]
    first | refine U_ifB_ne (tgt := 9) dX10_record_4 (by decide) (by with_reducible rfl) (fun c4 => ?_) (fun c4 => ?_) | refine U_if_ne (tgt := 9) dX10_record_4 (by decide) (by with_reducible rfl) (by omega) (fun c4 => ?_) (fun c4 => ?_) | refine V_if_ne (tgt := 9) dX10_record_4 (by decide) (fun c4 => ?_) (fun c4 => ?_)
    · skip
      refine V_aloadn0 dX10_record_9 ?_
      refine V_getR dX10_record_10 fX10_16 (by first | assumption | rfl) (by first | decide | omega) (by first | assumption | exact ML_4 (by assumption) | exact ML_5 (by assumption) | exact ML_6 (by assumption) | exact ML_7 (by assumption) | exact ML_8 (by assumption) | exact ML_9 (by assumption) | exact ML_10 (by assumption) | exact ML_11 (by assumption) | exact ML_12 (by assumption) | exact ML_13 (by assumption) | exact ML_15 (by assumption) | exact ML_16 (by assumption) | exact ML_17 (by assumption) | exact ML_20 (by assumption) | exact ML_23 (by assumption) | exact ML_24 (by assumption) | exact ML_30 (by assumption) | exact ML_31 (by assumption) | exact ML_32 (by assumption) | exact ML_33 (by assumption) | exact ML_35 (by assumption) | exact ML_36 (by assumption) | exact ML_37 (by assumption) | exact ML_38 (by assumption) | exact ML_41 (by assumption) | exact ML_42 (by assumption) | exact ML_43 (by assumption) | exact ML_44 (by assumption) | exact ML_45 (by assumption) | rfl) ?_
      refine V_iloadn1 dX10_record_13 ?_
      refine U_iald dX10_record_14 (by with_reducible rfl) (by first | assumption | rfl) (by first | decide | omega) (by omega) (by first | assumption | exact ML_4 (by assumption) | exact ML_5 (by assumption) | exact ML_6 (by assumption) | exact ML_7 (by assumption) | exact ML_8 (by assumption) | exact ML_9 (by assumption) | exact ML_10 (by assumption) | exact ML_11 (by assumption) | exact ML_12 (by assumption) | exact ML_13 (by assumption) | exact ML_15 (by assumption) | exact ML_16 (by assumption) | exact ML_17 (by assumption) | exact ML_20 (by assumption) | exact ML_23 (by assumption) | exact ML_24 (by assumption) | exact ML_30 (by assumption) | exact ML_31 (by assumption) | exact ML_32 (by assumption) | exact ML_33 (by assumption) | exact ML_35 (by assumption) | exact ML_36 (by assumption) | exact ML_37 (by assumption) | exact ML_38 (by assumption) | exact ML_41 (by assumption) | exact ML_42 (by assumption) | exact ML_43 (by assumption) | exact ML_44 (by assumption) | exact ML_45 (by assumption) | rfl) ?_
      first | refine U_ifB_ne (tgt := 21) dX10_record_15 (by decide) (by with_reducible rfl) (fun c15 => ?_) (fun c15 => ?_) | refine U_if_ne (tgt := 21) dX10_record_15 (by decide) (by with_reducible rfl) (by omega) (fun c15 => ?_) (fun c15 => ?_) | refine V_if_ne (tgt := 21) dX10_record_15 (by decide) (fun c15 => ?_) (fun c15 => ?_)
      · skip
        rw [if_neg c15] at hQ
        refine V_aloadn0 dX10_record_21 ?_
        refine V_iloadn1 dX10_record_22 ?_
        refine V_callV1 (μ' := mX10_takes) dX10_record_23 okX10_takes lX10_146 rfl (by first | assumption | rfl) (by first | decide | omega) (Nat.le_of_ble_eq_true rfl) (Nat.le_of_ble_eq_true rfl) (by omega) ?_
        refine m_takes hs hR hWT hn5 c15 (fun h1 hk1 hW1 hL1 hR1 hF1 => ?_)
        have hM1 := hR1.1
        dsimp only [gPush]
        refine V_aloadn0 dX10_record_26 ?_
        refine V_callV0 (μ' := mX10_inserts) dX10_record_27 okX10_inserts lX10_176 rfl (by first | assumption | rfl) (by first | decide | omega) (Nat.le_of_ble_eq_true rfl) (Nat.le_of_ble_eq_true rfl) (by omega) ?_
        refine m_inserts (by omega) hM1 hW1 (fun h2 hW2 hk2 hC2 hT2 hF2 => ?_)
        have hR2 := RM_X hR1 hF2
        have hM2 := hR2.1
        have hQ9 := hQ h2 hR2 (hF1.tr hF2).D
        dsimp only [gPush]
        refine V_iloadn2 dX10_record_30 ?_
        refine V_iconst (v := nI 0) dX10_record_31 (by decide) ?_
        refine V_aloadn0 dX10_record_32 ?_
        refine V_callV0 (μ' := mX10_manyRows) dX10_record_33 okX10_manyRows lX10_155 rfl (by first | assumption | rfl) (by first | decide | omega) (Nat.le_of_ble_eq_true rfl) (Nat.le_of_ble_eq_true rfl) (by omega) ?_
        refine m_manyRows hM2 (SH_map hC2) lp l6 ?_
        rw [List.length_map]
        dsimp only [gPush]
        refine V_iconst (v := nI 1) dX10_record_36 (by decide) ?_
        refine V_isub dX10_record_37 ?_
        refine V_callS3 (μ' := mX10_in) dX10_record_38 okX10_in lX10_104 (Nat.le_of_ble_eq_true rfl) (Nat.le_of_ble_eq_true rfl) (by omega) ?_
        refine m_in ?_
        rw [inD_B r (by have := hC2.2.2.1; omega)]
        dsimp only [gPush]
        first | refine U_ifB_ne (tgt := 47) dX10_record_41 (by decide) (by with_reducible rfl) (fun c41 => ?_) (fun c41 => ?_) | refine U_if_ne (tgt := 47) dX10_record_41 (by decide) (by with_reducible rfl) (by omega) (fun c41 => ?_) (fun c41 => ?_) | refine V_if_ne (tgt := 47) dX10_record_41 (by decide) (fun c41 => ?_) (fun c41 => ?_)
        · skip
          obtain ⟨q, hq, rfl⟩ := inB_t (by have := hC2.2.2.1; omega) c41
          rw [if_t c41, cN_nI (by have := hC2.2.2.1; omega)] at hQ9
          refine V_iconst (v := nI 0) dX10_record_47 (by decide) ?_
          refine V_istoren3 dX10_record_48 (by decide) rfl ?_
          refine V_iconst (v := nI 0) dX10_record_49 (by decide) ?_
          refine V_istorew4 dX10_record_50 (by decide) rfl ?_
          exact loop _ 0 h2 q hq (Nat.zero_add _) hM2 hC2 hT2 hQ9
        · skip
          rw [if_f c41] at hQ9
          refine V_bipush (v := -12) dX10_record_44 (by decide) ?_
          refine V_iret dX10_record_46 rfl rfl ?_
          exact hQ9
      · skip
        rw [if_pos c15] at hQ
        have hQ9 := hQ h hR FrD.rf
        refine V_bipush (v := -11) dX10_record_18 (by decide) ?_
        refine V_iret dX10_record_20 rfl rfl ?_
        exact hQ9
    · skip
      cases c4

/-- a number and digits to the base 7 behind it -/
def b7 (v : Nat) (L : List Nat) : Nat → Nat
  | 0 => v
  | k + 1 => 7 * b7 v L k + L.getD k 0
theorem b7_inj {v v' : Nat} {L L' : List Nat} (h : ∀ k, L.getD k 0 ≤ 6) (h' : ∀ k, L'.getD k 0 ≤ 6) : ∀ k, b7 v L k = b7 v' L' k → v = v' ∧ ∀ j, j < k → L.getD j 0 = L'.getD j 0
  | 0, e => ⟨e, fun j hj => absurd hj (Nat.not_lt_zero _)⟩
  | k + 1, e => by
    unfold b7 at e
    have h1 := h k
    have h2 := h' k
    obtain ⟨e1, e2⟩ := b7_inj (v := v) (v' := v') h h' k (by omega)
    refine ⟨e1, fun j hj => ?_⟩
    by_cases q : j = k
    · subst q; omega
    · exact e2 j (by omega)
theorem b7_lt {v : Nat} {L : List Nat} (h : ∀ k, L.getD k 0 ≤ 6) : ∀ k, b7 v L k < (v + 1) * 7 ^ k
  | 0 => by simp [b7]
  | k + 1 => by
    have ih := b7_lt (v := v) h k
    have h1 := h k
    unfold b7
    rw [Nat.pow_succ, ← Nat.mul_assoc]
    omega
theorem numW_inj {n : Nat} {w w' : List Nat} (hn : n ≤ 5) (hw : LtW n w) (hw' : LtW n w') (e : numF w 0 w.length = numF w' 0 w'.length) : w = w' := by
  have low : ∀ (v : List Nat), LtW n v → ∀ k, k ≤ v.length → 0 < k → 10 ^ (k - 1) ≤ numF v 0 k := by
    intro v hv k
    induction k with
    | zero => intro _ h; exact absurd h (Nat.lt_irrefl _)
    | succ k ih =>
      intro hk _
      have h1 := hv k (by omega)
      rw [numF, Nat.zero_add]
      by_cases k0 : k = 0
      · subst k0
        show 1 ≤ 0 * 10 + v.getD 0 0
        omega
      · have := ih (by omega) (by omega)
        rw [show k + 1 - 1 = (k - 1) + 1 by omega, Nat.pow_succ]
        omega
  have hl : w.length = w'.length := by
    have a1 := numF_lt (LtW9 hw hn) w.length
    have a2 := numF_lt (LtW9 hw' hn) w'.length
    rcases Nat.lt_trichotomy w.length w'.length with c | c | c
    · have h1 := low w' hw' w'.length (Nat.le_refl _) (by omega)
      have h2 : 10 ^ w.length ≤ 10 ^ (w'.length - 1) := Nat.pow_le_pow_right (by decide) (by omega)
      omega
    · exact c
    · have h1 := low w hw w.length (Nat.le_refl _) (by omega)
      have h2 : 10 ^ w'.length ≤ 10 ^ (w.length - 1) := Nat.pow_le_pow_right (by decide) (by omega)
      omega
  exact (num_inj hl (LtW9 hw hn) (LtW9 hw' hn)).mp e
def inV (w : List Nat) : Nat := b7 (numF (rdL (insW w w.length)) 0 (rdL (insW w w.length)).length) ((insW w w.length).map List.length) 6
set_option maxRecDepth 100000 in
set_option maxHeartbeats 4000000 in
theorem m_inserted {s : Nat} (hd : 2 ≤ d) (hs : s < 6) (hR : RM h S) (hWG : WG S) (hz : (S.1.2.2.1 s).1 ≠ 0) (hQ : ∀ h', RM h' S → FrX h h' → Q (some (.long (lN (inV (S.1.2.2.1 s).2.1)))) h') : V Γ mX10_inserted d 124 124 h 0 [some (.ref 94), some (.int (nI s)), none, none, none] [] Q := by
  obtain ⟨hM, ⟨r0, r1, rT, rW⟩, rK, rK2, rB, rS⟩ := id hR
  have hWS := hWG.1
  have hn5 := hWS.2.1
  have hWT := hWS.2.2.1 s hs
  have hWI := WT_ins hWT.2.2.1 hWT.2.1
  have hnb := numF_b (LtW9 hWI.2.2.1 hn5) hWI.2.1
  unfold inV at hQ
  generalize hww : (S.1.2.2.1 s).2.1 = w at hWI hnb hQ
  generalize hPP : insW w w.length = P at hWI hnb hQ
  have hnb' : numF (rdL P) 0 (rdL P).length < 1000000 := hnb
  have loop : ∀ f k h1, k + f = 6 → MLay h1 → CG h1 P → RM h1 S → FrX h h1 → V Γ mX10_inserted d 124 124 h1 18 [some (.ref 94), some (.int (nI s)), some (.long (lN (b7 (numF (rdL P) 0 (rdL P).length) (P.map List.length) k))), none, some (.int (nI k))] [] Q := by
    intro f
    induction f with
    | zero =>
      intro k h1 hk hM1 hC hR1 hF
      have ek : k = 6 := by omega
      subst ek
      refine V_iloadw4 dX10_inserted_18 ?_
      refine V_bipush (v := nI 6) dX10_inserted_20 (by decide) ?_
      first | refine U_icmp_ge (tgt := 46) dX10_inserted_22 (by decide) (by with_reducible rfl) (by with_reducible rfl) (by omega) (by omega) (fun c22 => ?_) (fun c22 => ?_) | refine V_icmp_ge (tgt := 46) dX10_inserted_22 (by decide) (fun c22 => ?_) (fun c22 => ?_)
      · skip
        refine V_lloadn2 dX10_inserted_46 ?_
        refine V_lret dX10_inserted_47 rfl ?_
        exact hQ h1 hR1 hF
      · skip
        omega
    | succ f ih =>
      intro k h1 hk hM1 hC hR1 hF
      have g106 := (SH_map hC).1 k (by omega)
      have h6 := (SH_map hC).2 k
      have e7 : (7 : Int64) * lN (b7 (numF (rdL P) 0 (rdL P).length) (P.map List.length) k) + lN ((P.map List.length).getD k 0) = lN (b7 (numF (rdL P) 0 (rdL P).length) (P.map List.length) (k + 1)) := by
        show lN 7 * _ + _ = _
        rw [lN_mul, lN_add]; rfl
      refine V_iloadw4 dX10_inserted_18 ?_
      refine V_bipush (v := nI 6) dX10_inserted_20 (by decide) ?_
      first | refine U_icmp_ge (tgt := 46) dX10_inserted_22 (by decide) (by with_reducible rfl) (by with_reducible rfl) (by omega) (by omega) (fun c22 => ?_) (fun c22 => ?_) | refine V_icmp_ge (tgt := 46) dX10_inserted_22 (by decide) (fun c22 => ?_) (fun c22 => ?_)
      · skip
        omega
      · skip
        refine V_ldc2 (v := 7) dX10_inserted_25 kX10_246 ?_
        refine V_lloadn2 dX10_inserted_28 ?_
        refine V_lmul dX10_inserted_29 ?_
        refine V_aloadn0 dX10_inserted_30 ?_
        refine V_getR dX10_inserted_31 fX10_50 (by first | assumption | rfl) (by first | decide | omega) (by first | assumption | exact ML_4 (by assumption) | exact ML_5 (by assumption) | exact ML_6 (by assumption) | exact ML_7 (by assumption) | exact ML_8 (by assumption) | exact ML_9 (by assumption) | exact ML_10 (by assumption) | exact ML_11 (by assumption) | exact ML_12 (by assumption) | exact ML_13 (by assumption) | exact ML_15 (by assumption) | exact ML_16 (by assumption) | exact ML_17 (by assumption) | exact ML_20 (by assumption) | exact ML_23 (by assumption) | exact ML_24 (by assumption) | exact ML_30 (by assumption) | exact ML_31 (by assumption) | exact ML_32 (by assumption) | exact ML_33 (by assumption) | exact ML_35 (by assumption) | exact ML_36 (by assumption) | exact ML_37 (by assumption) | exact ML_38 (by assumption) | exact ML_41 (by assumption) | exact ML_42 (by assumption) | exact ML_43 (by assumption) | exact ML_44 (by assumption) | exact ML_45 (by assumption) | rfl) ?_
        refine V_iloadw4 dX10_inserted_34 ?_
        refine U_iald dX10_inserted_36 (by with_reducible rfl) (by first | assumption | rfl) (by first | decide | omega) (by omega) (by first | assumption | exact ML_4 (by assumption) | exact ML_5 (by assumption) | exact ML_6 (by assumption) | exact ML_7 (by assumption) | exact ML_8 (by assumption) | exact ML_9 (by assumption) | exact ML_10 (by assumption) | exact ML_11 (by assumption) | exact ML_12 (by assumption) | exact ML_13 (by assumption) | exact ML_15 (by assumption) | exact ML_16 (by assumption) | exact ML_17 (by assumption) | exact ML_20 (by assumption) | exact ML_23 (by assumption) | exact ML_24 (by assumption) | exact ML_30 (by assumption) | exact ML_31 (by assumption) | exact ML_32 (by assumption) | exact ML_33 (by assumption) | exact ML_35 (by assumption) | exact ML_36 (by assumption) | exact ML_37 (by assumption) | exact ML_38 (by assumption) | exact ML_41 (by assumption) | exact ML_42 (by assumption) | exact ML_43 (by assumption) | exact ML_44 (by assumption) | exact ML_45 (by assumption) | rfl) ?_
        first | refine U_i2l dX10_inserted_37 (by with_reducible rfl) (by omega) ?_ | refine V_i2l dX10_inserted_37 rfl ?_
        refine V_ladd dX10_inserted_38 ?_
        refine V_topL e7 ?_
        refine V_lstoren2 dX10_inserted_39 (by decide) rfl ?_
        refine V_iinc4 dX10_inserted_40 (by first | exact ginc1 _ | rfl) (by decide) rfl ?_
        refine V_goto (tgt := 18) dX10_inserted_43 (by decide) ?_
        exact ih (k + 1) h1 (by omega) hM1 hC hR1 hF
  refine V_aloadn0 dX10_inserted_0 ?_
  refine V_iloadn1 dX10_inserted_1 ?_
  refine V_callV1 (μ' := mX10_takes) dX10_inserted_2 okX10_takes lX10_146 rfl (by first | assumption | rfl) (by first | decide | omega) (Nat.le_of_ble_eq_true rfl) (Nat.le_of_ble_eq_true rfl) (by omega) ?_
  refine m_takes hs hR hWT hn5 hz (fun h1 hk1 hW1 hL1 hR1 hF1 => ?_)
  have hM1 := hR1.1
  rw [hww] at hW1
  dsimp only [gPush]
  refine V_aloadn0 dX10_inserted_5 ?_
  refine V_callV0 (μ' := mX10_inserts) dX10_inserted_6 okX10_inserts lX10_176 rfl (by first | assumption | rfl) (by first | decide | omega) (Nat.le_of_ble_eq_true rfl) (Nat.le_of_ble_eq_true rfl) (by omega) ?_
  refine m_inserts (by omega) hM1 hW1 (fun h2 hW2 hk2 hC2 hT2 hF2 => ?_)
  have hR2 := RM_X hR1 hF2
  have hM2 := hR2.1
  rw [hPP] at hW2 hC2
  dsimp only [gPush]
  refine V_aloadn0 dX10_inserted_9 ?_
  refine V_callV0 (μ' := mX10_read) dX10_inserted_10 okX10_read lX10_149 rfl (by first | assumption | rfl) (by first | decide | omega) (Nat.le_of_ble_eq_true rfl) (Nat.le_of_ble_eq_true rfl) (by omega) ?_
  refine m_read hM2 hW2 ?_
  dsimp only [gPush]
  first | refine U_i2l dX10_inserted_13 (by with_reducible rfl) (by omega) ?_ | refine V_i2l dX10_inserted_13 rfl ?_
  refine V_lstoren2 dX10_inserted_14 (by decide) rfl ?_
  refine V_iconst (v := nI 0) dX10_inserted_15 (by decide) ?_
  refine V_istorew4 dX10_inserted_16 (by decide) rfl ?_
  exact loop 6 0 h2 rfl hM2 hC2 hR2 (hF1.tr hF2)

set_option maxRecDepth 100000 in
set_option maxHeartbeats 4000000 in
theorem m_alike {x y : Int32} (hd : 3 ≤ d) (hR : RM h S) (hWG : WG S) (hQ : ∀ h', RM h' S → FrD h h' → Q (some (.int (g_alike S x y))) h') : V Γ mX10_alike d 124 124 h 0 [some (.ref 94), some (.int x), some (.int y)] [] Q := by
  obtain ⟨hM, ⟨r0, r1, rT, rW⟩, rK, rK2, rB, rS⟩ := id hR
  obtain ⟨hWS, hWK, hWB, hWX⟩ := id hWG
  have hn2 := hWS.1
  have hn5 := hWS.2.1
  by_cases hg : (inB x 6 && inB y 6) = true
  · have hg2 := hg
    rw [Bool.and_eq_true] at hg2
    obtain ⟨s, hs, rfl⟩ := inB_t (by decide) hg2.1
    obtain ⟨q, hq, rfl⟩ := inB_t (by decide) hg2.2
    have hWT := hWS.2.2.1 s hs
    have hWT2 := hWS.2.2.1 q hq
    obtain ⟨t0, tz⟩ := rT s hs
    obtain ⟨u0, uz⟩ := rT q hq
    have kd2 := hWT.1
    have kd2' := hWT2.1
    have hwl := hWT.2.1
    have hlt := hWT.2.2.1
    have eS : tS S (nI s) = S.1.2.2.1 s := by unfold tS; rw [cN_nI (by omega)]
    have eT : tS S (nI q) = S.1.2.2.1 q := by unfold tS; rw [cN_nI (by omega)]
    have eq0 : g_alike S (nI s) (nI q) = _ := if_t hg
    unfold inP at eq0
    rw [eq0, eS, eT] at hQ
    have hwl2 := hWT2.2.1
    have hlt2 := hWT2.2.2.1
    have hWI := WT_ins hlt hwl
    have hWI2 := WT_ins hlt2 hwl2
    have key : lN (inV (S.1.2.2.1 s).2.1) = lN (inV (S.1.2.2.1 q).2.1) ↔ (rdL (insW (S.1.2.2.1 s).2.1 (S.1.2.2.1 s).2.1.length) = rdL (insW (S.1.2.2.1 q).2.1 (S.1.2.2.1 q).2.1.length) ∧ (insW (S.1.2.2.1 s).2.1 (S.1.2.2.1 s).2.1.length).map List.length = (insW (S.1.2.2.1 q).2.1 (S.1.2.2.1 q).2.1.length).map List.length) := by
      have sz1 := insW_sz (S.1.2.2.1 s).2.1 (S.1.2.2.1 s).2.1.length
      have sz2 := insW_sz (S.1.2.2.1 q).2.1 (S.1.2.2.1 q).2.1.length
      have l1 : (insW (S.1.2.2.1 s).2.1 (S.1.2.2.1 s).2.1.length).length ≤ 6 := by have := neL_len _ (insW_ne (S.1.2.2.1 s).2.1 (S.1.2.2.1 s).2.1.length); omega
      have l2 : (insW (S.1.2.2.1 q).2.1 (S.1.2.2.1 q).2.1.length).length ≤ 6 := by have := neL_len _ (insW_ne (S.1.2.2.1 q).2.1 (S.1.2.2.1 q).2.1.length); omega
      have p1 := (L_pos hWI).1
      have p2 := (L_pos hWI2).1
      unfold inV
      have c1 := numF_b (LtW9 hWI.2.2.1 hn5) hWI.2.1
      have c2 := numF_b (LtW9 hWI2.2.2.1 hn5) hWI2.2.1
      have d1 : ∀ k, ((insW (S.1.2.2.1 s).2.1 (S.1.2.2.1 s).2.1.length).map List.length).getD k 0 ≤ 6 := fun k => by rw [getD_maplen]; have := row_le_sz (insW (S.1.2.2.1 s).2.1 (S.1.2.2.1 s).2.1.length) k; omega
      have d2 : ∀ k, ((insW (S.1.2.2.1 q).2.1 (S.1.2.2.1 q).2.1.length).map List.length).getD k 0 ≤ 6 := fun k => by rw [getD_maplen]; have := row_le_sz (insW (S.1.2.2.1 q).2.1 (S.1.2.2.1 q).2.1.length) k; omega
      have inj := numW_inj hn5 hWI.2.2.1 hWI2.2.2.1
      generalize insW (S.1.2.2.1 s).2.1 (S.1.2.2.1 s).2.1.length = P at *
      generalize insW (S.1.2.2.1 q).2.1 (S.1.2.2.1 q).2.1.length = P' at *
      have c1' : numF (rdL P) 0 (rdL P).length < 1000000 := c1
      have c2' : numF (rdL P') 0 (rdL P').length < 1000000 := c2
      constructor
      · intro e
        have b1 := b7_lt (v := numF (rdL P) 0 (rdL P).length) d1 6
        have b2 := b7_lt (v := numF (rdL P') 0 (rdL P').length) d2 6
        have e2 : (lN (b7 (numF (rdL P) 0 (rdL P).length) (P.map List.length) 6)).toBitVec.toNat = (lN (b7 (numF (rdL P') 0 (rdL P').length) (P'.map List.length) 6)).toBitVec.toNat := congrArg (fun z : Int64 => z.toBitVec.toNat) e
        rw [wb_tn (by omega), wb_tn (by omega)] at e2
        obtain ⟨i1, i2⟩ := b7_inj d1 d2 6 e2
        refine ⟨inj i1, ?_⟩
        have hlen : (P.map List.length).length = (P'.map List.length).length := by
          rw [List.length_map, List.length_map]
          have q1 : ∀ r, r < P.length → 0 < (P.map List.length).getD r 0 := fun r hr => p1 r (by show r < (P.map List.length).length; rw [List.length_map]; exact hr)
          have q2 : ∀ r, r < P'.length → 0 < (P'.map List.length).getD r 0 := fun r hr => p2 r (by show r < (P'.map List.length).length; rw [List.length_map]; exact hr)
          rcases Nat.lt_trichotomy P.length P'.length with c | c | c
          · have h1 := q2 P.length c
            rw [← i2 P.length (by omega), getD_out (by rw [List.length_map]; exact Nat.le_refl _)] at h1
            exact absurd h1 (Nat.lt_irrefl _)
          · exact c
          · have h1 := q1 P'.length c
            rw [i2 P'.length (by omega), getD_out (by rw [List.length_map]; exact Nat.le_refl _)] at h1
            exact absurd h1 (Nat.lt_irrefl _)
        exact list_ext0 hlen (fun p hp => i2 p (by rw [List.length_map] at hp; omega))
      · intro e
        rw [e.1, e.2]
    refine V_iloadn1 dX10_alike_0 ?_
    refine V_callS1 (μ' := mX10_isSlot) dX10_alike_1 okX10_isSlot lX10_114 (Nat.le_of_ble_eq_true rfl) (Nat.le_of_ble_eq_true rfl) (by omega) ?_
    refine m_isSlot (by omega) ?_
    rw [hg2.1]
    dsimp only [gPush]
    first | refine U_ifB_eq (tgt := 14) dX10_alike_4 (by decide) (by with_reducible rfl) (fun c4 => ?_) (fun c4 => ?_) | refine U_if_eq (tgt := 14) dX10_alike_4 (by decide) (by with_reducible rfl) (by omega) (fun c4 => ?_) (fun c4 => ?_) | refine V_if_eq (tgt := 14) dX10_alike_4 (by decide) (fun c4 => ?_) (fun c4 => ?_)
    · skip
      cases c4
    · skip
      refine V_iloadn2 dX10_alike_7 ?_
      refine V_callS1 (μ' := mX10_isSlot) dX10_alike_8 okX10_isSlot lX10_114 (Nat.le_of_ble_eq_true rfl) (Nat.le_of_ble_eq_true rfl) (by omega) ?_
      refine m_isSlot (by omega) ?_
      rw [hg2.2]
      dsimp only [gPush]
      first | refine U_ifB_ne (tgt := 16) dX10_alike_11 (by decide) (by with_reducible rfl) (fun c11 => ?_) (fun c11 => ?_) | refine U_if_ne (tgt := 16) dX10_alike_11 (by decide) (by with_reducible rfl) (by omega) (fun c11 => ?_) (fun c11 => ?_) | refine V_if_ne (tgt := 16) dX10_alike_11 (by decide) (fun c11 => ?_) (fun c11 => ?_)
      · skip
        refine V_aloadn0 dX10_alike_16 ?_
        refine V_getR dX10_alike_17 fX10_16 (by first | assumption | rfl) (by first | decide | omega) (by first | assumption | exact ML_4 (by assumption) | exact ML_5 (by assumption) | exact ML_6 (by assumption) | exact ML_7 (by assumption) | exact ML_8 (by assumption) | exact ML_9 (by assumption) | exact ML_10 (by assumption) | exact ML_11 (by assumption) | exact ML_12 (by assumption) | exact ML_13 (by assumption) | exact ML_15 (by assumption) | exact ML_16 (by assumption) | exact ML_17 (by assumption) | exact ML_20 (by assumption) | exact ML_23 (by assumption) | exact ML_24 (by assumption) | exact ML_30 (by assumption) | exact ML_31 (by assumption) | exact ML_32 (by assumption) | exact ML_33 (by assumption) | exact ML_35 (by assumption) | exact ML_36 (by assumption) | exact ML_37 (by assumption) | exact ML_38 (by assumption) | exact ML_41 (by assumption) | exact ML_42 (by assumption) | exact ML_43 (by assumption) | exact ML_44 (by assumption) | exact ML_45 (by assumption) | rfl) ?_
        refine V_iloadn1 dX10_alike_20 ?_
        refine U_iald dX10_alike_21 (by with_reducible rfl) (by first | assumption | rfl) (by first | decide | omega) (by omega) (by first | assumption | exact ML_4 (by assumption) | exact ML_5 (by assumption) | exact ML_6 (by assumption) | exact ML_7 (by assumption) | exact ML_8 (by assumption) | exact ML_9 (by assumption) | exact ML_10 (by assumption) | exact ML_11 (by assumption) | exact ML_12 (by assumption) | exact ML_13 (by assumption) | exact ML_15 (by assumption) | exact ML_16 (by assumption) | exact ML_17 (by assumption) | exact ML_20 (by assumption) | exact ML_23 (by assumption) | exact ML_24 (by assumption) | exact ML_30 (by assumption) | exact ML_31 (by assumption) | exact ML_32 (by assumption) | exact ML_33 (by assumption) | exact ML_35 (by assumption) | exact ML_36 (by assumption) | exact ML_37 (by assumption) | exact ML_38 (by assumption) | exact ML_41 (by assumption) | exact ML_42 (by assumption) | exact ML_43 (by assumption) | exact ML_44 (by assumption) | exact ML_45 (by assumption) | rfl) ?_
        first | refine U_ifB_eq (tgt := 34) dX10_alike_22 (by decide) (by with_reducible rfl) (fun c22 => ?_) (fun c22 => ?_) | refine U_if_eq (tgt := 34) dX10_alike_22 (by decide) (by with_reducible rfl) (by omega) (fun c22 => ?_) (fun c22 => ?_) | refine V_if_eq (tgt := 34) dX10_alike_22 (by decide) (fun c22 => ?_) (fun c22 => ?_)
        · skip
          rw [if_pos (Or.inl c22)] at hQ
          have hQ9 := hQ h hR FrD.rf
          refine V_bipush (v := -11) dX10_alike_34 (by decide) ?_
          refine V_iret dX10_alike_36 rfl rfl ?_
          exact hQ9
        · skip
          refine V_aloadn0 dX10_alike_25 ?_
          refine V_getR dX10_alike_26 fX10_16 (by first | assumption | rfl) (by first | decide | omega) (by first | assumption | exact ML_4 (by assumption) | exact ML_5 (by assumption) | exact ML_6 (by assumption) | exact ML_7 (by assumption) | exact ML_8 (by assumption) | exact ML_9 (by assumption) | exact ML_10 (by assumption) | exact ML_11 (by assumption) | exact ML_12 (by assumption) | exact ML_13 (by assumption) | exact ML_15 (by assumption) | exact ML_16 (by assumption) | exact ML_17 (by assumption) | exact ML_20 (by assumption) | exact ML_23 (by assumption) | exact ML_24 (by assumption) | exact ML_30 (by assumption) | exact ML_31 (by assumption) | exact ML_32 (by assumption) | exact ML_33 (by assumption) | exact ML_35 (by assumption) | exact ML_36 (by assumption) | exact ML_37 (by assumption) | exact ML_38 (by assumption) | exact ML_41 (by assumption) | exact ML_42 (by assumption) | exact ML_43 (by assumption) | exact ML_44 (by assumption) | exact ML_45 (by assumption) | rfl) ?_
          refine V_iloadn2 dX10_alike_29 ?_
          refine U_iald dX10_alike_30 (by with_reducible rfl) (by first | assumption | rfl) (by first | decide | omega) (by omega) (by first | assumption | exact ML_4 (by assumption) | exact ML_5 (by assumption) | exact ML_6 (by assumption) | exact ML_7 (by assumption) | exact ML_8 (by assumption) | exact ML_9 (by assumption) | exact ML_10 (by assumption) | exact ML_11 (by assumption) | exact ML_12 (by assumption) | exact ML_13 (by assumption) | exact ML_15 (by assumption) | exact ML_16 (by assumption) | exact ML_17 (by assumption) | exact ML_20 (by assumption) | exact ML_23 (by assumption) | exact ML_24 (by assumption) | exact ML_30 (by assumption) | exact ML_31 (by assumption) | exact ML_32 (by assumption) | exact ML_33 (by assumption) | exact ML_35 (by assumption) | exact ML_36 (by assumption) | exact ML_37 (by assumption) | exact ML_38 (by assumption) | exact ML_41 (by assumption) | exact ML_42 (by assumption) | exact ML_43 (by assumption) | exact ML_44 (by assumption) | exact ML_45 (by assumption) | rfl) ?_
          first | refine U_ifB_ne (tgt := 37) dX10_alike_31 (by decide) (by with_reducible rfl) (fun c31 => ?_) (fun c31 => ?_) | refine U_if_ne (tgt := 37) dX10_alike_31 (by decide) (by with_reducible rfl) (by omega) (fun c31 => ?_) (fun c31 => ?_) | refine V_if_ne (tgt := 37) dX10_alike_31 (by decide) (fun c31 => ?_) (fun c31 => ?_)
          · skip
            rw [if_neg (fun z => z.elim c22 c31)] at hQ
            refine V_aloadn0 dX10_alike_37 ?_
            refine V_iloadn1 dX10_alike_38 ?_
            refine V_callV1 (μ' := mX10_inserted) dX10_alike_39 okX10_inserted lX10_248 rfl (by first | assumption | rfl) (by first | decide | omega) (Nat.le_of_ble_eq_true rfl) (Nat.le_of_ble_eq_true rfl) (by omega) ?_
            refine m_inserted (by omega) hs hR hWG c22 (fun h1 hR1 hF1 => ?_)
            dsimp only [gPush]
            refine V_aloadn0 dX10_alike_42 ?_
            refine V_iloadn2 dX10_alike_43 ?_
            refine V_callV1 (μ' := mX10_inserted) dX10_alike_44 okX10_inserted lX10_248 rfl (by first | assumption | rfl) (by first | decide | omega) (Nat.le_of_ble_eq_true rfl) (Nat.le_of_ble_eq_true rfl) (by omega) ?_
            refine m_inserted (by omega) hq hR1 hWG c31 (fun h2 hR2 hF2 => ?_)
            have hQ9 := hQ h2 hR2 (hF1.tr hF2).D
            dsimp only [gPush]
            refine V_lcmp dX10_alike_47 ?_
            refine V_if_ne (tgt := 55) dX10_alike_48 (by decide) (fun c48 => ?_) (fun c48 => ?_)
            · rw [decide_eq_false (fun z => c48 ((lg_cmp_eq _ _).mpr (key.mpr z)))] at hQ9
              refine V_iconst (v := nI 0) dX10_alike_55 (by decide) ?_
              refine V_iret dX10_alike_56 rfl rfl ?_
              exact hQ9
            rw [decide_eq_true (key.mp ((lg_cmp_eq _ _).mp c48))] at hQ9
            refine V_iconst (v := nI 1) dX10_alike_51 (by decide) ?_
            refine V_goto (tgt := 56) dX10_alike_52 (by decide) ?_
            refine V_iret dX10_alike_56 rfl rfl ?_
            exact hQ9
          · skip
            rw [if_pos (Or.inr c31)] at hQ
            have hQ9 := hQ h hR FrD.rf
            refine V_bipush (v := -11) dX10_alike_34 (by decide) ?_
            refine V_iret dX10_alike_36 rfl rfl ?_
            exact hQ9
      · skip
        cases c11
  · have eq0 : g_alike S x y = -1 := if_neg hg
    rw [eq0] at hQ
    have hQ9 := hQ h hR FrD.rf
    refine V_iloadn1 dX10_alike_0 ?_
    refine V_callS1 (μ' := mX10_isSlot) dX10_alike_1 okX10_isSlot lX10_114 (Nat.le_of_ble_eq_true rfl) (Nat.le_of_ble_eq_true rfl) (by omega) ?_
    refine m_isSlot (by omega) ?_
    dsimp only [gPush]
    first | refine U_ifB_eq (tgt := 14) dX10_alike_4 (by decide) (by with_reducible rfl) (fun c4 => ?_) (fun c4 => ?_) | refine U_if_eq (tgt := 14) dX10_alike_4 (by decide) (by with_reducible rfl) (by omega) (fun c4 => ?_) (fun c4 => ?_) | refine V_if_eq (tgt := 14) dX10_alike_4 (by decide) (fun c4 => ?_) (fun c4 => ?_)
    · skip
      refine V_iconst (v := -1) dX10_alike_14 (by decide) ?_
      refine V_iret dX10_alike_15 rfl rfl ?_
      exact hQ9
    · skip
      refine V_iloadn2 dX10_alike_7 ?_
      refine V_callS1 (μ' := mX10_isSlot) dX10_alike_8 okX10_isSlot lX10_114 (Nat.le_of_ble_eq_true rfl) (Nat.le_of_ble_eq_true rfl) (by omega) ?_
      refine m_isSlot (by omega) ?_
      dsimp only [gPush]
      first | refine U_ifB_ne (tgt := 16) dX10_alike_11 (by decide) (by with_reducible rfl) (fun c11 => ?_) (fun c11 => ?_) | refine U_if_ne (tgt := 16) dX10_alike_11 (by decide) (by with_reducible rfl) (by omega) (fun c11 => ?_) (fun c11 => ?_) | refine V_if_ne (tgt := 16) dX10_alike_11 (by decide) (fun c11 => ?_) (fun c11 => ?_)
      · skip
        exact absurd (by rw [c4, c11]; rfl) hg
      · skip
        refine V_iconst (v := -1) dX10_alike_14 (by decide) ?_
        refine V_iret dX10_alike_15 rfl rfl ?_
        exact hQ9

end C67
