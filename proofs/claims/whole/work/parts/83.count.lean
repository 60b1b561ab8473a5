/-! ===== the reference: count, worthOf ===== -/
theorem nd_div : ∀ n k D, D < 10 ^ k → n ≤ k → (ndF k D ≤ n ↔ D / 10 ^ n = 0)
  | 0, 0, D, h, _ => by
    have e : D = 0 := by simp at h; exact h
    subst e; simp [ndF]
  | 0, k + 1, D, _, _ => by
    rw [ndF, Nat.pow_zero, Nat.div_one]
    by_cases e : D = 0
    · rw [if_pos e]; exact ⟨fun _ => e, fun _ => Nat.le_refl _⟩
    · rw [if_neg e]; exact ⟨fun h => absurd h (by omega), fun h => absurd h e⟩
  | n + 1, 0, D, _, hn => absurd hn (by omega)
  | n + 1, k + 1, D, h, hn => by
    rw [ndF]
    have ih := nd_div n k (D / 10) (by rw [Nat.pow_succ] at h; omega) (by omega)
    rw [Nat.div_div_eq_div_mul, Nat.mul_comm, ← Nat.pow_succ] at ih
    by_cases e : D = 0
    · rw [if_pos e, e]; simp
    · rw [if_neg e, ← ih]; omega
theorem shB_P {n : Nat} {D : Int32} (hn : n ≤ 5) (h : shB n D = true) : ShP (shL D) ∧ (shL D).length ≤ n := by
  unfold shB at h
  rw [Bool.and_eq_true] at h
  obtain ⟨g1, g2, g3, g4⟩ := shOk_good h.2
  have el : (shL D).length = ndF 10 (cN D) := by unfold shL; rw [digL_len]
  refine ⟨⟨by omega, g2, fun r hr => g4 r (by omega), fun r => ?_⟩, by omega⟩
  by_cases q : r + 1 < (shL D).length
  · have := g1 (r + 1) (by omega) q
    rw [show r + 1 - 1 = r by omega] at this
    exact this
  · rw [List.getD_eq_getElem?_getD, List.getElem?_eq_none (by omega)]; exact Nat.zero_le _
theorem smI_cg {α : Type} {f g : α → Int32} : ∀ {l : List α}, (∀ x, x ∈ l → f x = g x) → smI (l.map f) = smI (l.map g)
  | [], _ => rfl
  | x :: l, h => by rw [List.map_cons, List.map_cons, smI, smI, h x List.mem_cons_self, smI_cg (fun y hy => h y (List.mem_cons_of_mem _ hy))]
theorem smI_0 {α : Type} {f : α → Int32} : ∀ {l : List α}, (∀ x, x ∈ l → f x = 0) → smI (l.map f) = 0
  | [], _ => rfl
  | x :: l, h => by rw [List.map_cons, smI, h x List.mem_cons_self, smI_0 (fun y hy => h y (List.mem_cons_of_mem _ hy))]; rfl
theorem lv12 {L : List Nat} {n : Nat} {c : List Nat} (h : c ∈ lvF L n 12 [] 0 0) : c.length = L.sum ∧ ∀ y, y ∈ c → 1 ≤ y ∧ y ≤ n := lv_leaf L n 12 [] 0 0 c (Nat.zero_le _) (Nat.zero_le _) (fun y hy => by cases hy) h
theorem count_pure {n : Nat} {L L2 : List Nat} {A : Nat → Nat} (hS : ShP L) : foF 0 n L L2 A (lvF L n 12 [] 0 0) = if sumF (fun i => A (i + 1)) n = L.sum then (sF L n (fun _ => nI 1) (cntB n L none) 12 [] 0 0 A (lN 1)).toInt32 else nI 0 := by
  have key : ∀ c, c ∈ lvF L n 12 [] 0 0 → (mOk 0 n A (cutP L c) L2 = true ↔ (okA c A = true ∧ sumF (fun i => A (i + 1)) n = L.sum)) := by
    intro c hc
    obtain ⟨e1, e2⟩ := lv12 hc
    have hp := cut_perm (L := L) (c := c) (by have := hS.1; omega) (by omega)
    unfold mOk mW
    rw [if_neg (by decide), if_neg (by decide), KX_iff 0 A _ true (by decide)]
    rw [← e1, ← exact_ok (A := A) e2]
    constructor
    · intro h x a b; rw [← hp.count_eq x]; exact h.2 x a b
    · intro h; exact ⟨rfl, fun x a b => by rw [hp.count_eq x]; exact h x a b⟩
  by_cases hs : sumF (fun i => A (i + 1)) n = L.sum
  · rw [if_pos hs, sF_lv]
    have e : sm ((lvF L n 12 [] 0 0).map (fun c' => if (okA (c'.drop ([] : List Nat).length) A && cntB n L none c') = true then lN 1 * prW (fun _ => nI 1) (c'.drop ([] : List Nat).length) else 0)) = sm ((lvF L n 12 [] 0 0).map (fun c => if okA c A = true then 1 else 0)) := by
      refine sm_cg (fun c hc => ?_)
      rw [List.length_nil, List.drop_zero, prW_1, show cntB n L none c = true from rfl, Bool.and_true]
      rfl
    rw [e, sm_I]
    unfold foF
    refine smI_cg (fun c hc => ?_)
    have k := key c hc
    cases h1 : mOk 0 n A (cutP L c) L2 <;> cases h2 : okA c A
    · rfl
    · rw [h1, h2] at k; exact absurd (k.mpr ⟨rfl, hs⟩) Bool.false_ne_true
    · rw [h1, h2] at k; exact absurd (k.mp rfl).1 Bool.false_ne_true
    · rfl
  · rw [if_neg hs]
    unfold foF
    refine smI_0 (fun c hc => ?_)
    have k := key c hc
    cases h1 : mOk 0 n A (cutP L c) L2
    · rfl
    · rw [h1] at k; exact absurd (k.mp rfl).2 hs
theorem worth_pure {n : Nat} {L L2 : List Nat} {wt : Nat → Nat} (hS : ShP L) (h99 : ∀ x, wt x ≤ 99) : woM 2 n L L2 wt (lvF L n 12 [] 0 0) = sF L n (fun x => nI (wt x)) (cntB n L none) 12 [] 0 0 (fun _ => 6) (lN 1) := by
  rw [sF_lv]
  unfold woM
  refine sm_cg (fun c hc => ?_)
  obtain ⟨e1, e2⟩ := lv12 hc
  have hp := cut_perm (L := L) (c := c) (by have := hS.1; omega) (by omega)
  have ho : okA c (fun _ => 6) = true := (okA_iff _ _).mpr (fun y => Nat.le_trans (List.count_le_length) (by have := hS.2.1; omega))
  rw [List.length_nil, List.drop_zero, ho, show cntB n L none c = true from rfl, Bool.and_true, if_pos rfl, show lN 1 = 1 from rfl, Int64.one_mul, prW_G]
  unfold mW
  rw [if_neg (by decide), PX_G, prG_perm hp]
  refine prG_cg (fun y hy => ?_)
  rw [if_pos (e2 y hy)]
  exact (nI_l (by have := h99 y; omega)).symm
theorem FrO.X {h h' : gH} {arr : Nat} (a : FrO h h' arr) (ha : 113 ≤ arr ∧ arr ≤ 119) : FrX h h' := ⟨fun q hq => a.1 q (by omega), fun k hk => by rw [a.1 94 (by omega)], fun q hq => by rw [a.2.1], a.2.2⟩
theorem FrW.X {h h' : gH} (a : FrW h h') : FrX h h' := ⟨fun q hq => a.1 q (by omega) (by omega) (by omega) (by omega) (by omega), fun k hk => a.2.1 k (by omega), fun q hq => by funext b; exact a.2.2.1 q b (by omega), a.2.2.2⟩
section C83
variable {Γ : gM} {d : Nat} {h : gH} {Q : Option Value → gH → Prop} {S : GS}
set_option maxRecDepth 100000 in
set_option maxHeartbeats 4000000 in
theorem m_worthOf {a : Int32} (hd : 18 ≤ d) (hR : RM h S) (hWG : WG S) (hQ : ∀ h', RM h' S → FrD h h' → Q (some (.int (g_worthOf S a))) h') : V Γ mX10_worthOf d 124 124 h 0 [some (.ref 94), some (.int a)] [] Q := by
  obtain ⟨hM, ⟨r0, r1, rT, rW⟩, rK, rK2, rB, rS⟩ := id hR
  obtain ⟨hWS, hWK, hWB, hWX⟩ := id hWG
  have hn2 := hWS.1
  have hn5 := hWS.2.1
  have h99 := hWS.2.2.2
  unfold g_worthOf at hQ
  cases hs : shB S.1.1 a with
  | false =>
    rw [if_neg (by rw [hs]; exact Bool.false_ne_true)] at hQ
    refine V_aloadn0 dX10_worthOf_0 ?_
    refine V_iloadn1 dX10_worthOf_1 ?_
    refine V_aloadn0 dX10_worthOf_2 ?_
    refine V_getR dX10_worthOf_3 fX10_89 (by first | assumption | rfl) (by first | decide | omega) (by first | assumption | exact ML_4 (by assumption) | exact ML_5 (by assumption) | exact ML_6 (by assumption) | exact ML_7 (by assumption) | exact ML_8 (by assumption) | exact ML_9 (by assumption) | exact ML_10 (by assumption) | exact ML_11 (by assumption) | exact ML_12 (by assumption) | exact ML_13 (by assumption) | exact ML_15 (by assumption) | exact ML_16 (by assumption) | exact ML_17 (by assumption) | exact ML_20 (by assumption) | exact ML_23 (by assumption) | exact ML_24 (by assumption) | exact ML_30 (by assumption) | exact ML_31 (by assumption) | exact ML_32 (by assumption) | exact ML_33 (by assumption) | exact ML_35 (by assumption) | exact ML_36 (by assumption) | exact ML_37 (by assumption) | exact ML_38 (by assumption) | exact ML_41 (by assumption) | exact ML_42 (by assumption) | exact ML_43 (by assumption) | exact ML_44 (by assumption) | exact ML_45 (by assumption) | rfl) ?_
    refine V_callV2 (μ' := mX10_isShape) dX10_worthOf_6 okX10_isShape lX10_270 rfl (by first | assumption | rfl) (by first | decide | omega) (Nat.le_of_ble_eq_true rfl) (Nat.le_of_ble_eq_true rfl) (by omega) ?_
    refine m_isShape (n := S.1.1) hn5 (by omega) (by omega) rfl r0 (fun h1 a1 hF1 => ?_)
    rw [hs]
    dsimp only [gPush]
    first | refine U_ifB_ne (tgt := 14) dX10_worthOf_9 (by decide) (by with_reducible rfl) (fun c9 => ?_) (fun c9 => ?_) | refine U_if_ne (tgt := 14) dX10_worthOf_9 (by decide) (by with_reducible rfl) (by omega) (fun c9 => ?_) (fun c9 => ?_) | refine V_if_ne (tgt := 14) dX10_worthOf_9 (by decide) (fun c9 => ?_) (fun c9 => ?_)
    · skip
      cases c9
    · skip
      refine V_iconst (v := -1) dX10_worthOf_12 (by decide) ?_
      refine V_iret dX10_worthOf_13 rfl rfl ?_
      exact hQ h1 (RM_X hR (hF1.X (by omega))) (hF1.X (by omega)).D
  | true =>
    rw [if_pos hs] at hQ
    obtain ⟨hP, hPl⟩ := shB_P hn5 hs
    have hw := worth_pure (n := S.1.1) (L2 := []) hP h99
    unfold woF at hQ
    rw [← hw] at hQ
    clear hw
    generalize hU : woM 2 S.1.1 (shL a) [] S.1.2.2.2 (lvF (shL a) S.1.1 12 [] 0 0) = u at hQ
    refine V_aloadn0 dX10_worthOf_0 ?_
    refine V_iloadn1 dX10_worthOf_1 ?_
    refine V_aloadn0 dX10_worthOf_2 ?_
    refine V_getR dX10_worthOf_3 fX10_89 (by first | assumption | rfl) (by first | decide | omega) (by first | assumption | exact ML_4 (by assumption) | exact ML_5 (by assumption) | exact ML_6 (by assumption) | exact ML_7 (by assumption) | exact ML_8 (by assumption) | exact ML_9 (by assumption) | exact ML_10 (by assumption) | exact ML_11 (by assumption) | exact ML_12 (by assumption) | exact ML_13 (by assumption) | exact ML_15 (by assumption) | exact ML_16 (by assumption) | exact ML_17 (by assumption) | exact ML_20 (by assumption) | exact ML_23 (by assumption) | exact ML_24 (by assumption) | exact ML_30 (by assumption) | exact ML_31 (by assumption) | exact ML_32 (by assumption) | exact ML_33 (by assumption) | exact ML_35 (by assumption) | exact ML_36 (by assumption) | exact ML_37 (by assumption) | exact ML_38 (by assumption) | exact ML_41 (by assumption) | exact ML_42 (by assumption) | exact ML_43 (by assumption) | exact ML_44 (by assumption) | exact ML_45 (by assumption) | rfl) ?_
    refine V_callV2 (μ' := mX10_isShape) dX10_worthOf_6 okX10_isShape lX10_270 rfl (by first | assumption | rfl) (by first | decide | omega) (Nat.le_of_ble_eq_true rfl) (Nat.le_of_ble_eq_true rfl) (by omega) ?_
    refine m_isShape (n := S.1.1) hn5 (by omega) (by omega) rfl r0 (fun h1 a1 hF1 => ?_)
    rw [hs]
    have hF1X := hF1.X (by omega)
    have hR1 := RM_X hR hF1X
    have hM1 := hR1.1
    dsimp only [gPush]
    first | refine U_ifB_ne (tgt := 14) dX10_worthOf_9 (by decide) (by with_reducible rfl) (fun c9 => ?_) (fun c9 => ?_) | refine U_if_ne (tgt := 14) dX10_worthOf_9 (by decide) (by with_reducible rfl) (by omega) (fun c9 => ?_) (fun c9 => ?_) | refine V_if_ne (tgt := 14) dX10_worthOf_9 (by decide) (fun c9 => ?_) (fun c9 => ?_)
    · skip
      refine V_aloadn0 dX10_worthOf_14 ?_
      refine V_iconst (v := nI 2) dX10_worthOf_15 (by decide) ?_
      refine V_callV1 (μ' := mX10_fillsAll) dX10_worthOf_16 okX10_fillsAll lX10_274 rfl (by first | assumption | rfl) (by first | decide | omega) (Nat.le_of_ble_eq_true rfl) (Nat.le_of_ble_eq_true rfl) (by omega) ?_
      refine m_fillsAll (n := S.1.1) (L := shL a) (L2 := []) (wt := S.1.2.2.2) (D := fun _ => 0) (by omega) (by omega) hn5 hP (Nat.le_refl _) h99 ⟨hM1, hR1.2.1.1, a1 hs, fun x x1 x2 => hR1.2.1.2.2.2 x x1 (by omega), fun z => absurd rfl z, fun z => absurd z (by decide)⟩ (fun h2 b1 b2 hF2 => ?_)
      rw [hU] at b2
      clear hU b1
      have hF2X := hF1X.tr hF2.X
      have hQ9 := hQ h2 (RM_X hR hF2X) hF2X.D
      dsimp only [gPush]
      refine V_aloadn0 dX10_worthOf_19 ?_
      refine V_getL dX10_worthOf_20 fX10_259 (by first | assumption | rfl) (by first | decide | omega) (by first | assumption | exact ML_4 (by assumption) | exact ML_5 (by assumption) | exact ML_6 (by assumption) | exact ML_7 (by assumption) | exact ML_8 (by assumption) | exact ML_9 (by assumption) | exact ML_10 (by assumption) | exact ML_11 (by assumption) | exact ML_12 (by assumption) | exact ML_13 (by assumption) | exact ML_15 (by assumption) | exact ML_16 (by assumption) | exact ML_17 (by assumption) | exact ML_20 (by assumption) | exact ML_23 (by assumption) | exact ML_24 (by assumption) | exact ML_30 (by assumption) | exact ML_31 (by assumption) | exact ML_32 (by assumption) | exact ML_33 (by assumption) | exact ML_35 (by assumption) | exact ML_36 (by assumption) | exact ML_37 (by assumption) | exact ML_38 (by assumption) | exact ML_41 (by assumption) | exact ML_42 (by assumption) | exact ML_43 (by assumption) | exact ML_44 (by assumption) | exact ML_45 (by assumption) | rfl) ?_
      refine V_ldc2 (v := 2147483647) dX10_worthOf_23 kX10_281 ?_
      refine V_lcmp dX10_worthOf_26 ?_
      first | refine U_if_le (tgt := 35) dX10_worthOf_27 (by decide) (by with_reducible rfl) (by omega) (fun c27 => ?_) (fun c27 => ?_) | refine V_if_le (tgt := 35) dX10_worthOf_27 (by decide) (fun c27 => ?_) (fun c27 => ?_)
      · skip
        rw [if_neg (lg_le.mp c27)] at hQ9
        refine V_aloadn0 dX10_worthOf_35 ?_
        refine V_getL dX10_worthOf_36 fX10_259 (by first | assumption | rfl) (by first | decide | omega) (by first | assumption | exact ML_4 (by assumption) | exact ML_5 (by assumption) | exact ML_6 (by assumption) | exact ML_7 (by assumption) | exact ML_8 (by assumption) | exact ML_9 (by assumption) | exact ML_10 (by assumption) | exact ML_11 (by assumption) | exact ML_12 (by assumption) | exact ML_13 (by assumption) | exact ML_15 (by assumption) | exact ML_16 (by assumption) | exact ML_17 (by assumption) | exact ML_20 (by assumption) | exact ML_23 (by assumption) | exact ML_24 (by assumption) | exact ML_30 (by assumption) | exact ML_31 (by assumption) | exact ML_32 (by assumption) | exact ML_33 (by assumption) | exact ML_35 (by assumption) | exact ML_36 (by assumption) | exact ML_37 (by assumption) | exact ML_38 (by assumption) | exact ML_41 (by assumption) | exact ML_42 (by assumption) | exact ML_43 (by assumption) | exact ML_44 (by assumption) | exact ML_45 (by assumption) | rfl) ?_
        refine V_l2i dX10_worthOf_39 rfl ?_
        refine V_iret dX10_worthOf_40 rfl rfl ?_
        exact hQ9
      · skip
        rw [if_pos (Classical.byContradiction (fun z => c27 (lg_le.mpr z)))] at hQ9
        refine V_bipush (v := -16) dX10_worthOf_30 (by decide) ?_
        refine V_goto (tgt := 40) dX10_worthOf_32 (by decide) ?_
        refine V_iret dX10_worthOf_40 rfl rfl ?_
        exact hQ9
    · skip
      cases c9
set_option maxRecDepth 100000 in
set_option maxHeartbeats 4000000 in
theorem m_count {a b : Int32} (hd : 18 ≤ d) (hR : RM h S) (hWG : WG S) (hQ : ∀ h', RM h' S → FrD h h' → Q (some (.int (g_count S a b))) h') : V Γ mX10_count d 124 124 h 0 [some (.ref 94), some (.int a), some (.int b), none, none, none] [] Q := by
  obtain ⟨hM, ⟨r0, r1, rT, rW⟩, rK, rK2, rB, rS⟩ := id hR
  obtain ⟨hWS, hWK, hWB, hWX⟩ := id hWG
  have hn2 := hWS.1
  have hn5 := hWS.2.1
  have h99 := hWS.2.2.2
  unfold g_count at hQ
  cases hs : shB S.1.1 a with
  | false =>
    rw [if_neg (by rw [hs, Bool.false_and]; exact Bool.false_ne_true)] at hQ
    refine V_aloadn0 dX10_count_0 ?_
    refine V_iloadn1 dX10_count_1 ?_
    refine V_aloadn0 dX10_count_2 ?_
    refine V_getR dX10_count_3 fX10_89 (by first | assumption | rfl) (by first | decide | omega) (by first | assumption | exact ML_4 (by assumption) | exact ML_5 (by assumption) | exact ML_6 (by assumption) | exact ML_7 (by assumption) | exact ML_8 (by assumption) | exact ML_9 (by assumption) | exact ML_10 (by assumption) | exact ML_11 (by assumption) | exact ML_12 (by assumption) | exact ML_13 (by assumption) | exact ML_15 (by assumption) | exact ML_16 (by assumption) | exact ML_17 (by assumption) | exact ML_20 (by assumption) | exact ML_23 (by assumption) | exact ML_24 (by assumption) | exact ML_30 (by assumption) | exact ML_31 (by assumption) | exact ML_32 (by assumption) | exact ML_33 (by assumption) | exact ML_35 (by assumption) | exact ML_36 (by assumption) | exact ML_37 (by assumption) | exact ML_38 (by assumption) | exact ML_41 (by assumption) | exact ML_42 (by assumption) | exact ML_43 (by assumption) | exact ML_44 (by assumption) | exact ML_45 (by assumption) | rfl) ?_
    refine V_callV2 (μ' := mX10_isShape) dX10_count_6 okX10_isShape lX10_270 rfl (by first | assumption | rfl) (by first | decide | omega) (Nat.le_of_ble_eq_true rfl) (Nat.le_of_ble_eq_true rfl) (by omega) ?_
    refine m_isShape (n := S.1.1) hn5 (by omega) (by omega) rfl r0 (fun h1 a1 hF1 => ?_)
    rw [hs]
    dsimp only [gPush]
    first | refine U_ifB_eq (tgt := 16) dX10_count_9 (by decide) (by with_reducible rfl) (fun c9 => ?_) (fun c9 => ?_) | refine U_if_eq (tgt := 16) dX10_count_9 (by decide) (by with_reducible rfl) (by omega) (fun c9 => ?_) (fun c9 => ?_) | refine V_if_eq (tgt := 16) dX10_count_9 (by decide) (fun c9 => ?_) (fun c9 => ?_)
    · skip
      refine V_iconst (v := -1) dX10_count_16 (by decide) ?_
      refine V_iret dX10_count_17 rfl rfl ?_
      exact hQ h1 (RM_X hR (hF1.X (by omega))) (hF1.X (by omega)).D
    · skip
      cases c9
  | true =>
    rw [hs, Bool.true_and] at hQ
    obtain ⟨hP, hPl⟩ := shB_P hn5 hs
    by_cases hb : b < 0
    · rw [if_neg (by rw [decide_eq_false (Int32.not_le.mpr hb), Bool.false_and]; exact Bool.false_ne_true)] at hQ
      refine V_aloadn0 dX10_count_0 ?_
      refine V_iloadn1 dX10_count_1 ?_
      refine V_aloadn0 dX10_count_2 ?_
      refine V_getR dX10_count_3 fX10_89 (by first | assumption | rfl) (by first | decide | omega) (by first | assumption | exact ML_4 (by assumption) | exact ML_5 (by assumption) | exact ML_6 (by assumption) | exact ML_7 (by assumption) | exact ML_8 (by assumption) | exact ML_9 (by assumption) | exact ML_10 (by assumption) | exact ML_11 (by assumption) | exact ML_12 (by assumption) | exact ML_13 (by assumption) | exact ML_15 (by assumption) | exact ML_16 (by assumption) | exact ML_17 (by assumption) | exact ML_20 (by assumption) | exact ML_23 (by assumption) | exact ML_24 (by assumption) | exact ML_30 (by assumption) | exact ML_31 (by assumption) | exact ML_32 (by assumption) | exact ML_33 (by assumption) | exact ML_35 (by assumption) | exact ML_36 (by assumption) | exact ML_37 (by assumption) | exact ML_38 (by assumption) | exact ML_41 (by assumption) | exact ML_42 (by assumption) | exact ML_43 (by assumption) | exact ML_44 (by assumption) | exact ML_45 (by assumption) | rfl) ?_
      refine V_callV2 (μ' := mX10_isShape) dX10_count_6 okX10_isShape lX10_270 rfl (by first | assumption | rfl) (by first | decide | omega) (Nat.le_of_ble_eq_true rfl) (Nat.le_of_ble_eq_true rfl) (by omega) ?_
      refine m_isShape (n := S.1.1) hn5 (by omega) (by omega) rfl r0 (fun h1 a1 hF1 => ?_)
      rw [hs]
      dsimp only [gPush]
      first | refine U_ifB_eq (tgt := 16) dX10_count_9 (by decide) (by with_reducible rfl) (fun c9 => ?_) (fun c9 => ?_) | refine U_if_eq (tgt := 16) dX10_count_9 (by decide) (by with_reducible rfl) (by omega) (fun c9 => ?_) (fun c9 => ?_) | refine V_if_eq (tgt := 16) dX10_count_9 (by decide) (fun c9 => ?_) (fun c9 => ?_)
      · skip
        cases c9
      · skip
        refine V_iloadn2 dX10_count_12 ?_
        refine V_if_ge (tgt := 18) dX10_count_13 (by decide) (fun c13 => ?_) (fun c13 => ?_)
        · skip
          exact absurd hb (Int32.not_lt.mpr c13)
        · skip
          refine V_iconst (v := -1) dX10_count_16 (by decide) ?_
          refine V_iret dX10_count_17 rfl rfl ?_
          exact hQ h1 (RM_X hR (hF1.X (by omega))) (hF1.X (by omega)).D
    obtain ⟨D', hD', rfl⟩ := nI_of hb
    rw [decide_eq_true (nI_pos' hD'), Bool.true_and, cN_nI hD'] at hQ
    have hnd := nd_div S.1.1 10 D' (by omega) (by omega)
    have hco : coOk D' S.1.1 = (decide (D' / 10 ^ S.1.1 = 0) && decide (sumF (fun i => coF D' S.1.1 (i + 1)) S.1.1 ≤ 6)) := by
      unfold coOk
      rw [show decide (ndF 10 D' ≤ S.1.1) = decide (D' / 10 ^ S.1.1 = 0) from decide_eq_decide.mpr hnd]
      rfl
    have d9 : ∀ x, coF D' S.1.1 x ≤ 9 := fun x => by
      have := Nat.mod_lt (D' / 10 ^ (S.1.1 - x)) (by decide : 10 > 0)
      unfold coF
      omega
    have hcp := count_pure (n := S.1.1) (L2 := []) (A := coF D' S.1.1) hP
    generalize hn9 : S.1.1 = n at *
    have loop : ∀ x h1 s, x ≤ n → (∀ p, x < p → p ≤ n → gI h1 118 p = nI (coF D' n p)) → s + sumF (fun i => coF D' n (i + 1)) x = sumF (fun i => coF D' n (i + 1)) n → (∀ r, r < 6 → gI h1 119 r = nI ((shL a).getD r 0)) → FrX h h1 → V Γ mX10_count d 124 124 h1 29 [some (.ref 94), some (.int a), some (.int (nI D')), some (.int (nI (D' / 10 ^ (n - x)))), some (.int (nI s)), some (.int (nI x))] [] Q := by
      intro x
      induction x with
      | zero =>
        intro h1 s hx hp hsum hA hF
        have hR1 := RM_X hR hF
        have hM1 := hR1.1
        have hle := sumF_le (f := fun i => coF D' n (i + 1)) (c := 9) (fun i => d9 (i + 1)) n
        rw [Nat.sub_zero]
        have hq31 : D' / 10 ^ n < 2 ^ 31 := Nat.lt_of_le_of_lt (Nat.div_le_self _ _) hD'
        have es : s = sumF (fun i => coF D' n (i + 1)) n := by rw [← hsum]; rfl
        by_cases h0 : D' / 10 ^ n = 0
        · by_cases h6 : s ≤ 6
          · rw [hco, decide_eq_true h0, decide_eq_true (by omega), Bool.true_and, if_pos rfl, ← hcp] at hQ
            clear hcp
            generalize hU : foF 0 n (shL a) [] (coF D' n) (lvF (shL a) n 12 [] 0 0) = u at hQ
            refine V_iloadw5 dX10_count_29 ?_
            first | refine U_if_le (tgt := 68) dX10_count_31 (by decide) (by with_reducible rfl) (by omega) (fun c31 => ?_) (fun c31 => ?_) | refine V_if_le (tgt := 68) dX10_count_31 (by decide) (fun c31 => ?_) (fun c31 => ?_)
            · skip
              refine V_iloadn3 dX10_count_68 ?_
              first | refine U_if_gt (tgt := 79) dX10_count_69 (by decide) (by with_reducible rfl) (by omega) (fun c69 => ?_) (fun c69 => ?_) | refine V_if_gt (tgt := 79) dX10_count_69 (by decide) (fun c69 => ?_) (fun c69 => ?_)
              · skip
                omega
              · skip
                refine V_iloadw4 dX10_count_72 ?_
                refine V_bipush (v := nI 6) dX10_count_74 (by decide) ?_
                first | refine U_icmp_le (tgt := 81) dX10_count_76 (by decide) (by with_reducible rfl) (by with_reducible rfl) (by omega) (by omega) (fun c76 => ?_) (fun c76 => ?_) | refine V_icmp_le (tgt := 81) dX10_count_76 (by decide) (fun c76 => ?_) (fun c76 => ?_)
                · skip
                  refine V_aloadn0 dX10_count_81 ?_
                  refine V_iconst (v := nI 0) dX10_count_82 (by decide) ?_
                  refine V_callV1 (μ' := mX10_fillsAll) dX10_count_83 okX10_fillsAll lX10_274 rfl (by first | assumption | rfl) (by first | decide | omega) (Nat.le_of_ble_eq_true rfl) (Nat.le_of_ble_eq_true rfl) (by omega) ?_
                  refine m_fillsAll (n := n) (L := shL a) (L2 := []) (wt := S.1.2.2.2) (D := coF D' n) (by omega) (by omega) hn5 hP (by omega) h99 ⟨hM1, by rw [← hn9]; exact hR1.2.1.1, hA, fun x x1 x2 => hR1.2.1.2.2.2 x x1 (by omega), fun _ x x1 x2 => ⟨hp x (by omega) x2, d9 x⟩, fun z => absurd z (by decide)⟩ (fun h2 b1 b2 hF2 => ?_)
                  rw [hU] at b1
                  clear hU b2
                  have hF2X := hF.tr hF2.X
                  have hQ9 := hQ h2 (RM_X hR hF2X) hF2X.D
                  dsimp only [gPush]
                  refine V_aloadn0 dX10_count_86 ?_
                  refine V_getI dX10_count_87 fX10_256 (Or.inl rfl) (by first | assumption | rfl) (by first | decide | omega) (by first | assumption | exact ML_4 (by assumption) | exact ML_5 (by assumption) | exact ML_6 (by assumption) | exact ML_7 (by assumption) | exact ML_8 (by assumption) | exact ML_9 (by assumption) | exact ML_10 (by assumption) | exact ML_11 (by assumption) | exact ML_12 (by assumption) | exact ML_13 (by assumption) | exact ML_15 (by assumption) | exact ML_16 (by assumption) | exact ML_17 (by assumption) | exact ML_20 (by assumption) | exact ML_23 (by assumption) | exact ML_24 (by assumption) | exact ML_30 (by assumption) | exact ML_31 (by assumption) | exact ML_32 (by assumption) | exact ML_33 (by assumption) | exact ML_35 (by assumption) | exact ML_36 (by assumption) | exact ML_37 (by assumption) | exact ML_38 (by assumption) | exact ML_41 (by assumption) | exact ML_42 (by assumption) | exact ML_43 (by assumption) | exact ML_44 (by assumption) | exact ML_45 (by assumption) | rfl) ?_
                  refine V_iret dX10_count_90 rfl rfl ?_
                  exact hQ9
                · skip
                  omega
            · skip
              omega
          · rw [hco, decide_eq_false (show ¬ sumF (fun i => coF D' n (i + 1)) n ≤ 6 by omega), Bool.and_false, if_neg Bool.false_ne_true] at hQ
            refine V_iloadw5 dX10_count_29 ?_
            first | refine U_if_le (tgt := 68) dX10_count_31 (by decide) (by with_reducible rfl) (by omega) (fun c31 => ?_) (fun c31 => ?_) | refine V_if_le (tgt := 68) dX10_count_31 (by decide) (fun c31 => ?_) (fun c31 => ?_)
            · skip
              refine V_iloadn3 dX10_count_68 ?_
              first | refine U_if_gt (tgt := 79) dX10_count_69 (by decide) (by with_reducible rfl) (by omega) (fun c69 => ?_) (fun c69 => ?_) | refine V_if_gt (tgt := 79) dX10_count_69 (by decide) (fun c69 => ?_) (fun c69 => ?_)
              · skip
                omega
              · skip
                refine V_iloadw4 dX10_count_72 ?_
                refine V_bipush (v := nI 6) dX10_count_74 (by decide) ?_
                first | refine U_icmp_le (tgt := 81) dX10_count_76 (by decide) (by with_reducible rfl) (by with_reducible rfl) (by omega) (by omega) (fun c76 => ?_) (fun c76 => ?_) | refine V_icmp_le (tgt := 81) dX10_count_76 (by decide) (fun c76 => ?_) (fun c76 => ?_)
                · skip
                  omega
                · skip
                  refine V_iconst (v := -1) dX10_count_79 (by decide) ?_
                  refine V_iret dX10_count_80 rfl rfl ?_
                  exact hQ h1 hR1 hF.D
            · skip
              omega
        · rw [hco, decide_eq_false h0, Bool.false_and, if_neg Bool.false_ne_true] at hQ
          refine V_iloadw5 dX10_count_29 ?_
          first | refine U_if_le (tgt := 68) dX10_count_31 (by decide) (by with_reducible rfl) (by omega) (fun c31 => ?_) (fun c31 => ?_) | refine V_if_le (tgt := 68) dX10_count_31 (by decide) (fun c31 => ?_) (fun c31 => ?_)
          · skip
            refine V_iloadn3 dX10_count_68 ?_
            first | refine U_if_gt (tgt := 79) dX10_count_69 (by decide) (by with_reducible rfl) (by omega) (fun c69 => ?_) (fun c69 => ?_) | refine V_if_gt (tgt := 79) dX10_count_69 (by decide) (fun c69 => ?_) (fun c69 => ?_)
            · skip
              refine V_iconst (v := -1) dX10_count_79 (by decide) ?_
              refine V_iret dX10_count_80 rfl rfl ?_
              exact hQ h1 hR1 hF.D
            · skip
              exact absurd (Nat.pos_of_ne_zero h0) c69
          · skip
            omega
      | succ x ih =>
        intro h1 s hx hp hsum hA hF
        have hR1 := RM_X hR hF
        have hM1 := hR1.1
        have hq31 : D' / 10 ^ (n - (x + 1)) < 2 ^ 31 := Nat.lt_of_le_of_lt (Nat.div_le_self _ _) hD'
        have hc : D' / 10 ^ (n - (x + 1)) % 10 = coF D' n (x + 1) := rfl
        have hnext : D' / 10 ^ (n - (x + 1)) / 10 = D' / 10 ^ (n - x) := by rw [Nat.div_div_eq_div_mul, ← Nat.pow_succ, show (n - (x + 1)).succ = n - x by omega]
        have hc9 := d9 (x + 1)
        rw [sumF] at hsum
        generalize hh2 : sI h1 118 (x + 1) (nI (coF D' n (x + 1))) = h2
        have hF2 : FrX h h2 := by rw [← hh2]; exact frx_sI hF (by omega)
        have hM2 := MLay_eq hM hF2.2.2.2
        have g2 : gI h2 118 (x + 1) = nI (coF D' n (x + 1)) := by rw [← hh2, gI_sI, if_pos ⟨rfl, rfl⟩]
        have z := ih h2 (s + coF D' n (x + 1)) (by omega) (fun p p1 p2 => by by_cases e : p = x + 1; (· rw [e]; exact g2); rw [← hh2, gI_sI, if_neg (fun z => e z.2)]; exact hp p (by omega) p2) (by omega) (fun r hr => by rw [← hh2, gI_sI, if_neg (by omega)]; exact hA r hr) hF2
        refine V_iloadw5 dX10_count_29 ?_
        first | refine U_if_le (tgt := 68) dX10_count_31 (by decide) (by with_reducible rfl) (by omega) (fun c31 => ?_) (fun c31 => ?_) | refine V_if_le (tgt := 68) dX10_count_31 (by decide) (fun c31 => ?_) (fun c31 => ?_)
        · skip
          omega
        · skip
          refine V_aloadn0 dX10_count_34 ?_
          refine V_getR dX10_count_35 fX10_86 (by first | assumption | rfl) (by first | decide | omega) (by first | assumption | exact ML_4 (by assumption) | exact ML_5 (by assumption) | exact ML_6 (by assumption) | exact ML_7 (by assumption) | exact ML_8 (by assumption) | exact ML_9 (by assumption) | exact ML_10 (by assumption) | exact ML_11 (by assumption) | exact ML_12 (by assumption) | exact ML_13 (by assumption) | exact ML_15 (by assumption) | exact ML_16 (by assumption) | exact ML_17 (by assumption) | exact ML_20 (by assumption) | exact ML_23 (by assumption) | exact ML_24 (by assumption) | exact ML_30 (by assumption) | exact ML_31 (by assumption) | exact ML_32 (by assumption) | exact ML_33 (by assumption) | exact ML_35 (by assumption) | exact ML_36 (by assumption) | exact ML_37 (by assumption) | exact ML_38 (by assumption) | exact ML_41 (by assumption) | exact ML_42 (by assumption) | exact ML_43 (by assumption) | exact ML_44 (by assumption) | exact ML_45 (by assumption) | rfl) ?_
          refine V_iloadw5 dX10_count_38 ?_
          refine V_iloadn3 dX10_count_40 ?_
          refine V_bipush (v := nI 10) dX10_count_41 (by decide) ?_
          first | refine U_irem dX10_count_43 (by with_reducible rfl) (by with_reducible rfl) (by omega) (by omega) (by omega) ?_ | refine V_irem dX10_count_43 (by decide) ?_
          rw [hc]
          refine U_iast dX10_count_44 (by with_reducible rfl) (by first | assumption | rfl) (by first | decide | omega) (by omega) ?_
          rw [hh2]
          refine V_iloadw4 dX10_count_45 ?_
          refine V_aloadn0 dX10_count_47 ?_
          refine V_getR dX10_count_48 fX10_86 (by first | assumption | rfl) (by first | decide | omega) (by first | assumption | exact ML_4 (by assumption) | exact ML_5 (by assumption) | exact ML_6 (by assumption) | exact ML_7 (by assumption) | exact ML_8 (by assumption) | exact ML_9 (by assumption) | exact ML_10 (by assumption) | exact ML_11 (by assumption) | exact ML_12 (by assumption) | exact ML_13 (by assumption) | exact ML_15 (by assumption) | exact ML_16 (by assumption) | exact ML_17 (by assumption) | exact ML_20 (by assumption) | exact ML_23 (by assumption) | exact ML_24 (by assumption) | exact ML_30 (by assumption) | exact ML_31 (by assumption) | exact ML_32 (by assumption) | exact ML_33 (by assumption) | exact ML_35 (by assumption) | exact ML_36 (by assumption) | exact ML_37 (by assumption) | exact ML_38 (by assumption) | exact ML_41 (by assumption) | exact ML_42 (by assumption) | exact ML_43 (by assumption) | exact ML_44 (by assumption) | exact ML_45 (by assumption) | rfl) ?_
          refine V_iloadw5 dX10_count_51 ?_
          refine U_iald dX10_count_53 (by with_reducible rfl) (by first | assumption | rfl) (by first | decide | omega) (by omega) (by first | assumption | exact ML_4 (by assumption) | exact ML_5 (by assumption) | exact ML_6 (by assumption) | exact ML_7 (by assumption) | exact ML_8 (by assumption) | exact ML_9 (by assumption) | exact ML_10 (by assumption) | exact ML_11 (by assumption) | exact ML_12 (by assumption) | exact ML_13 (by assumption) | exact ML_15 (by assumption) | exact ML_16 (by assumption) | exact ML_17 (by assumption) | exact ML_20 (by assumption) | exact ML_23 (by assumption) | exact ML_24 (by assumption) | exact ML_30 (by assumption) | exact ML_31 (by assumption) | exact ML_32 (by assumption) | exact ML_33 (by assumption) | exact ML_35 (by assumption) | exact ML_36 (by assumption) | exact ML_37 (by assumption) | exact ML_38 (by assumption) | exact ML_41 (by assumption) | exact ML_42 (by assumption) | exact ML_43 (by assumption) | exact ML_44 (by assumption) | exact ML_45 (by assumption) | rfl) ?_
          first | refine U_iadd dX10_count_54 (by with_reducible rfl) (by with_reducible rfl) ?_ | refine V_iadd dX10_count_54 ?_
          refine V_istorew4 dX10_count_55 (by decide) rfl ?_
          refine V_iloadn3 dX10_count_57 ?_
          refine V_bipush (v := nI 10) dX10_count_58 (by decide) ?_
          first | refine U_idiv dX10_count_60 (by with_reducible rfl) (by with_reducible rfl) (by omega) (by omega) (by omega) ?_ | refine V_idiv dX10_count_60 (by decide) ?_
          refine V_istoren3 dX10_count_61 (by decide) rfl ?_
          refine V_iinc5 dX10_count_62 (by first | exact gdecS _ | rfl) (by decide) rfl ?_
          refine V_goto (tgt := 29) dX10_count_65 (by decide) ?_
          rw [hnext, gdecP]
          exact z
    refine V_aloadn0 dX10_count_0 ?_
    refine V_iloadn1 dX10_count_1 ?_
    refine V_aloadn0 dX10_count_2 ?_
    refine V_getR dX10_count_3 fX10_89 (by first | assumption | rfl) (by first | decide | omega) (by first | assumption | exact ML_4 (by assumption) | exact ML_5 (by assumption) | exact ML_6 (by assumption) | exact ML_7 (by assumption) | exact ML_8 (by assumption) | exact ML_9 (by assumption) | exact ML_10 (by assumption) | exact ML_11 (by assumption) | exact ML_12 (by assumption) | exact ML_13 (by assumption) | exact ML_15 (by assumption) | exact ML_16 (by assumption) | exact ML_17 (by assumption) | exact ML_20 (by assumption) | exact ML_23 (by assumption) | exact ML_24 (by assumption) | exact ML_30 (by assumption) | exact ML_31 (by assumption) | exact ML_32 (by assumption) | exact ML_33 (by assumption) | exact ML_35 (by assumption) | exact ML_36 (by assumption) | exact ML_37 (by assumption) | exact ML_38 (by assumption) | exact ML_41 (by assumption) | exact ML_42 (by assumption) | exact ML_43 (by assumption) | exact ML_44 (by assumption) | exact ML_45 (by assumption) | rfl) ?_
    refine V_callV2 (μ' := mX10_isShape) dX10_count_6 okX10_isShape lX10_270 rfl (by first | assumption | rfl) (by first | decide | omega) (Nat.le_of_ble_eq_true rfl) (Nat.le_of_ble_eq_true rfl) (by omega) ?_
    refine m_isShape (n := n) hn5 (by omega) (by omega) rfl r0 (fun h1 a1 hF1 => ?_)
    rw [hs]
    have hF1X := hF1.X (by omega)
    have hR1 := RM_X hR hF1X
    have hM1 := hR1.1
    have r01 := hR1.2.1.1
    rw [hn9] at r01
    dsimp only [gPush]
    first | refine U_ifB_eq (tgt := 16) dX10_count_9 (by decide) (by with_reducible rfl) (fun c9 => ?_) (fun c9 => ?_) | refine U_if_eq (tgt := 16) dX10_count_9 (by decide) (by with_reducible rfl) (by omega) (fun c9 => ?_) (fun c9 => ?_) | refine V_if_eq (tgt := 16) dX10_count_9 (by decide) (fun c9 => ?_) (fun c9 => ?_)
    · skip
      cases c9
    · skip
      refine V_iloadn2 dX10_count_12 ?_
      refine V_if_ge (tgt := 18) dX10_count_13 (by decide) (fun c13 => ?_) (fun c13 => ?_)
      · skip
        refine V_iloadn2 dX10_count_18 ?_
        refine V_istoren3 dX10_count_19 (by decide) rfl ?_
        refine V_iconst (v := nI 0) dX10_count_20 (by decide) ?_
        refine V_istorew4 dX10_count_21 (by decide) rfl ?_
        refine V_aloadn0 dX10_count_23 ?_
        refine V_getI dX10_count_24 fX10_7 (Or.inl rfl) (by first | assumption | rfl) (by first | decide | omega) (by first | assumption | exact ML_4 (by assumption) | exact ML_5 (by assumption) | exact ML_6 (by assumption) | exact ML_7 (by assumption) | exact ML_8 (by assumption) | exact ML_9 (by assumption) | exact ML_10 (by assumption) | exact ML_11 (by assumption) | exact ML_12 (by assumption) | exact ML_13 (by assumption) | exact ML_15 (by assumption) | exact ML_16 (by assumption) | exact ML_17 (by assumption) | exact ML_20 (by assumption) | exact ML_23 (by assumption) | exact ML_24 (by assumption) | exact ML_30 (by assumption) | exact ML_31 (by assumption) | exact ML_32 (by assumption) | exact ML_33 (by assumption) | exact ML_35 (by assumption) | exact ML_36 (by assumption) | exact ML_37 (by assumption) | exact ML_38 (by assumption) | exact ML_41 (by assumption) | exact ML_42 (by assumption) | exact ML_43 (by assumption) | exact ML_44 (by assumption) | exact ML_45 (by assumption) | rfl) ?_
        refine V_istorew5 dX10_count_27 (by decide) rfl ?_
        have z := loop n h1 0 (Nat.le_refl _) (fun p p1 p2 => absurd p1 (by omega)) (Nat.zero_add _) (a1 hs) hF1X
        rw [Nat.sub_self, Nat.pow_zero, Nat.div_one] at z
        exact z
      · skip
        exact absurd (nI_pos' hD') c13
end C83
