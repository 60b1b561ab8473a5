/-! ===== the reference: what it holds; small methods ===== -/
def mRef : List (Nat × Nat) := [(4, 95), (5, 96), (6, 97), (7, 98), (8, 99), (9, 100), (10, 101), (11, 102), (12, 103), (13, 104), (15, 105), (16, 106), (17, 107), (20, 108), (23, 109), (24, 110), (30, 111), (31, 112), (32, 113), (33, 114), (35, 115), (36, 116), (37, 117), (38, 118), (41, 119), (42, 120), (43, 121), (44, 122), (45, 123)]
def MLay (h : gH) : Prop := ∀ q ∈ mRef, gR h 94 q.1 = some q.2
theorem MLay_eq {h h' : gH} (hM : MLay h) (e : gR h' = gR h) : MLay h' := fun q hq => by rw [e]; exact hM q hq
theorem ML_4 {h : gH} (hM : MLay h) : gR h 94 4 = some 95 := hM (4, 95) (by decide)
theorem ML_5 {h : gH} (hM : MLay h) : gR h 94 5 = some 96 := hM (5, 96) (by decide)
theorem ML_6 {h : gH} (hM : MLay h) : gR h 94 6 = some 97 := hM (6, 97) (by decide)
theorem ML_7 {h : gH} (hM : MLay h) : gR h 94 7 = some 98 := hM (7, 98) (by decide)
theorem ML_8 {h : gH} (hM : MLay h) : gR h 94 8 = some 99 := hM (8, 99) (by decide)
theorem ML_9 {h : gH} (hM : MLay h) : gR h 94 9 = some 100 := hM (9, 100) (by decide)
theorem ML_10 {h : gH} (hM : MLay h) : gR h 94 10 = some 101 := hM (10, 101) (by decide)
theorem ML_11 {h : gH} (hM : MLay h) : gR h 94 11 = some 102 := hM (11, 102) (by decide)
theorem ML_12 {h : gH} (hM : MLay h) : gR h 94 12 = some 103 := hM (12, 103) (by decide)
theorem ML_13 {h : gH} (hM : MLay h) : gR h 94 13 = some 104 := hM (13, 104) (by decide)
theorem ML_15 {h : gH} (hM : MLay h) : gR h 94 15 = some 105 := hM (15, 105) (by decide)
theorem ML_16 {h : gH} (hM : MLay h) : gR h 94 16 = some 106 := hM (16, 106) (by decide)
theorem ML_17 {h : gH} (hM : MLay h) : gR h 94 17 = some 107 := hM (17, 107) (by decide)
theorem ML_20 {h : gH} (hM : MLay h) : gR h 94 20 = some 108 := hM (20, 108) (by decide)
theorem ML_23 {h : gH} (hM : MLay h) : gR h 94 23 = some 109 := hM (23, 109) (by decide)
theorem ML_24 {h : gH} (hM : MLay h) : gR h 94 24 = some 110 := hM (24, 110) (by decide)
theorem ML_30 {h : gH} (hM : MLay h) : gR h 94 30 = some 111 := hM (30, 111) (by decide)
theorem ML_31 {h : gH} (hM : MLay h) : gR h 94 31 = some 112 := hM (31, 112) (by decide)
theorem ML_32 {h : gH} (hM : MLay h) : gR h 94 32 = some 113 := hM (32, 113) (by decide)
theorem ML_33 {h : gH} (hM : MLay h) : gR h 94 33 = some 114 := hM (33, 114) (by decide)
theorem ML_35 {h : gH} (hM : MLay h) : gR h 94 35 = some 115 := hM (35, 115) (by decide)
theorem ML_36 {h : gH} (hM : MLay h) : gR h 94 36 = some 116 := hM (36, 116) (by decide)
theorem ML_37 {h : gH} (hM : MLay h) : gR h 94 37 = some 117 := hM (37, 117) (by decide)
theorem ML_38 {h : gH} (hM : MLay h) : gR h 94 38 = some 118 := hM (38, 118) (by decide)
theorem ML_41 {h : gH} (hM : MLay h) : gR h 94 41 = some 119 := hM (41, 119) (by decide)
theorem ML_42 {h : gH} (hM : MLay h) : gR h 94 42 = some 120 := hM (42, 120) (by decide)
theorem ML_43 {h : gH} (hM : MLay h) : gR h 94 43 = some 121 := hM (43, 121) (by decide)
theorem ML_44 {h : gH} (hM : MLay h) : gR h 94 44 = some 122 := hM (44, 122) (by decide)
theorem ML_45 {h : gH} (hM : MLay h) : gR h 94 45 = some 123 := hM (45, 123) (by decide)
/-- things of slots in four rows -/
def MT (h : gH) (b : Nat) (T : Nat → Thg) : Prop := ∀ s, s < 6 → gI h b s = nI (T s).1 ∧ ((T s).1 ≠ 0 → gI h (b + 1) s = nI (T s).2.1.length ∧ (∀ k, k < (T s).2.1.length → gI h (b + 2) (6 * s + k) = nI ((T s).2.1.getD k 0)) ∧ ∀ k, k < 6 → gI h (b + 3) (6 * s + k) = nI ((T s).2.2.getD k 0))
def MS (h : gH) (X : Nat → Nat × Nat × (Nat → Int32)) : Prop := ∀ s, s < 4 → gI h 120 s = soI (X s).1 ∧ gI h 121 s = nI (X s).2.1 ∧ ((X s).1 ≠ 0 → ∀ k, k < 40 → gI h 122 (40 * s + k) = (X s).2.2 k)
def MB (h : gH) (B : List Nat) : Prop := gI h 94 21 = nI B.length ∧ ∀ p, p < B.length → gI h 108 p = nI (B.getD p 0)
def RM (h : gH) (S : GS) : Prop := MLay h ∧ (gI h 94 0 = nI S.1.1 ∧ gI h 94 1 = S.1.2.1 ∧ MT h 95 S.1.2.2.1 ∧ ∀ k, 1 ≤ k → k < 6 → gI h 103 k = nI (S.1.2.2.2 k)) ∧ gI h 94 14 = gBo S.2.1.isSome ∧ (∀ K, S.2.1 = some K → gI h 94 2 = nI K.1 ∧ gI h 94 3 = K.2.1 ∧ MT h 99 K.2.2.1 ∧ ∀ k, 1 ≤ k → k < 6 → gI h 104 k = nI (K.2.2.2 k)) ∧ MB h S.2.2.1 ∧ MS h S.2.2.2
/-- the reference's cells alone have changed -/
def FrD (h h' : gH) : Prop := (∀ a, a < 94 → gI h' a = gI h a) ∧ (∀ a, a < 94 → gL h' a = gL h a) ∧ gR h' = gR h
theorem FrD.rf {h : gH} : FrD h h := ⟨fun _ _ => rfl, fun _ _ => rfl, rfl⟩
theorem FrD.tr {h h' h'' : gH} (a : FrD h h') (b : FrD h' h'') : FrD h h'' := ⟨fun q hq => (b.1 q hq).trans (a.1 q hq), fun q hq => (b.2.1 q hq).trans (a.2.1 q hq), b.2.2.trans a.2.2⟩
/-- scratch cells of the reference alone have changed -/
def FrX (h h' : gH) : Prop := (∀ a, a < 94 ∨ (95 ≤ a ∧ a ≤ 104) ∨ a = 108 ∨ a = 111 ∨ a = 112 ∨ (120 ≤ a ∧ a ≤ 122) → gI h' a = gI h a) ∧ (∀ k, k ≤ 3 ∨ k = 14 ∨ k = 21 → gI h' 94 k = gI h 94 k) ∧ (∀ a, a < 94 → gL h' a = gL h a) ∧ gR h' = gR h
theorem FrX.rf {h : gH} : FrX h h := ⟨fun _ _ => rfl, fun _ _ => rfl, fun _ _ => rfl, rfl⟩
theorem FrX.tr {h h' h'' : gH} (a : FrX h h') (b : FrX h' h'') : FrX h h'' := ⟨fun q hq => (b.1 q hq).trans (a.1 q hq), fun q hq => (b.2.1 q hq).trans (a.2.1 q hq), fun q hq => (b.2.2.1 q hq).trans (a.2.2.1 q hq), b.2.2.2.trans a.2.2.2⟩
theorem FrX.D {h h' : gH} (a : FrX h h') : FrD h h' := ⟨fun q hq => a.1 q (by omega), a.2.2.1, a.2.2.2⟩
theorem frx_sI {h h' : gH} {a k : Nat} {v : Int32} (f : FrX h h') (hs : (a = 94 ∧ 3 < k ∧ k ≠ 14 ∧ k ≠ 21) ∨ (105 ≤ a ∧ a ≤ 107) ∨ (109 ≤ a ∧ a ≤ 110) ∨ (113 ≤ a ∧ a ≤ 119) ∨ a = 123) : FrX h (sI h' a k v) :=
  ⟨fun q hq => by
    funext b
    rw [gI_sI, if_neg (by omega)]; exact congrFun (f.1 q hq) b, fun q hq => by rw [gI_sI, if_neg (by omega)]; exact f.2.1 q hq, f.2.2.1, f.2.2.2⟩
theorem MT_cg {h h' : gH} {b : Nat} {T : Nat → Thg} (hT : MT h b T) (e : ∀ a, b ≤ a → a < b + 4 → gI h' a = gI h a) : MT h' b T := fun s hs => by
  obtain ⟨h1, h2⟩ := hT s hs
  refine ⟨by rw [e b (by omega) (by omega)]; exact h1, fun q => ?_⟩
  obtain ⟨h3, h4, h5⟩ := h2 q
  exact ⟨by rw [e (b + 1) (by omega) (by omega)]; exact h3, fun k hk => by rw [e (b + 2) (by omega) (by omega)]; exact h4 k hk, fun k hk => by rw [e (b + 3) (by omega) (by omega)]; exact h5 k hk⟩
theorem MS_cg {h h' : gH} {X : Nat → Nat × Nat × (Nat → Int32)} (hX : MS h X) (e : ∀ a, 120 ≤ a → a ≤ 122 → gI h' a = gI h a) : MS h' X := fun s hs => by
  obtain ⟨h1, h2, h3⟩ := hX s hs
  exact ⟨by rw [e 120 (by omega) (by omega)]; exact h1, by rw [e 121 (by omega) (by omega)]; exact h2, fun q k hk => by rw [e 122 (by omega) (by omega)]; exact h3 q k hk⟩
theorem MB_cg {h h' : gH} {B : List Nat} (hB : MB h B) (e1 : gI h' 94 21 = gI h 94 21) (e2 : gI h' 108 = gI h 108) : MB h' B := ⟨by rw [e1]; exact hB.1, fun p hp => by rw [e2]; exact hB.2 p hp⟩
theorem RM_X {h h' : gH} {S : GS} (hR : RM h S) (f : FrX h h') : RM h' S := by
  obtain ⟨c1, ⟨c2, c3, c4, c5⟩, c6, c7, c8, c9⟩ := hR
  refine ⟨MLay_eq c1 f.2.2.2, ⟨by rw [f.2.1 0 (by omega)]; exact c2, by rw [f.2.1 1 (by omega)]; exact c3, MT_cg c4 (fun a h1 h2 => f.1 a (by omega)), fun k k1 k2 => by rw [f.1 103 (by omega)]; exact c5 k k1 k2⟩, by rw [f.2.1 14 (by omega)]; exact c6, fun K hK => ?_, MB_cg c8 (f.2.1 21 (by omega)) (f.1 108 (by omega)), MS_cg c9 (fun a h1 h2 => f.1 a (by omega))⟩
  obtain ⟨d1, d2, d3, d4⟩ := c7 K hK
  exact ⟨by rw [f.2.1 2 (by omega)]; exact d1, by rw [f.2.1 3 (by omega)]; exact d2, MT_cg d3 (fun a h1 h2 => f.1 a (by omega)), fun k k1 k2 => by rw [f.1 104 (by omega)]; exact d4 k k1 k2⟩
/-- the row that is worked with -/
def WW (h : gH) (w : List Nat) : Prop := gI h 94 18 = nI w.length ∧ (∀ k, k < w.length → gI h 105 k = nI (w.getD k 0)) ∧ w.length ≤ 6 ∧ ∀ k, w.getD k 0 ≤ 9
def SH (h : gH) (L : List Nat) : Prop := (∀ k, k < 6 → gI h 106 k = nI (L.getD k 0)) ∧ ∀ k, L.getD k 0 ≤ 6
theorem inR_B (x : Int32) : inR x 0 5 = inB x 6 := by
  unfold inR inB
  by_cases h : x < 0
  · rw [decide_eq_false (show ¬ nI 0 ≤ x from Int32.not_le.mpr h), decide_eq_false (Int32.not_le.mpr h), Bool.false_and, Bool.false_and]
  · obtain ⟨a, ha, rfl⟩ := nI_of h
    rw [decide_eq_true (show nI 0 ≤ nI a from nI_pos' ha), decide_eq_true (nI_pos' ha), Bool.true_and, Bool.true_and]
    by_cases h2 : a ≤ 5
    · rw [decide_eq_true ((nI_leI ha (by decide)).mpr h2), decide_eq_true ((nI_ltI ha (by decide)).mpr (by omega))]
    · rw [decide_eq_false (fun q => h2 ((nI_leI ha (by decide)).mp q)), decide_eq_false (fun q => h2 (by have := (nI_ltI ha (by decide)).mp q; omega))]
theorem inR_B3 (x : Int32) : inR x 0 3 = inB x 4 := by
  unfold inR inB
  by_cases h : x < 0
  · rw [decide_eq_false (show ¬ nI 0 ≤ x from Int32.not_le.mpr h), decide_eq_false (Int32.not_le.mpr h), Bool.false_and, Bool.false_and]
  · obtain ⟨a, ha, rfl⟩ := nI_of h
    rw [decide_eq_true (show nI 0 ≤ nI a from nI_pos' ha), decide_eq_true (nI_pos' ha), Bool.true_and, Bool.true_and]
    by_cases h2 : a ≤ 3
    · rw [decide_eq_true ((nI_leI ha (by decide)).mpr h2), decide_eq_true ((nI_ltI ha (by decide)).mpr (by omega))]
    · rw [decide_eq_false (fun q => h2 ((nI_leI ha (by decide)).mp q)), decide_eq_false (fun q => h2 (by have := (nI_ltI ha (by decide)).mp q; omega))]
/-- from 0 up to one less -/
theorem inD_B (x : Int32) {m : Nat} (hm : m < 2 ^ 31) : (decide (nI 0 ≤ x) && decide (x ≤ nI m - nI 1)) = inB x m := by
  unfold inB
  by_cases h : x < 0
  · rw [decide_eq_false (show ¬ nI 0 ≤ x from Int32.not_le.mpr h), decide_eq_false (Int32.not_le.mpr h), Bool.false_and, Bool.false_and]
  · obtain ⟨a, ha, rfl⟩ := nI_of h
    rw [decide_eq_true (show nI 0 ≤ nI a from nI_pos' ha), decide_eq_true (nI_pos' ha), Bool.true_and, Bool.true_and]
    cases m with
    | zero =>
      rw [decide_eq_false (fun q : nI a < nI 0 => by have := (nI_ltI ha (by decide)).mp q; omega)]
      apply decide_eq_false
      intro q
      have e : nI 0 - nI 1 < 0 := by decide
      exact absurd (Int32.lt_of_le_of_lt q e) h
    | succ m =>
      rw [gdecP]
      by_cases h2 : a ≤ m
      · rw [decide_eq_true ((nI_leI ha (by omega)).mpr h2), decide_eq_true ((nI_ltI ha hm).mpr (by omega))]
      · rw [decide_eq_false (fun q => h2 ((nI_leI ha (by omega)).mp q)), decide_eq_false (fun q => h2 (by have := (nI_ltI ha hm).mp q; omega))]
theorem inR_S (x : Int32) {n : Nat} (hn : 1 ≤ n) (hn5 : n ≤ 5) : inR x 1 (n - 1) = inS x n := by
  unfold inR inS
  congr 1
  by_cases h : x < 0
  · have h1 : x ≤ nI (n - 1) := Int32.le_of_lt (Int32.lt_of_lt_of_le h (nI_pos' (by omega)))
    have h2 : x < nI n := Int32.lt_of_lt_of_le h (nI_pos' (by omega))
    rw [decide_eq_true h1, decide_eq_true h2]
  · obtain ⟨a, ha, rfl⟩ := nI_of h
    by_cases h2 : a ≤ n - 1
    · rw [decide_eq_true ((nI_leI ha (by omega)).mpr h2), decide_eq_true ((nI_ltI ha (by omega)).mpr (by omega))]
    · rw [decide_eq_false (fun q => h2 ((nI_leI ha (by omega)).mp q)), decide_eq_false (fun q => h2 (by have := (nI_ltI ha (by omega)).mp q; omega))]
theorem le_sum_get : ∀ (L : List Nat) (j : Nat), L.getD j 0 ≤ L.sum
  | [], j => by simp
  | a :: L, 0 => by simp
  | a :: L, j + 1 => by
    have := le_sum_get L j
    rw [List.getD_cons_succ, List.sum_cons]
    omega
section C60
variable {Γ : gM} {d : Nat} {h : gH} {Q : Option Value → gH → Prop} {S : GS}
set_option maxRecDepth 100000 in
set_option maxHeartbeats 4000000 in
theorem m_in {v a b : Int32} (hQ : Q (some (.int (gBo (decide (a ≤ v) && decide (v ≤ b))))) h) : V Γ mX10_in d 124 124 h 0 [some (.int v), some (.int a), some (.int b)] [] Q := by
  refine V_iloadn0 dX10_in_0 ?_
  refine V_iloadn1 dX10_in_1 ?_
  refine V_icmp_lt (tgt := 14) dX10_in_2 (by decide) (fun c2 => ?_) (fun c2 => ?_)
  · rw [decide_eq_false (Int32.not_le.mpr c2), Bool.false_and, gBo_f] at hQ
    refine V_iconst (v := nI 0) dX10_in_14 (by decide) ?_
    refine V_iret dX10_in_15 rfl (by decide) ?_
    exact hQ
  refine V_iloadn0 dX10_in_5 ?_
  refine V_iloadn2 dX10_in_6 ?_
  refine V_icmp_gt (tgt := 14) dX10_in_7 (by decide) (fun c7 => ?_) (fun c7 => ?_)
  · rw [decide_eq_false (Int32.not_le.mpr c7), Bool.and_false, gBo_f] at hQ
    refine V_iconst (v := nI 0) dX10_in_14 (by decide) ?_
    refine V_iret dX10_in_15 rfl (by decide) ?_
    exact hQ
  rw [decide_eq_true (Int32.not_lt.mp c2), decide_eq_true (Int32.not_lt.mp c7), Bool.true_and, gBo_t] at hQ
  refine V_iconst (v := nI 1) dX10_in_10 (by decide) ?_
  refine V_goto (tgt := 15) dX10_in_11 (by decide) ?_
  refine V_iret dX10_in_15 rfl (by first | exact gBo_nar _ | rfl | decide) ?_
  exact hQ
theorem m_inR {v : Int32} {a b : Nat} (hQ : Q (some (.int (gBo (inR v a b)))) h) : V Γ mX10_in d 124 124 h 0 [some (.int v), some (.int (nI a)), some (.int (nI b))] [] Q := m_in hQ
set_option maxRecDepth 100000 in
set_option maxHeartbeats 4000000 in
theorem m_isSlot {v : Int32} (hd : 1 ≤ d) (hQ : Q (some (.int (gBo (inB v 6)))) h) : V Γ mX10_isSlot d 124 124 h 0 [some (.int v)] [] Q := by
  rw [← inR_B] at hQ
  refine V_iloadn0 dX10_isSlot_0 ?_
  refine V_iconst (v := nI 0) dX10_isSlot_1 (by decide) ?_
  refine V_iconst (v := nI 5) dX10_isSlot_2 (by decide) ?_
  refine V_callS3 (μ' := mX10_in) dX10_isSlot_3 okX10_in lX10_104 (Nat.le_of_ble_eq_true rfl) (Nat.le_of_ble_eq_true rfl) (by omega) ?_
  refine m_inR ?_
  dsimp only [gPush]
  refine V_iret dX10_isSlot_6 rfl (by first | exact gBo_nar _ | rfl | decide) ?_
  exact hQ
set_option maxRecDepth 100000 in
set_option maxHeartbeats 4000000 in
theorem m_isSheet {v : Int32} (hd : 1 ≤ d) (hQ : Q (some (.int (gBo (inB v 4)))) h) : V Γ mX10_isSheet d 124 124 h 0 [some (.int v)] [] Q := by
  rw [← inR_B3] at hQ
  refine V_iloadn0 dX10_isSheet_0 ?_
  refine V_iconst (v := nI 0) dX10_isSheet_1 (by decide) ?_
  refine V_iconst (v := nI 3) dX10_isSheet_2 (by decide) ?_
  refine V_callS3 (μ' := mX10_in) dX10_isSheet_3 okX10_in lX10_104 (Nat.le_of_ble_eq_true rfl) (Nat.le_of_ble_eq_true rfl) (by omega) ?_
  refine m_inR ?_
  dsimp only [gPush]
  refine V_iret dX10_isSheet_6 rfl (by first | exact gBo_nar _ | rfl | decide) ?_
  exact hQ
set_option maxRecDepth 100000 in
set_option maxHeartbeats 4000000 in
theorem m_isSign {v : Int32} {n : Nat} (hd : 1 ≤ d) (hn : 1 ≤ n) (hn5 : n ≤ 5) (i0 : gI h 94 0 = nI n) (hQ : Q (some (.int (gBo (inS v n)))) h) : V Γ mX10_isSign d 124 124 h 0 [some (.ref 94), some (.int v)] [] Q := by
  rw [← inR_S v hn hn5] at hQ
  refine V_iloadn1 dX10_isSign_0 ?_
  refine V_iconst (v := nI 1) dX10_isSign_1 (by decide) ?_
  refine V_aloadn0 dX10_isSign_2 ?_
  refine V_getI dX10_isSign_3 fX10_7 (Or.inl rfl) (by first | assumption | rfl) (by first | decide | omega) (by first | assumption | exact ML_4 (by assumption) | exact ML_5 (by assumption) | exact ML_6 (by assumption) | exact ML_7 (by assumption) | exact ML_8 (by assumption) | exact ML_9 (by assumption) | exact ML_10 (by assumption) | exact ML_11 (by assumption) | exact ML_12 (by assumption) | exact ML_13 (by assumption) | exact ML_15 (by assumption) | exact ML_16 (by assumption) | exact ML_17 (by assumption) | exact ML_20 (by assumption) | exact ML_23 (by assumption) | exact ML_24 (by assumption) | exact ML_30 (by assumption) | exact ML_31 (by assumption) | exact ML_32 (by assumption) | exact ML_33 (by assumption) | exact ML_35 (by assumption) | exact ML_36 (by assumption) | exact ML_37 (by assumption) | exact ML_38 (by assumption) | exact ML_41 (by assumption) | exact ML_42 (by assumption) | exact ML_43 (by assumption) | exact ML_44 (by assumption) | exact ML_45 (by assumption) | rfl) ?_
  refine V_iconst (v := nI 1) dX10_isSign_6 (by decide) ?_
  first | refine U_isub dX10_isSign_7 (by with_reducible rfl) (by with_reducible rfl) (by omega) ?_ | refine V_isub dX10_isSign_7 ?_
  refine V_callS3 (μ' := mX10_in) dX10_isSign_8 okX10_in lX10_104 (Nat.le_of_ble_eq_true rfl) (Nat.le_of_ble_eq_true rfl) (by omega) ?_
  refine m_inR ?_
  dsimp only [gPush]
  refine V_iret dX10_isSign_11 rfl (by first | exact gBo_nar _ | rfl | decide) ?_
  exact hQ
set_option maxRecDepth 100000 in
set_option maxHeartbeats 4000000 in
theorem m_takes {s : Nat} (hs : s < 6) (hR : RM h S) (hW : WT S.1.1 (S.1.2.2.1 s)) (hn5 : S.1.1 ≤ 5) (hz : (S.1.2.2.1 s).1 ≠ 0) (hQ : ∀ h', gI h' 94 19 = nI (S.1.2.2.1 s).1 → WW h' (S.1.2.2.1 s).2.1 → SH h' (S.1.2.2.1 s).2.2 → RM h' S → FrX h h' → Q none h') : V Γ mX10_takes d 124 124 h 0 [some (.ref 94), some (.int (nI s)), none] [] Q := by
  obtain ⟨hM, ⟨r0, r1, rT, rW⟩, -⟩ := id hR
  obtain ⟨t0, tz⟩ := rT s hs
  obtain ⟨t1, t2, t3⟩ := tz hz
  have hwl := hW.2.1
  have hlt := hW.2.2.1
  have hb : ∀ j, (S.1.2.2.1 s).2.1.getD j 0 ≤ 9 := fun j => by
    by_cases c : j < (S.1.2.2.1 s).2.1.length
    · have := (hlt j c).2; omega
    · rw [List.getD_eq_getElem?_getD, List.getElem?_eq_none (by omega)]; decide
  have hL6 : ∀ j, (S.1.2.2.1 s).2.2.getD j 0 ≤ 6 := fun j => by
    by_cases k2 : (S.1.2.2.1 s).1 = 2
    · have e := rnL_sum6 hW k2
      have h1 := le_sum_get (S.1.2.2.1 s).2.2 j
      omega
    · rw [hW.2.2.2.2.1 k2]; simp
  have loop : ∀ f k h1, k + f = 6 → gI h1 94 19 = nI (S.1.2.2.1 s).1 → gI h1 94 18 = nI (S.1.2.2.1 s).2.1.length → (∀ j, j < k → j < (S.1.2.2.1 s).2.1.length → gI h1 105 j = nI ((S.1.2.2.1 s).2.1.getD j 0)) → (∀ j, j < k → gI h1 106 j = nI ((S.1.2.2.1 s).2.2.getD j 0)) → FrX h h1 → V Γ mX10_takes d 124 124 h1 22 [some (.ref 94), some (.int (nI s)), some (.int (nI k))] [] Q := by
    intro f
    induction f with
    | zero =>
      intro k h1 hk a1 a2 a3 a4 hF
      have hR1 := RM_X hR hF
      refine V_iloadn2 dX10_takes_22 ?_
      refine V_bipush (v := nI 6) dX10_takes_23 (by decide) ?_
      first | refine U_icmp_ge (tgt := 68) dX10_takes_25 (by decide) (by with_reducible rfl) (by with_reducible rfl) (by omega) (by omega) (fun c25 => ?_) (fun c25 => ?_) | refine V_icmp_ge (tgt := 68) dX10_takes_25 (by decide) (fun c25 => ?_) (fun c25 => ?_)
      · skip
        refine V_ret dX10_takes_68 rfl ?_
        exact hQ h1 a1 ⟨a2, fun j hj => a3 j (by omega) hj, hwl, hb⟩ ⟨fun j hj => a4 j (by omega), hL6⟩ hR1 hF
      · skip
        omega
    | succ f ih =>
      intro k h1 hk a1 a2 a3 a4 hF
      have hM1 := MLay_eq hM hF.2.2.2
      have g98 : ∀ v, gI (sI h1 105 k v) 98 (6 * s + k) = nI ((S.1.2.2.1 s).2.2.getD k 0) := fun v => by rw [gI_sI, if_neg (by omega), hF.1 98 (by omega)]; exact t3 k (by omega)
      have hM2 : ∀ v, MLay (sI h1 105 k v) := fun v => MLay_eq hM1 rfl
      refine V_iloadn2 dX10_takes_22 ?_
      refine V_bipush (v := nI 6) dX10_takes_23 (by decide) ?_
      first | refine U_icmp_ge (tgt := 68) dX10_takes_25 (by decide) (by with_reducible rfl) (by with_reducible rfl) (by omega) (by omega) (fun c25 => ?_) (fun c25 => ?_) | refine V_icmp_ge (tgt := 68) dX10_takes_25 (by decide) (fun c25 => ?_) (fun c25 => ?_)
      · skip
        omega
      · skip
        refine V_aloadn0 dX10_takes_28 ?_
        refine V_getR dX10_takes_29 fX10_47 (by first | assumption | rfl) (by first | decide | omega) (by first | assumption | exact ML_16 (MLay_eq hM1 rfl) | exact ML_7 (MLay_eq hM1 rfl) | exact g98 _ | exact ML_4 (by assumption) | exact ML_5 (by assumption) | exact ML_6 (by assumption) | exact ML_7 (by assumption) | exact ML_8 (by assumption) | exact ML_9 (by assumption) | exact ML_10 (by assumption) | exact ML_11 (by assumption) | exact ML_12 (by assumption) | exact ML_13 (by assumption) | exact ML_15 (by assumption) | exact ML_16 (by assumption) | exact ML_17 (by assumption) | exact ML_20 (by assumption) | exact ML_23 (by assumption) | exact ML_24 (by assumption) | exact ML_30 (by assumption) | exact ML_31 (by assumption) | exact ML_32 (by assumption) | exact ML_33 (by assumption) | exact ML_35 (by assumption) | exact ML_36 (by assumption) | exact ML_37 (by assumption) | exact ML_38 (by assumption) | exact ML_41 (by assumption) | exact ML_42 (by assumption) | exact ML_43 (by assumption) | exact ML_44 (by assumption) | exact ML_45 (by assumption) | rfl) ?_
        refine V_iloadn2 dX10_takes_32 ?_
        refine V_aloadn0 dX10_takes_33 ?_
        refine V_getR dX10_takes_34 fX10_23 (by first | assumption | rfl) (by first | decide | omega) (by first | assumption | exact ML_16 (MLay_eq hM1 rfl) | exact ML_7 (MLay_eq hM1 rfl) | exact g98 _ | exact ML_4 (by assumption) | exact ML_5 (by assumption) | exact ML_6 (by assumption) | exact ML_7 (by assumption) | exact ML_8 (by assumption) | exact ML_9 (by assumption) | exact ML_10 (by assumption) | exact ML_11 (by assumption) | exact ML_12 (by assumption) | exact ML_13 (by assumption) | exact ML_15 (by assumption) | exact ML_16 (by assumption) | exact ML_17 (by assumption) | exact ML_20 (by assumption) | exact ML_23 (by assumption) | exact ML_24 (by assumption) | exact ML_30 (by assumption) | exact ML_31 (by assumption) | exact ML_32 (by assumption) | exact ML_33 (by assumption) | exact ML_35 (by assumption) | exact ML_36 (by assumption) | exact ML_37 (by assumption) | exact ML_38 (by assumption) | exact ML_41 (by assumption) | exact ML_42 (by assumption) | exact ML_43 (by assumption) | exact ML_44 (by assumption) | exact ML_45 (by assumption) | rfl) ?_
        refine V_bipush (v := nI 6) dX10_takes_37 (by decide) ?_
        refine V_iloadn1 dX10_takes_39 ?_
        first | refine U_imul dX10_takes_40 (by with_reducible rfl) (by with_reducible rfl) ?_ | refine V_imul dX10_takes_40 ?_
        refine V_iloadn2 dX10_takes_41 ?_
        first | refine U_iadd dX10_takes_42 (by with_reducible rfl) (by with_reducible rfl) ?_ | refine V_iadd dX10_takes_42 ?_
        refine U_iald dX10_takes_43 (by with_reducible rfl) (by first | assumption | rfl) (by first | decide | omega) (by omega) (by first | assumption | exact ML_16 (MLay_eq hM1 rfl) | exact ML_7 (MLay_eq hM1 rfl) | exact g98 _ | exact ML_4 (by assumption) | exact ML_5 (by assumption) | exact ML_6 (by assumption) | exact ML_7 (by assumption) | exact ML_8 (by assumption) | exact ML_9 (by assumption) | exact ML_10 (by assumption) | exact ML_11 (by assumption) | exact ML_12 (by assumption) | exact ML_13 (by assumption) | exact ML_15 (by assumption) | exact ML_16 (by assumption) | exact ML_17 (by assumption) | exact ML_20 (by assumption) | exact ML_23 (by assumption) | exact ML_24 (by assumption) | exact ML_30 (by assumption) | exact ML_31 (by assumption) | exact ML_32 (by assumption) | exact ML_33 (by assumption) | exact ML_35 (by assumption) | exact ML_36 (by assumption) | exact ML_37 (by assumption) | exact ML_38 (by assumption) | exact ML_41 (by assumption) | exact ML_42 (by assumption) | exact ML_43 (by assumption) | exact ML_44 (by assumption) | exact ML_45 (by assumption) | rfl) ?_
        refine U_iast dX10_takes_44 (by with_reducible rfl) (by first | assumption | rfl) (by first | decide | omega) (by omega) ?_
        refine V_aloadn0 dX10_takes_45 ?_
        refine V_getR dX10_takes_46 fX10_50 (by first | assumption | rfl) (by first | decide | omega) (by first | assumption | exact ML_16 (MLay_eq hM1 rfl) | exact ML_7 (MLay_eq hM1 rfl) | exact g98 _ | exact ML_4 (by assumption) | exact ML_5 (by assumption) | exact ML_6 (by assumption) | exact ML_7 (by assumption) | exact ML_8 (by assumption) | exact ML_9 (by assumption) | exact ML_10 (by assumption) | exact ML_11 (by assumption) | exact ML_12 (by assumption) | exact ML_13 (by assumption) | exact ML_15 (by assumption) | exact ML_16 (by assumption) | exact ML_17 (by assumption) | exact ML_20 (by assumption) | exact ML_23 (by assumption) | exact ML_24 (by assumption) | exact ML_30 (by assumption) | exact ML_31 (by assumption) | exact ML_32 (by assumption) | exact ML_33 (by assumption) | exact ML_35 (by assumption) | exact ML_36 (by assumption) | exact ML_37 (by assumption) | exact ML_38 (by assumption) | exact ML_41 (by assumption) | exact ML_42 (by assumption) | exact ML_43 (by assumption) | exact ML_44 (by assumption) | exact ML_45 (by assumption) | rfl) ?_
        refine V_iloadn2 dX10_takes_49 ?_
        refine V_aloadn0 dX10_takes_50 ?_
        refine V_getR dX10_takes_51 fX10_26 (by first | assumption | rfl) (by first | decide | omega) (by first | assumption | exact ML_16 (MLay_eq hM1 rfl) | exact ML_7 (MLay_eq hM1 rfl) | exact g98 _ | exact ML_4 (by assumption) | exact ML_5 (by assumption) | exact ML_6 (by assumption) | exact ML_7 (by assumption) | exact ML_8 (by assumption) | exact ML_9 (by assumption) | exact ML_10 (by assumption) | exact ML_11 (by assumption) | exact ML_12 (by assumption) | exact ML_13 (by assumption) | exact ML_15 (by assumption) | exact ML_16 (by assumption) | exact ML_17 (by assumption) | exact ML_20 (by assumption) | exact ML_23 (by assumption) | exact ML_24 (by assumption) | exact ML_30 (by assumption) | exact ML_31 (by assumption) | exact ML_32 (by assumption) | exact ML_33 (by assumption) | exact ML_35 (by assumption) | exact ML_36 (by assumption) | exact ML_37 (by assumption) | exact ML_38 (by assumption) | exact ML_41 (by assumption) | exact ML_42 (by assumption) | exact ML_43 (by assumption) | exact ML_44 (by assumption) | exact ML_45 (by assumption) | rfl) ?_
        refine V_bipush (v := nI 6) dX10_takes_54 (by decide) ?_
        refine V_iloadn1 dX10_takes_56 ?_
        first | refine U_imul dX10_takes_57 (by with_reducible rfl) (by with_reducible rfl) ?_ | refine V_imul dX10_takes_57 ?_
        refine V_iloadn2 dX10_takes_58 ?_
        first | refine U_iadd dX10_takes_59 (by with_reducible rfl) (by with_reducible rfl) ?_ | refine V_iadd dX10_takes_59 ?_
        refine U_iald dX10_takes_60 (by with_reducible rfl) (by first | assumption | rfl) (by first | decide | omega) (by omega) (by first | assumption | exact ML_16 (MLay_eq hM1 rfl) | exact ML_7 (MLay_eq hM1 rfl) | exact g98 _ | exact ML_4 (by assumption) | exact ML_5 (by assumption) | exact ML_6 (by assumption) | exact ML_7 (by assumption) | exact ML_8 (by assumption) | exact ML_9 (by assumption) | exact ML_10 (by assumption) | exact ML_11 (by assumption) | exact ML_12 (by assumption) | exact ML_13 (by assumption) | exact ML_15 (by assumption) | exact ML_16 (by assumption) | exact ML_17 (by assumption) | exact ML_20 (by assumption) | exact ML_23 (by assumption) | exact ML_24 (by assumption) | exact ML_30 (by assumption) | exact ML_31 (by assumption) | exact ML_32 (by assumption) | exact ML_33 (by assumption) | exact ML_35 (by assumption) | exact ML_36 (by assumption) | exact ML_37 (by assumption) | exact ML_38 (by assumption) | exact ML_41 (by assumption) | exact ML_42 (by assumption) | exact ML_43 (by assumption) | exact ML_44 (by assumption) | exact ML_45 (by assumption) | rfl) ?_
        refine U_iast dX10_takes_61 (by with_reducible rfl) (by first | assumption | rfl) (by first | decide | omega) (by omega) ?_
        refine V_iinc2 dX10_takes_62 (by first | exact ginc1 _ | rfl) (by decide) rfl ?_
        refine V_goto (tgt := 22) dX10_takes_65 (by decide) ?_
        refine ih (k + 1) _ (by omega) ?_ ?_ (fun j j1 j2 => ?_) (fun j j1 => ?_) (frx_sI (frx_sI hF (by omega)) (by omega))
        · rw [gI_sI, if_neg (by omega), gI_sI, if_neg (by omega)]; exact a1
        · rw [gI_sI, if_neg (by omega), gI_sI, if_neg (by omega)]; exact a2
        · rw [gI_sI, if_neg (by omega), gI_sI]
          by_cases e : j = k
          · rw [if_pos ⟨rfl, e⟩, hF.1 97 (by omega), e]; exact t2 k (by omega)
          · rw [if_neg (fun q => e q.2)]; exact a3 j (by omega) j2
        · rw [gI_sI]
          by_cases e : j = k
          · rw [if_pos ⟨rfl, e⟩, e]
          · rw [if_neg (fun q => e q.2), gI_sI, if_neg (by omega)]; exact a4 j (by omega)
  have g96 : gI (sI h 94 19 (nI (S.1.2.2.1 s).1)) 96 s = nI (S.1.2.2.1 s).2.1.length := by rw [gI_sI, if_neg (by omega)]; exact t1
  refine V_aloadn0 dX10_takes_0 ?_
  refine V_aloadn0 dX10_takes_1 ?_
  refine V_getR dX10_takes_2 fX10_16 (by first | assumption | rfl) (by first | decide | omega) (by first | assumption | exact ML_5 (MLay_eq hM rfl) | exact ML_4 (by assumption) | exact ML_5 (by assumption) | exact ML_6 (by assumption) | exact ML_7 (by assumption) | exact ML_8 (by assumption) | exact ML_9 (by assumption) | exact ML_10 (by assumption) | exact ML_11 (by assumption) | exact ML_12 (by assumption) | exact ML_13 (by assumption) | exact ML_15 (by assumption) | exact ML_16 (by assumption) | exact ML_17 (by assumption) | exact ML_20 (by assumption) | exact ML_23 (by assumption) | exact ML_24 (by assumption) | exact ML_30 (by assumption) | exact ML_31 (by assumption) | exact ML_32 (by assumption) | exact ML_33 (by assumption) | exact ML_35 (by assumption) | exact ML_36 (by assumption) | exact ML_37 (by assumption) | exact ML_38 (by assumption) | exact ML_41 (by assumption) | exact ML_42 (by assumption) | exact ML_43 (by assumption) | exact ML_44 (by assumption) | exact ML_45 (by assumption) | rfl) ?_
  refine V_iloadn1 dX10_takes_5 ?_
  refine U_iald dX10_takes_6 (by with_reducible rfl) (by first | assumption | rfl) (by first | decide | omega) (by omega) (by first | assumption | exact ML_5 (MLay_eq hM rfl) | exact ML_4 (by assumption) | exact ML_5 (by assumption) | exact ML_6 (by assumption) | exact ML_7 (by assumption) | exact ML_8 (by assumption) | exact ML_9 (by assumption) | exact ML_10 (by assumption) | exact ML_11 (by assumption) | exact ML_12 (by assumption) | exact ML_13 (by assumption) | exact ML_15 (by assumption) | exact ML_16 (by assumption) | exact ML_17 (by assumption) | exact ML_20 (by assumption) | exact ML_23 (by assumption) | exact ML_24 (by assumption) | exact ML_30 (by assumption) | exact ML_31 (by assumption) | exact ML_32 (by assumption) | exact ML_33 (by assumption) | exact ML_35 (by assumption) | exact ML_36 (by assumption) | exact ML_37 (by assumption) | exact ML_38 (by assumption) | exact ML_41 (by assumption) | exact ML_42 (by assumption) | exact ML_43 (by assumption) | exact ML_44 (by assumption) | exact ML_45 (by assumption) | rfl) ?_
  refine V_putI dX10_takes_7 fX10_108 (by first | assumption | rfl) (by first | decide | omega) ?_
  refine V_aloadn0 dX10_takes_10 ?_
  refine V_aloadn0 dX10_takes_11 ?_
  refine V_getR dX10_takes_12 fX10_20 (by first | assumption | rfl) (by first | decide | omega) (by first | assumption | exact ML_5 (MLay_eq hM rfl) | exact ML_4 (by assumption) | exact ML_5 (by assumption) | exact ML_6 (by assumption) | exact ML_7 (by assumption) | exact ML_8 (by assumption) | exact ML_9 (by assumption) | exact ML_10 (by assumption) | exact ML_11 (by assumption) | exact ML_12 (by assumption) | exact ML_13 (by assumption) | exact ML_15 (by assumption) | exact ML_16 (by assumption) | exact ML_17 (by assumption) | exact ML_20 (by assumption) | exact ML_23 (by assumption) | exact ML_24 (by assumption) | exact ML_30 (by assumption) | exact ML_31 (by assumption) | exact ML_32 (by assumption) | exact ML_33 (by assumption) | exact ML_35 (by assumption) | exact ML_36 (by assumption) | exact ML_37 (by assumption) | exact ML_38 (by assumption) | exact ML_41 (by assumption) | exact ML_42 (by assumption) | exact ML_43 (by assumption) | exact ML_44 (by assumption) | exact ML_45 (by assumption) | rfl) ?_
  refine V_iloadn1 dX10_takes_15 ?_
  refine U_iald dX10_takes_16 (by with_reducible rfl) (by first | assumption | rfl) (by first | decide | omega) (by omega) (by first | assumption | exact ML_5 (MLay_eq hM rfl) | exact ML_4 (by assumption) | exact ML_5 (by assumption) | exact ML_6 (by assumption) | exact ML_7 (by assumption) | exact ML_8 (by assumption) | exact ML_9 (by assumption) | exact ML_10 (by assumption) | exact ML_11 (by assumption) | exact ML_12 (by assumption) | exact ML_13 (by assumption) | exact ML_15 (by assumption) | exact ML_16 (by assumption) | exact ML_17 (by assumption) | exact ML_20 (by assumption) | exact ML_23 (by assumption) | exact ML_24 (by assumption) | exact ML_30 (by assumption) | exact ML_31 (by assumption) | exact ML_32 (by assumption) | exact ML_33 (by assumption) | exact ML_35 (by assumption) | exact ML_36 (by assumption) | exact ML_37 (by assumption) | exact ML_38 (by assumption) | exact ML_41 (by assumption) | exact ML_42 (by assumption) | exact ML_43 (by assumption) | exact ML_44 (by assumption) | exact ML_45 (by assumption) | rfl) ?_
  refine V_putI dX10_takes_17 fX10_111 (by first | assumption | rfl) (by first | decide | omega) ?_
  refine V_iconst (v := nI 0) dX10_takes_20 (by decide) ?_
  refine V_istoren2 dX10_takes_21 (by decide) rfl ?_
  refine loop 6 0 _ rfl ?_ ?_ (fun j hj => absurd hj (Nat.not_lt_zero _)) (fun j hj => absurd hj (Nat.not_lt_zero _)) (frx_sI (frx_sI FrX.rf (by omega)) (by omega))
  · rw [gI_sI, if_neg (by omega), gI_sI, if_pos ⟨rfl, rfl⟩]
  · rw [gI_sI, if_pos ⟨rfl, rfl⟩]
end C60
