/-! ===== the reference: lays, read, content ===== -/
theorem L_pos {n : Nat} {T : Thg} (hW : WT n T) : (∀ r, r < T.2.2.length → 0 < T.2.2.getD r 0) ∧ T.2.2.length ≤ 6 := by
  by_cases k2 : T.1 = 2
  · have e := hW.2.2.2.2.2 k2
    have hs := rnL_sum6 hW k2
    have hp : ∀ x ∈ T.2.2, 0 < x := fun x hx => by
      rw [e, List.mem_reverse] at hx
      exact rnL_pos _ x hx
    refine ⟨fun r hr => ?_, ?_⟩
    · rw [List.getD_eq_getElem?_getD, List.getElem?_eq_getElem hr]
      exact hp _ (List.getElem_mem hr)
    · have key : ∀ L : List Nat, (∀ x ∈ L, 0 < x) → L.length ≤ L.sum := by
        intro L
        induction L with
        | nil => intro _; simp
        | cons a L ih =>
          intro h
          have h1 := h a List.mem_cons_self
          have h2 := ih (fun x hx => h x (List.mem_cons_of_mem _ hx))
          rw [List.length_cons, List.sum_cons]
          omega
      have := key _ hp
      have := hW.2.1
      omega
  · rw [hW.2.2.2.2.1 k2]
    exact ⟨fun r hr => absurd hr (Nat.not_lt_zero _), by decide⟩
theorem RM_put {h h' : gH} {S : GS} {s kd : Nat} {w L : List Nat} (hR : RM h S) (hW : WS S.1) (h0 : gI h' 95 s = nI kd) (h1 : gI h' 96 s = nI w.length) (h2 : ∀ k, k < w.length → gI h' 97 (6 * s + k) = nI (w.getD k 0)) (h3 : ∀ k, k < 6 → gI h' 98 (6 * s + k) = nI (L.getD k 0))
    (o0 : ∀ q, q ≠ s → gI h' 95 q = gI h 95 q) (o1 : ∀ q, q ≠ s → gI h' 96 q = gI h 96 q) (o2 : ∀ q, q < 6 * s ∨ 6 * s + 6 ≤ q → gI h' 97 q = gI h 97 q) (o3 : ∀ q, q < 6 * s ∨ 6 * s + 6 ≤ q → gI h' 98 q = gI h 98 q) (e : ∀ a, a < 95 ∨ 99 ≤ a → gI h' a = gI h a) (k : gR h' = gR h) : RM h' (putT S s (kd, w, L)) := by
  obtain ⟨c1, ⟨c2, c3, c4, c5⟩, c6, c7, c8, c9⟩ := hR
  refine ⟨MLay_eq c1 k, ⟨by rw [e 94 (by omega)]; exact c2, by rw [e 94 (by omega)]; exact c3, fun q hq => ?_, fun j j1 j2 => by rw [e 103 (by omega)]; exact c5 j j1 j2⟩, by rw [e 94 (by omega)]; exact c6, fun K hK => ?_, MB_cg c8 (by rw [e 94 (by omega)]) (e 108 (by omega)), MS_cg c9 (fun a a1 a2 => e a (by omega))⟩
  · show gI h' 95 q = nI (if q = s then (kd, w, L) else S.1.2.2.1 q).1 ∧ ((if q = s then (kd, w, L) else S.1.2.2.1 q).1 ≠ 0 → gI h' (95 + 1) q = nI (if q = s then (kd, w, L) else S.1.2.2.1 q).2.1.length ∧ (∀ k, k < (if q = s then (kd, w, L) else S.1.2.2.1 q).2.1.length → gI h' (95 + 2) (6 * q + k) = nI ((if q = s then (kd, w, L) else S.1.2.2.1 q).2.1.getD k 0)) ∧ ∀ k, k < 6 → gI h' (95 + 3) (6 * q + k) = nI ((if q = s then (kd, w, L) else S.1.2.2.1 q).2.2.getD k 0))
    by_cases eq : q = s
    · subst eq
      rw [if_pos rfl]
      exact ⟨h0, fun _ => ⟨h1, h2, h3⟩⟩
    · rw [if_neg eq]
      obtain ⟨d0, d1⟩ := c4 q hq
      refine ⟨by rw [o0 q eq]; exact d0, fun z => ?_⟩
      obtain ⟨d2, d3, d4⟩ := d1 z
      refine ⟨by rw [o1 q eq]; exact d2, fun k hk => ?_, fun k hk => ?_⟩
      · have hk6 : k < 6 := Nat.lt_of_lt_of_le hk (hW.2.2.1 q hq).2.1
        rw [o2 _ (by omega)]; exact d3 k hk
      · rw [o3 _ (by omega)]; exact d4 k hk
  · obtain ⟨d1, d2, d3, d4⟩ := c7 K hK
    exact ⟨by rw [e 94 (by omega)]; exact d1, by rw [e 94 (by omega)]; exact d2, MT_cg d3 (fun a h1 h2 => e a (by omega)), fun k k1 k2 => by rw [e 104 (by omega)]; exact d4 k k1 k2⟩
section C61
variable {Γ : gM} {d : Nat} {h : gH} {Q : Option Value → gH → Prop} {S : GS}
set_option maxRecDepth 100000 in
set_option maxHeartbeats 4000000 in
theorem m_lays {s kd : Nat} {w L : List Nat} (hs : s < 6) (hR : RM h S) (hWS : WS S.1) (hk2 : kd ≤ 2) (hk : gI h 94 19 = nI kd) (hW : WW h w) (hL : kd = 2 → SH h L) (hL1 : kd ≠ 2 → L = []) (hQ : ∀ h', RM h' (putT S s (kd, w, L)) → (∀ a, a < 95 ∨ 99 ≤ a → gI h' a = gI h a) → gL h' = gL h → gR h' = gR h → Q none h') : V Γ mX10_lays d 124 124 h 0 [some (.ref 94), some (.int (nI s)), none] [] Q := by
  obtain ⟨hM, -⟩ := id hR
  obtain ⟨w0, w1, w6, w9⟩ := hW
  have loop : ∀ f k h1, k + f = 6 → gI h1 95 s = nI kd → gI h1 96 s = nI w.length → (∀ j, j < k → j < w.length → gI h1 97 (6 * s + j) = nI (w.getD j 0)) → (∀ j, j < k → gI h1 98 (6 * s + j) = nI (L.getD j 0)) → (∀ q, q ≠ s → gI h1 95 q = gI h 95 q) → (∀ q, q ≠ s → gI h1 96 q = gI h 96 q) → (∀ q, q < 6 * s ∨ 6 * s + 6 ≤ q → gI h1 97 q = gI h 97 q) → (∀ q, q < 6 * s ∨ 6 * s + 6 ≤ q → gI h1 98 q = gI h 98 q) → (∀ a, a < 95 ∨ 99 ≤ a → gI h1 a = gI h a) → gL h1 = gL h → gR h1 = gR h → V Γ mX10_lays d 124 124 h1 22 [some (.ref 94), some (.int (nI s)), some (.int (nI k))] [] Q := by
    intro f
    induction f with
    | zero =>
      intro k h1 hkf a0 a1 a2 a3 o0 o1 o2 o3 e l r
      refine V_iloadn2 dX10_lays_22 ?_
      refine V_bipush (v := nI 6) dX10_lays_23 (by decide) ?_
      first | refine U_icmp_ge (tgt := 92) dX10_lays_25 (by decide) (by with_reducible rfl) (by with_reducible rfl) (by omega) (by omega) (fun c25 => ?_) (fun c25 => ?_) | refine V_icmp_ge (tgt := 92) dX10_lays_25 (by decide) (fun c25 => ?_) (fun c25 => ?_)
      · skip
        refine V_ret dX10_lays_92 rfl ?_
        exact hQ h1 (RM_put hR hWS a0 a1 (fun j hj => a2 j (by omega) hj) (fun j hj => a3 j (by omega)) o0 o1 o2 o3 e r) e l r
      · skip
        omega
    | succ f ih =>
      intro k h1 hkf a0 a1 a2 a3 o0 o1 o2 o3 e l r
      have hM1 := MLay_eq hM r
      have f18 : gI h1 94 18 = nI w.length := by rw [e 94 (by omega)]; exact w0
      have f105 : k < w.length → gI h1 105 k = nI (w.getD k 0) := fun hj => by rw [e 105 (by omega)]; exact w1 k hj
      have main : ∀ v : Int32, (k < w.length → v = nI (w.getD k 0)) → V Γ mX10_lays d 124 124 h1 56 [some (.ref 94), some (.int (nI s)), some (.int (nI k))] [.int v, .int (nI (6 * s + k)), .ref 97] Q := by
        intro v hv
        generalize hh2 : sI h1 97 (6 * s + k) v = h2
        have hM2 : MLay h2 := by rw [← hh2]; exact MLay_eq hM1 rfl
        have f19 : gI h2 94 19 = nI kd := by rw [← hh2, gI_sI, if_neg (by omega), e 94 (by omega)]; exact hk
        have nxt : ∀ u : Int32, u = nI (L.getD k 0) → V Γ mX10_lays d 124 124 (sI h2 98 (6 * s + k) u) 86 [some (.ref 94), some (.int (nI s)), some (.int (nI k))] [] Q := by
          intro u hu
          have g : ∀ a b, ¬ (a = 97 ∧ b = 6 * s + k) → ¬ (a = 98 ∧ b = 6 * s + k) → gI (sI h2 98 (6 * s + k) u) a b = gI h1 a b := fun a b n1 n2 => by rw [gI_sI, if_neg n2, ← hh2, gI_sI, if_neg n1]
          refine V_iinc2 dX10_lays_86 (by first | exact ginc1 _ | rfl) (by decide) rfl ?_
          refine V_goto (tgt := 22) dX10_lays_89 (by decide) ?_
          refine ih (k + 1) _ (by omega) (by rw [g _ _ (by omega) (by omega)]; exact a0) (by rw [g _ _ (by omega) (by omega)]; exact a1) (fun j j1 j2 => ?_) (fun j j1 => ?_) (fun q hq => by rw [g _ _ (by omega) (by omega)]; exact o0 q hq) (fun q hq => by rw [g _ _ (by omega) (by omega)]; exact o1 q hq) (fun q hq => by rw [g _ _ (by omega) (by omega)]; exact o2 q hq) (fun q hq => by rw [g _ _ (by omega) (by omega)]; exact o3 q hq) (fun a ha => by funext b; rw [g _ _ (by omega) (by omega)]; exact congrFun (e a ha) b) (by rw [gL_sI, ← hh2]; exact l) (by rw [gR_sI, ← hh2]; exact r)
          · by_cases ej : j = k
            · subst ej; rw [gI_sI, if_neg (by omega), ← hh2, gI_sI, if_pos ⟨rfl, rfl⟩]; exact hv j2
            · rw [g _ _ (by omega) (by omega)]; exact a2 j (by omega) j2
          · by_cases ej : j = k
            · subst ej; rw [gI_sI, if_pos ⟨rfl, rfl⟩]; exact hu
            · rw [g _ _ (by omega) (by omega)]; exact a3 j (by omega)
        have f106 : kd = 2 → gI h2 106 k = nI (L.getD k 0) := fun q => by rw [← hh2, gI_sI, if_neg (by omega), e 106 (by omega)]; exact (hL q).1 k (by omega)
        refine U_iast dX10_lays_56 (by with_reducible rfl) (by first | assumption | rfl) (by first | decide | omega) (by omega) ?_
        rw [hh2]
        refine V_aloadn0 dX10_lays_57 ?_
        refine V_getR dX10_lays_58 fX10_26 (by first | assumption | rfl) (by first | decide | omega) (by first | assumption | exact f106 (by assumption) | exact ML_4 (by assumption) | exact ML_5 (by assumption) | exact ML_6 (by assumption) | exact ML_7 (by assumption) | exact ML_8 (by assumption) | exact ML_9 (by assumption) | exact ML_10 (by assumption) | exact ML_11 (by assumption) | exact ML_12 (by assumption) | exact ML_13 (by assumption) | exact ML_15 (by assumption) | exact ML_16 (by assumption) | exact ML_17 (by assumption) | exact ML_20 (by assumption) | exact ML_23 (by assumption) | exact ML_24 (by assumption) | exact ML_30 (by assumption) | exact ML_31 (by assumption) | exact ML_32 (by assumption) | exact ML_33 (by assumption) | exact ML_35 (by assumption) | exact ML_36 (by assumption) | exact ML_37 (by assumption) | exact ML_38 (by assumption) | exact ML_41 (by assumption) | exact ML_42 (by assumption) | exact ML_43 (by assumption) | exact ML_44 (by assumption) | exact ML_45 (by assumption) | rfl) ?_
        refine V_bipush (v := nI 6) dX10_lays_61 (by decide) ?_
        refine V_iloadn1 dX10_lays_63 ?_
        first | refine U_imul dX10_lays_64 (by with_reducible rfl) (by with_reducible rfl) ?_ | refine V_imul dX10_lays_64 ?_
        refine V_iloadn2 dX10_lays_65 ?_
        first | refine U_iadd dX10_lays_66 (by with_reducible rfl) (by with_reducible rfl) ?_ | refine V_iadd dX10_lays_66 ?_
        refine V_aloadn0 dX10_lays_67 ?_
        refine V_getI dX10_lays_68 fX10_108 (Or.inl rfl) (by first | assumption | rfl) (by first | decide | omega) (by first | assumption | exact f106 (by assumption) | exact ML_4 (by assumption) | exact ML_5 (by assumption) | exact ML_6 (by assumption) | exact ML_7 (by assumption) | exact ML_8 (by assumption) | exact ML_9 (by assumption) | exact ML_10 (by assumption) | exact ML_11 (by assumption) | exact ML_12 (by assumption) | exact ML_13 (by assumption) | exact ML_15 (by assumption) | exact ML_16 (by assumption) | exact ML_17 (by assumption) | exact ML_20 (by assumption) | exact ML_23 (by assumption) | exact ML_24 (by assumption) | exact ML_30 (by assumption) | exact ML_31 (by assumption) | exact ML_32 (by assumption) | exact ML_33 (by assumption) | exact ML_35 (by assumption) | exact ML_36 (by assumption) | exact ML_37 (by assumption) | exact ML_38 (by assumption) | exact ML_41 (by assumption) | exact ML_42 (by assumption) | exact ML_43 (by assumption) | exact ML_44 (by assumption) | exact ML_45 (by assumption) | rfl) ?_
        refine V_iconst (v := nI 2) dX10_lays_71 (by decide) ?_
        first | refine U_icmp_ne (tgt := 84) dX10_lays_72 (by decide) (by with_reducible rfl) (by with_reducible rfl) (by omega) (by omega) (fun c72 => ?_) (fun c72 => ?_) | refine V_icmp_ne (tgt := 84) dX10_lays_72 (by decide) (fun c72 => ?_) (fun c72 => ?_)
        · skip
          have eL : L.getD k 0 = 0 := by rw [hL1 c72]; simp
          refine V_iconst (v := nI 0) dX10_lays_84 (by decide) ?_
          refine U_iast dX10_lays_85 (by with_reducible rfl) (by first | assumption | rfl) (by first | decide | omega) (by omega) ?_
          exact nxt _ (by first | rfl | rw [eL])
        · skip
          refine V_aloadn0 dX10_lays_75 ?_
          refine V_getR dX10_lays_76 fX10_50 (by first | assumption | rfl) (by first | decide | omega) (by first | assumption | exact f106 (by assumption) | exact ML_4 (by assumption) | exact ML_5 (by assumption) | exact ML_6 (by assumption) | exact ML_7 (by assumption) | exact ML_8 (by assumption) | exact ML_9 (by assumption) | exact ML_10 (by assumption) | exact ML_11 (by assumption) | exact ML_12 (by assumption) | exact ML_13 (by assumption) | exact ML_15 (by assumption) | exact ML_16 (by assumption) | exact ML_17 (by assumption) | exact ML_20 (by assumption) | exact ML_23 (by assumption) | exact ML_24 (by assumption) | exact ML_30 (by assumption) | exact ML_31 (by assumption) | exact ML_32 (by assumption) | exact ML_33 (by assumption) | exact ML_35 (by assumption) | exact ML_36 (by assumption) | exact ML_37 (by assumption) | exact ML_38 (by assumption) | exact ML_41 (by assumption) | exact ML_42 (by assumption) | exact ML_43 (by assumption) | exact ML_44 (by assumption) | exact ML_45 (by assumption) | rfl) ?_
          refine V_iloadn2 dX10_lays_79 ?_
          refine U_iald dX10_lays_80 (by with_reducible rfl) (by first | assumption | rfl) (by first | decide | omega) (by omega) (by first | assumption | exact f106 (by assumption) | exact ML_4 (by assumption) | exact ML_5 (by assumption) | exact ML_6 (by assumption) | exact ML_7 (by assumption) | exact ML_8 (by assumption) | exact ML_9 (by assumption) | exact ML_10 (by assumption) | exact ML_11 (by assumption) | exact ML_12 (by assumption) | exact ML_13 (by assumption) | exact ML_15 (by assumption) | exact ML_16 (by assumption) | exact ML_17 (by assumption) | exact ML_20 (by assumption) | exact ML_23 (by assumption) | exact ML_24 (by assumption) | exact ML_30 (by assumption) | exact ML_31 (by assumption) | exact ML_32 (by assumption) | exact ML_33 (by assumption) | exact ML_35 (by assumption) | exact ML_36 (by assumption) | exact ML_37 (by assumption) | exact ML_38 (by assumption) | exact ML_41 (by assumption) | exact ML_42 (by assumption) | exact ML_43 (by assumption) | exact ML_44 (by assumption) | exact ML_45 (by assumption) | rfl) ?_
          refine V_goto (tgt := 85) dX10_lays_81 (by decide) ?_
          refine U_iast dX10_lays_85 (by with_reducible rfl) (by first | assumption | rfl) (by first | decide | omega) (by omega) ?_
          exact nxt _ (by first | rfl | rw [eL])
      refine V_iloadn2 dX10_lays_22 ?_
      refine V_bipush (v := nI 6) dX10_lays_23 (by decide) ?_
      first | refine U_icmp_ge (tgt := 92) dX10_lays_25 (by decide) (by with_reducible rfl) (by with_reducible rfl) (by omega) (by omega) (fun c25 => ?_) (fun c25 => ?_) | refine V_icmp_ge (tgt := 92) dX10_lays_25 (by decide) (fun c25 => ?_) (fun c25 => ?_)
      · skip
        omega
      · skip
        refine V_aloadn0 dX10_lays_28 ?_
        refine V_getR dX10_lays_29 fX10_23 (by first | assumption | rfl) (by first | decide | omega) (by first | assumption | exact f105 (by omega) | exact ML_4 (by assumption) | exact ML_5 (by assumption) | exact ML_6 (by assumption) | exact ML_7 (by assumption) | exact ML_8 (by assumption) | exact ML_9 (by assumption) | exact ML_10 (by assumption) | exact ML_11 (by assumption) | exact ML_12 (by assumption) | exact ML_13 (by assumption) | exact ML_15 (by assumption) | exact ML_16 (by assumption) | exact ML_17 (by assumption) | exact ML_20 (by assumption) | exact ML_23 (by assumption) | exact ML_24 (by assumption) | exact ML_30 (by assumption) | exact ML_31 (by assumption) | exact ML_32 (by assumption) | exact ML_33 (by assumption) | exact ML_35 (by assumption) | exact ML_36 (by assumption) | exact ML_37 (by assumption) | exact ML_38 (by assumption) | exact ML_41 (by assumption) | exact ML_42 (by assumption) | exact ML_43 (by assumption) | exact ML_44 (by assumption) | exact ML_45 (by assumption) | rfl) ?_
        refine V_bipush (v := nI 6) dX10_lays_32 (by decide) ?_
        refine V_iloadn1 dX10_lays_34 ?_
        first | refine U_imul dX10_lays_35 (by with_reducible rfl) (by with_reducible rfl) ?_ | refine V_imul dX10_lays_35 ?_
        refine V_iloadn2 dX10_lays_36 ?_
        first | refine U_iadd dX10_lays_37 (by with_reducible rfl) (by with_reducible rfl) ?_ | refine V_iadd dX10_lays_37 ?_
        refine V_iloadn2 dX10_lays_38 ?_
        refine V_aloadn0 dX10_lays_39 ?_
        refine V_getI dX10_lays_40 fX10_111 (Or.inl rfl) (by first | assumption | rfl) (by first | decide | omega) (by first | assumption | exact f105 (by omega) | exact ML_4 (by assumption) | exact ML_5 (by assumption) | exact ML_6 (by assumption) | exact ML_7 (by assumption) | exact ML_8 (by assumption) | exact ML_9 (by assumption) | exact ML_10 (by assumption) | exact ML_11 (by assumption) | exact ML_12 (by assumption) | exact ML_13 (by assumption) | exact ML_15 (by assumption) | exact ML_16 (by assumption) | exact ML_17 (by assumption) | exact ML_20 (by assumption) | exact ML_23 (by assumption) | exact ML_24 (by assumption) | exact ML_30 (by assumption) | exact ML_31 (by assumption) | exact ML_32 (by assumption) | exact ML_33 (by assumption) | exact ML_35 (by assumption) | exact ML_36 (by assumption) | exact ML_37 (by assumption) | exact ML_38 (by assumption) | exact ML_41 (by assumption) | exact ML_42 (by assumption) | exact ML_43 (by assumption) | exact ML_44 (by assumption) | exact ML_45 (by assumption) | rfl) ?_
        first | refine U_icmp_ge (tgt := 55) dX10_lays_43 (by decide) (by with_reducible rfl) (by with_reducible rfl) (by omega) (by omega) (fun c43 => ?_) (fun c43 => ?_) | refine V_icmp_ge (tgt := 55) dX10_lays_43 (by decide) (fun c43 => ?_) (fun c43 => ?_)
        · skip
          refine V_iconst (v := nI 0) dX10_lays_55 (by decide) ?_
          first | exact main _ (fun _ => rfl) | exact main _ (fun q => absurd q (by omega))
        · skip
          refine V_aloadn0 dX10_lays_46 ?_
          refine V_getR dX10_lays_47 fX10_47 (by first | assumption | rfl) (by first | decide | omega) (by first | assumption | exact f105 (by omega) | exact ML_4 (by assumption) | exact ML_5 (by assumption) | exact ML_6 (by assumption) | exact ML_7 (by assumption) | exact ML_8 (by assumption) | exact ML_9 (by assumption) | exact ML_10 (by assumption) | exact ML_11 (by assumption) | exact ML_12 (by assumption) | exact ML_13 (by assumption) | exact ML_15 (by assumption) | exact ML_16 (by assumption) | exact ML_17 (by assumption) | exact ML_20 (by assumption) | exact ML_23 (by assumption) | exact ML_24 (by assumption) | exact ML_30 (by assumption) | exact ML_31 (by assumption) | exact ML_32 (by assumption) | exact ML_33 (by assumption) | exact ML_35 (by assumption) | exact ML_36 (by assumption) | exact ML_37 (by assumption) | exact ML_38 (by assumption) | exact ML_41 (by assumption) | exact ML_42 (by assumption) | exact ML_43 (by assumption) | exact ML_44 (by assumption) | exact ML_45 (by assumption) | rfl) ?_
          refine V_iloadn2 dX10_lays_50 ?_
          refine U_iald dX10_lays_51 (by with_reducible rfl) (by first | assumption | rfl) (by first | decide | omega) (by omega) (by first | assumption | exact f105 (by omega) | exact ML_4 (by assumption) | exact ML_5 (by assumption) | exact ML_6 (by assumption) | exact ML_7 (by assumption) | exact ML_8 (by assumption) | exact ML_9 (by assumption) | exact ML_10 (by assumption) | exact ML_11 (by assumption) | exact ML_12 (by assumption) | exact ML_13 (by assumption) | exact ML_15 (by assumption) | exact ML_16 (by assumption) | exact ML_17 (by assumption) | exact ML_20 (by assumption) | exact ML_23 (by assumption) | exact ML_24 (by assumption) | exact ML_30 (by assumption) | exact ML_31 (by assumption) | exact ML_32 (by assumption) | exact ML_33 (by assumption) | exact ML_35 (by assumption) | exact ML_36 (by assumption) | exact ML_37 (by assumption) | exact ML_38 (by assumption) | exact ML_41 (by assumption) | exact ML_42 (by assumption) | exact ML_43 (by assumption) | exact ML_44 (by assumption) | exact ML_45 (by assumption) | rfl) ?_
          refine V_goto (tgt := 56) dX10_lays_52 (by decide) ?_
          first | exact main _ (fun _ => rfl) | exact main _ (fun q => absurd q (by omega))
  generalize hh2 : sI (sI h 95 s (nI kd)) 96 s (nI w.length) = h2
  have g : ∀ a b, ¬ (a = 95 ∧ b = s) → ¬ (a = 96 ∧ b = s) → gI h2 a b = gI h a b := fun a b n1 n2 => by rw [← hh2, gI_sI, if_neg n2, gI_sI, if_neg n1]
  have f18 : gI (sI h 95 s (nI kd)) 94 18 = nI w.length := by rw [gI_sI, if_neg (by omega)]; exact w0
  refine V_aloadn0 dX10_lays_0 ?_
  refine V_getR dX10_lays_1 fX10_16 (by first | assumption | rfl) (by first | decide | omega) (by first | assumption | exact ML_5 (MLay_eq hM rfl) | exact ML_4 (by assumption) | exact ML_5 (by assumption) | exact ML_6 (by assumption) | exact ML_7 (by assumption) | exact ML_8 (by assumption) | exact ML_9 (by assumption) | exact ML_10 (by assumption) | exact ML_11 (by assumption) | exact ML_12 (by assumption) | exact ML_13 (by assumption) | exact ML_15 (by assumption) | exact ML_16 (by assumption) | exact ML_17 (by assumption) | exact ML_20 (by assumption) | exact ML_23 (by assumption) | exact ML_24 (by assumption) | exact ML_30 (by assumption) | exact ML_31 (by assumption) | exact ML_32 (by assumption) | exact ML_33 (by assumption) | exact ML_35 (by assumption) | exact ML_36 (by assumption) | exact ML_37 (by assumption) | exact ML_38 (by assumption) | exact ML_41 (by assumption) | exact ML_42 (by assumption) | exact ML_43 (by assumption) | exact ML_44 (by assumption) | exact ML_45 (by assumption) | rfl) ?_
  refine V_iloadn1 dX10_lays_4 ?_
  refine V_aloadn0 dX10_lays_5 ?_
  refine V_getI dX10_lays_6 fX10_108 (Or.inl rfl) (by first | assumption | rfl) (by first | decide | omega) (by first | assumption | exact ML_5 (MLay_eq hM rfl) | exact ML_4 (by assumption) | exact ML_5 (by assumption) | exact ML_6 (by assumption) | exact ML_7 (by assumption) | exact ML_8 (by assumption) | exact ML_9 (by assumption) | exact ML_10 (by assumption) | exact ML_11 (by assumption) | exact ML_12 (by assumption) | exact ML_13 (by assumption) | exact ML_15 (by assumption) | exact ML_16 (by assumption) | exact ML_17 (by assumption) | exact ML_20 (by assumption) | exact ML_23 (by assumption) | exact ML_24 (by assumption) | exact ML_30 (by assumption) | exact ML_31 (by assumption) | exact ML_32 (by assumption) | exact ML_33 (by assumption) | exact ML_35 (by assumption) | exact ML_36 (by assumption) | exact ML_37 (by assumption) | exact ML_38 (by assumption) | exact ML_41 (by assumption) | exact ML_42 (by assumption) | exact ML_43 (by assumption) | exact ML_44 (by assumption) | exact ML_45 (by assumption) | rfl) ?_
  refine U_iast dX10_lays_9 (by with_reducible rfl) (by first | assumption | rfl) (by first | decide | omega) (by omega) ?_
  refine V_aloadn0 dX10_lays_10 ?_
  refine V_getR dX10_lays_11 fX10_20 (by first | assumption | rfl) (by first | decide | omega) (by first | assumption | exact ML_5 (MLay_eq hM rfl) | exact ML_4 (by assumption) | exact ML_5 (by assumption) | exact ML_6 (by assumption) | exact ML_7 (by assumption) | exact ML_8 (by assumption) | exact ML_9 (by assumption) | exact ML_10 (by assumption) | exact ML_11 (by assumption) | exact ML_12 (by assumption) | exact ML_13 (by assumption) | exact ML_15 (by assumption) | exact ML_16 (by assumption) | exact ML_17 (by assumption) | exact ML_20 (by assumption) | exact ML_23 (by assumption) | exact ML_24 (by assumption) | exact ML_30 (by assumption) | exact ML_31 (by assumption) | exact ML_32 (by assumption) | exact ML_33 (by assumption) | exact ML_35 (by assumption) | exact ML_36 (by assumption) | exact ML_37 (by assumption) | exact ML_38 (by assumption) | exact ML_41 (by assumption) | exact ML_42 (by assumption) | exact ML_43 (by assumption) | exact ML_44 (by assumption) | exact ML_45 (by assumption) | rfl) ?_
  refine V_iloadn1 dX10_lays_14 ?_
  refine V_aloadn0 dX10_lays_15 ?_
  refine V_getI dX10_lays_16 fX10_111 (Or.inl rfl) (by first | assumption | rfl) (by first | decide | omega) (by first | assumption | exact ML_5 (MLay_eq hM rfl) | exact ML_4 (by assumption) | exact ML_5 (by assumption) | exact ML_6 (by assumption) | exact ML_7 (by assumption) | exact ML_8 (by assumption) | exact ML_9 (by assumption) | exact ML_10 (by assumption) | exact ML_11 (by assumption) | exact ML_12 (by assumption) | exact ML_13 (by assumption) | exact ML_15 (by assumption) | exact ML_16 (by assumption) | exact ML_17 (by assumption) | exact ML_20 (by assumption) | exact ML_23 (by assumption) | exact ML_24 (by assumption) | exact ML_30 (by assumption) | exact ML_31 (by assumption) | exact ML_32 (by assumption) | exact ML_33 (by assumption) | exact ML_35 (by assumption) | exact ML_36 (by assumption) | exact ML_37 (by assumption) | exact ML_38 (by assumption) | exact ML_41 (by assumption) | exact ML_42 (by assumption) | exact ML_43 (by assumption) | exact ML_44 (by assumption) | exact ML_45 (by assumption) | rfl) ?_
  refine U_iast dX10_lays_19 (by with_reducible rfl) (by first | assumption | rfl) (by first | decide | omega) (by omega) ?_
  rw [hh2]
  refine V_iconst (v := nI 0) dX10_lays_20 (by decide) ?_
  refine V_istoren2 dX10_lays_21 (by decide) rfl ?_
  exact loop 6 0 h2 rfl (by rw [← hh2, gI_sI, if_neg (by omega), gI_sI, if_pos ⟨rfl, rfl⟩]) (by rw [← hh2, gI_sI, if_pos ⟨rfl, rfl⟩]) (fun j hj => absurd hj (Nat.not_lt_zero _)) (fun j hj => absurd hj (Nat.not_lt_zero _)) (fun q hq => g _ _ (by omega) (by omega)) (fun q hq => g _ _ (by omega) (by omega)) (fun q hq => g _ _ (by omega) (by omega)) (fun q hq => g _ _ (by omega) (by omega)) (fun a ha => by funext b; exact g _ _ (by omega) (by omega)) (by rw [← hh2]; rfl) (by rw [← hh2]; rfl)
set_option maxRecDepth 100000 in
set_option maxHeartbeats 4000000 in
theorem m_read {w : List Nat} (hM : MLay h) (hW : WW h w) (hQ : Q (some (.int (nI (numF w 0 w.length)))) h) : V Γ mX10_read d 124 124 h 0 [some (.ref 94), none, none] [] Q := by
  obtain ⟨w0, w1, w6, w9⟩ := hW
  have loop : ∀ f k, k + f = w.length → V Γ mX10_read d 124 124 h 4 [some (.ref 94), some (.int (nI (numF w 0 k))), some (.int (nI k))] [] Q := by
    intro f
    induction f with
    | zero =>
      intro k hk
      have e : k = w.length := by omega
      subst e
      refine V_iloadn2 dX10_read_4 ?_
      refine V_aloadn0 dX10_read_5 ?_
      refine V_getI dX10_read_6 fX10_111 (Or.inl rfl) (by first | assumption | rfl) (by first | decide | omega) (by first | assumption | exact ML_4 (by assumption) | exact ML_5 (by assumption) | exact ML_6 (by assumption) | exact ML_7 (by assumption) | exact ML_8 (by assumption) | exact ML_9 (by assumption) | exact ML_10 (by assumption) | exact ML_11 (by assumption) | exact ML_12 (by assumption) | exact ML_13 (by assumption) | exact ML_15 (by assumption) | exact ML_16 (by assumption) | exact ML_17 (by assumption) | exact ML_20 (by assumption) | exact ML_23 (by assumption) | exact ML_24 (by assumption) | exact ML_30 (by assumption) | exact ML_31 (by assumption) | exact ML_32 (by assumption) | exact ML_33 (by assumption) | exact ML_35 (by assumption) | exact ML_36 (by assumption) | exact ML_37 (by assumption) | exact ML_38 (by assumption) | exact ML_41 (by assumption) | exact ML_42 (by assumption) | exact ML_43 (by assumption) | exact ML_44 (by assumption) | exact ML_45 (by assumption) | rfl) ?_
      first | refine U_icmp_ge (tgt := 30) dX10_read_9 (by decide) (by with_reducible rfl) (by with_reducible rfl) (by omega) (by omega) (fun c9 => ?_) (fun c9 => ?_) | refine V_icmp_ge (tgt := 30) dX10_read_9 (by decide) (fun c9 => ?_) (fun c9 => ?_)
      · skip
        refine V_iloadn1 dX10_read_30 ?_
        refine V_iret dX10_read_31 rfl rfl ?_
        exact hQ
      · skip
        omega
    | succ f ih =>
      intro k hk
      have e : 10 * numF w 0 k + w.getD k 0 = numF w 0 (k + 1) := by rw [numF, Nat.zero_add]; omega
      refine V_iloadn2 dX10_read_4 ?_
      refine V_aloadn0 dX10_read_5 ?_
      refine V_getI dX10_read_6 fX10_111 (Or.inl rfl) (by first | assumption | rfl) (by first | decide | omega) (by first | assumption | exact w1 _ (by omega) | exact ML_4 (by assumption) | exact ML_5 (by assumption) | exact ML_6 (by assumption) | exact ML_7 (by assumption) | exact ML_8 (by assumption) | exact ML_9 (by assumption) | exact ML_10 (by assumption) | exact ML_11 (by assumption) | exact ML_12 (by assumption) | exact ML_13 (by assumption) | exact ML_15 (by assumption) | exact ML_16 (by assumption) | exact ML_17 (by assumption) | exact ML_20 (by assumption) | exact ML_23 (by assumption) | exact ML_24 (by assumption) | exact ML_30 (by assumption) | exact ML_31 (by assumption) | exact ML_32 (by assumption) | exact ML_33 (by assumption) | exact ML_35 (by assumption) | exact ML_36 (by assumption) | exact ML_37 (by assumption) | exact ML_38 (by assumption) | exact ML_41 (by assumption) | exact ML_42 (by assumption) | exact ML_43 (by assumption) | exact ML_44 (by assumption) | exact ML_45 (by assumption) | rfl) ?_
      first | refine U_icmp_ge (tgt := 30) dX10_read_9 (by decide) (by with_reducible rfl) (by with_reducible rfl) (by omega) (by omega) (fun c9 => ?_) (fun c9 => ?_) | refine V_icmp_ge (tgt := 30) dX10_read_9 (by decide) (fun c9 => ?_) (fun c9 => ?_)
      · skip
        omega
      · skip
        refine V_bipush (v := nI 10) dX10_read_12 (by decide) ?_
        refine V_iloadn1 dX10_read_14 ?_
        first | refine U_imul dX10_read_15 (by with_reducible rfl) (by with_reducible rfl) ?_ | refine V_imul dX10_read_15 ?_
        refine V_aloadn0 dX10_read_16 ?_
        refine V_getR dX10_read_17 fX10_47 (by first | assumption | rfl) (by first | decide | omega) (by first | assumption | exact w1 _ (by omega) | exact ML_4 (by assumption) | exact ML_5 (by assumption) | exact ML_6 (by assumption) | exact ML_7 (by assumption) | exact ML_8 (by assumption) | exact ML_9 (by assumption) | exact ML_10 (by assumption) | exact ML_11 (by assumption) | exact ML_12 (by assumption) | exact ML_13 (by assumption) | exact ML_15 (by assumption) | exact ML_16 (by assumption) | exact ML_17 (by assumption) | exact ML_20 (by assumption) | exact ML_23 (by assumption) | exact ML_24 (by assumption) | exact ML_30 (by assumption) | exact ML_31 (by assumption) | exact ML_32 (by assumption) | exact ML_33 (by assumption) | exact ML_35 (by assumption) | exact ML_36 (by assumption) | exact ML_37 (by assumption) | exact ML_38 (by assumption) | exact ML_41 (by assumption) | exact ML_42 (by assumption) | exact ML_43 (by assumption) | exact ML_44 (by assumption) | exact ML_45 (by assumption) | rfl) ?_
        refine V_iloadn2 dX10_read_20 ?_
        refine U_iald dX10_read_21 (by with_reducible rfl) (by first | assumption | rfl) (by first | decide | omega) (by omega) (by first | assumption | exact w1 _ (by omega) | exact ML_4 (by assumption) | exact ML_5 (by assumption) | exact ML_6 (by assumption) | exact ML_7 (by assumption) | exact ML_8 (by assumption) | exact ML_9 (by assumption) | exact ML_10 (by assumption) | exact ML_11 (by assumption) | exact ML_12 (by assumption) | exact ML_13 (by assumption) | exact ML_15 (by assumption) | exact ML_16 (by assumption) | exact ML_17 (by assumption) | exact ML_20 (by assumption) | exact ML_23 (by assumption) | exact ML_24 (by assumption) | exact ML_30 (by assumption) | exact ML_31 (by assumption) | exact ML_32 (by assumption) | exact ML_33 (by assumption) | exact ML_35 (by assumption) | exact ML_36 (by assumption) | exact ML_37 (by assumption) | exact ML_38 (by assumption) | exact ML_41 (by assumption) | exact ML_42 (by assumption) | exact ML_43 (by assumption) | exact ML_44 (by assumption) | exact ML_45 (by assumption) | rfl) ?_
        first | refine U_iadd dX10_read_22 (by with_reducible rfl) (by with_reducible rfl) ?_ | refine V_iadd dX10_read_22 ?_
        refine V_istoren1 dX10_read_23 (by decide) rfl ?_
        refine V_iinc2 dX10_read_24 (by first | exact ginc1 _ | rfl) (by decide) rfl ?_
        refine V_goto (tgt := 4) dX10_read_27 (by decide) ?_
        rw [e]
        exact ih (k + 1) (by omega)
  refine V_iconst (v := nI 0) dX10_read_0 (by decide) ?_
  refine V_istoren1 dX10_read_1 (by decide) rfl ?_
  refine V_iconst (v := nI 0) dX10_read_2 (by decide) ?_
  refine V_istoren2 dX10_read_3 (by decide) rfl ?_
  exact loop _ 0 (Nat.zero_add _)
set_option maxRecDepth 100000 in
set_option maxHeartbeats 4000000 in
theorem m_content {n : Nat} {w : List Nat} (hM : MLay h) (hn : n ≤ 5) (i0 : gI h 94 0 = nI n) (hW : WW h w) (hQ : Q (some (.int (nI (conF w n)))) h) : V Γ mX10_content d 124 124 h 0 [some (.ref 94), none, none, none, none] [] Q := by
  obtain ⟨w0, w1, w6, w9⟩ := hW
  have loop : ∀ f i a3 a4, i + f = n → V Γ mX10_content d 124 124 h 4 [some (.ref 94), some (.int (nI (conF w i))), some (.int (nI (i + 1))), a3, a4] [] Q := by
    intro f
    induction f with
    | zero =>
      intro i a3 a4 hi
      have e : i = n := by omega
      subst e
      refine V_iloadn2 dX10_content_4 ?_
      refine V_aloadn0 dX10_content_5 ?_
      refine V_getI dX10_content_6 fX10_7 (Or.inl rfl) (by first | assumption | rfl) (by first | decide | omega) (by first | assumption | exact ML_4 (by assumption) | exact ML_5 (by assumption) | exact ML_6 (by assumption) | exact ML_7 (by assumption) | exact ML_8 (by assumption) | exact ML_9 (by assumption) | exact ML_10 (by assumption) | exact ML_11 (by assumption) | exact ML_12 (by assumption) | exact ML_13 (by assumption) | exact ML_15 (by assumption) | exact ML_16 (by assumption) | exact ML_17 (by assumption) | exact ML_20 (by assumption) | exact ML_23 (by assumption) | exact ML_24 (by assumption) | exact ML_30 (by assumption) | exact ML_31 (by assumption) | exact ML_32 (by assumption) | exact ML_33 (by assumption) | exact ML_35 (by assumption) | exact ML_36 (by assumption) | exact ML_37 (by assumption) | exact ML_38 (by assumption) | exact ML_41 (by assumption) | exact ML_42 (by assumption) | exact ML_43 (by assumption) | exact ML_44 (by assumption) | exact ML_45 (by assumption) | rfl) ?_
      first | refine U_icmp_gt (tgt := 64) dX10_content_9 (by decide) (by with_reducible rfl) (by with_reducible rfl) (by omega) (by omega) (fun c9 => ?_) (fun c9 => ?_) | refine V_icmp_gt (tgt := 64) dX10_content_9 (by decide) (fun c9 => ?_) (fun c9 => ?_)
      · skip
        refine V_iloadn1 dX10_content_64 ?_
        refine V_iret dX10_content_65 rfl rfl ?_
        exact hQ
      · skip
        omega
    | succ f ih =>
      intro i a3 a4 hi
      have inner : ∀ g k, k + g = w.length → V Γ mX10_content d 124 124 h 17 [some (.ref 94), some (.int (nI (conF w i))), some (.int (nI (i + 1))), some (.int (nI (cntF w (i + 1) k))), some (.int (nI k))] [] Q := by
        intro g
        induction g with
        | zero =>
          intro k hk
          have e : k = w.length := by omega
          subst e
          have e2 : 10 * conF w i + cntF w (i + 1) w.length = conF w (i + 1) := by rw [conF]; omega
          refine V_iloadw4 dX10_content_17 ?_
          refine V_aloadn0 dX10_content_19 ?_
          refine V_getI dX10_content_20 fX10_111 (Or.inl rfl) (by first | assumption | rfl) (by first | decide | omega) (by first | assumption | exact ML_4 (by assumption) | exact ML_5 (by assumption) | exact ML_6 (by assumption) | exact ML_7 (by assumption) | exact ML_8 (by assumption) | exact ML_9 (by assumption) | exact ML_10 (by assumption) | exact ML_11 (by assumption) | exact ML_12 (by assumption) | exact ML_13 (by assumption) | exact ML_15 (by assumption) | exact ML_16 (by assumption) | exact ML_17 (by assumption) | exact ML_20 (by assumption) | exact ML_23 (by assumption) | exact ML_24 (by assumption) | exact ML_30 (by assumption) | exact ML_31 (by assumption) | exact ML_32 (by assumption) | exact ML_33 (by assumption) | exact ML_35 (by assumption) | exact ML_36 (by assumption) | exact ML_37 (by assumption) | exact ML_38 (by assumption) | exact ML_41 (by assumption) | exact ML_42 (by assumption) | exact ML_43 (by assumption) | exact ML_44 (by assumption) | exact ML_45 (by assumption) | rfl) ?_
          first | refine U_icmp_ge (tgt := 51) dX10_content_23 (by decide) (by with_reducible rfl) (by with_reducible rfl) (by omega) (by omega) (fun c23 => ?_) (fun c23 => ?_) | refine V_icmp_ge (tgt := 51) dX10_content_23 (by decide) (fun c23 => ?_) (fun c23 => ?_)
          · skip
            refine V_bipush (v := nI 10) dX10_content_51 (by decide) ?_
            refine V_iloadn1 dX10_content_53 ?_
            first | refine U_imul dX10_content_54 (by with_reducible rfl) (by with_reducible rfl) ?_ | refine V_imul dX10_content_54 ?_
            refine V_iloadn3 dX10_content_55 ?_
            first | refine U_iadd dX10_content_56 (by with_reducible rfl) (by with_reducible rfl) ?_ | refine V_iadd dX10_content_56 ?_
            refine V_istoren1 dX10_content_57 (by decide) rfl ?_
            refine V_iinc2 dX10_content_58 (by first | exact ginc1 _ | rfl) (by decide) rfl ?_
            refine V_goto (tgt := 4) dX10_content_61 (by decide) ?_
            rw [e2]
            exact ih (i + 1) _ _ (by omega)
          · skip
            omega
        | succ g ihg =>
          intro k hk
          have hb := w9 k
          have e1 : w.getD k 0 = i + 1 → cntF w (i + 1) k + 1 = cntF w (i + 1) (k + 1) := fun q => by rw [cntF, if_pos q]
          have e2 : ¬ w.getD k 0 = i + 1 → cntF w (i + 1) k + 0 = cntF w (i + 1) (k + 1) := fun q => by rw [cntF, if_neg q]; rfl
          refine V_iloadw4 dX10_content_17 ?_
          refine V_aloadn0 dX10_content_19 ?_
          refine V_getI dX10_content_20 fX10_111 (Or.inl rfl) (by first | assumption | rfl) (by first | decide | omega) (by first | assumption | exact w1 _ (by omega) | exact ML_4 (by assumption) | exact ML_5 (by assumption) | exact ML_6 (by assumption) | exact ML_7 (by assumption) | exact ML_8 (by assumption) | exact ML_9 (by assumption) | exact ML_10 (by assumption) | exact ML_11 (by assumption) | exact ML_12 (by assumption) | exact ML_13 (by assumption) | exact ML_15 (by assumption) | exact ML_16 (by assumption) | exact ML_17 (by assumption) | exact ML_20 (by assumption) | exact ML_23 (by assumption) | exact ML_24 (by assumption) | exact ML_30 (by assumption) | exact ML_31 (by assumption) | exact ML_32 (by assumption) | exact ML_33 (by assumption) | exact ML_35 (by assumption) | exact ML_36 (by assumption) | exact ML_37 (by assumption) | exact ML_38 (by assumption) | exact ML_41 (by assumption) | exact ML_42 (by assumption) | exact ML_43 (by assumption) | exact ML_44 (by assumption) | exact ML_45 (by assumption) | rfl) ?_
          first | refine U_icmp_ge (tgt := 51) dX10_content_23 (by decide) (by with_reducible rfl) (by with_reducible rfl) (by omega) (by omega) (fun c23 => ?_) (fun c23 => ?_) | refine V_icmp_ge (tgt := 51) dX10_content_23 (by decide) (fun c23 => ?_) (fun c23 => ?_)
          · skip
            omega
          · skip
            refine V_iloadn3 dX10_content_26 ?_
            refine V_aloadn0 dX10_content_27 ?_
            refine V_getR dX10_content_28 fX10_47 (by first | assumption | rfl) (by first | decide | omega) (by first | assumption | exact w1 _ (by omega) | exact ML_4 (by assumption) | exact ML_5 (by assumption) | exact ML_6 (by assumption) | exact ML_7 (by assumption) | exact ML_8 (by assumption) | exact ML_9 (by assumption) | exact ML_10 (by assumption) | exact ML_11 (by assumption) | exact ML_12 (by assumption) | exact ML_13 (by assumption) | exact ML_15 (by assumption) | exact ML_16 (by assumption) | exact ML_17 (by assumption) | exact ML_20 (by assumption) | exact ML_23 (by assumption) | exact ML_24 (by assumption) | exact ML_30 (by assumption) | exact ML_31 (by assumption) | exact ML_32 (by assumption) | exact ML_33 (by assumption) | exact ML_35 (by assumption) | exact ML_36 (by assumption) | exact ML_37 (by assumption) | exact ML_38 (by assumption) | exact ML_41 (by assumption) | exact ML_42 (by assumption) | exact ML_43 (by assumption) | exact ML_44 (by assumption) | exact ML_45 (by assumption) | rfl) ?_
            refine V_iloadw4 dX10_content_31 ?_
            refine U_iald dX10_content_33 (by with_reducible rfl) (by first | assumption | rfl) (by first | decide | omega) (by omega) (by first | assumption | exact w1 _ (by omega) | exact ML_4 (by assumption) | exact ML_5 (by assumption) | exact ML_6 (by assumption) | exact ML_7 (by assumption) | exact ML_8 (by assumption) | exact ML_9 (by assumption) | exact ML_10 (by assumption) | exact ML_11 (by assumption) | exact ML_12 (by assumption) | exact ML_13 (by assumption) | exact ML_15 (by assumption) | exact ML_16 (by assumption) | exact ML_17 (by assumption) | exact ML_20 (by assumption) | exact ML_23 (by assumption) | exact ML_24 (by assumption) | exact ML_30 (by assumption) | exact ML_31 (by assumption) | exact ML_32 (by assumption) | exact ML_33 (by assumption) | exact ML_35 (by assumption) | exact ML_36 (by assumption) | exact ML_37 (by assumption) | exact ML_38 (by assumption) | exact ML_41 (by assumption) | exact ML_42 (by assumption) | exact ML_43 (by assumption) | exact ML_44 (by assumption) | exact ML_45 (by assumption) | rfl) ?_
            refine V_iloadn2 dX10_content_34 ?_
            first | refine U_icmp_ne (tgt := 42) dX10_content_35 (by decide) (by with_reducible rfl) (by with_reducible rfl) (by omega) (by omega) (fun c35 => ?_) (fun c35 => ?_) | refine V_icmp_ne (tgt := 42) dX10_content_35 (by decide) (fun c35 => ?_) (fun c35 => ?_)
            · skip
              refine V_iconst (v := nI 0) dX10_content_42 (by decide) ?_
              first | refine U_iadd dX10_content_43 (by with_reducible rfl) (by with_reducible rfl) ?_ | refine V_iadd dX10_content_43 ?_
              refine V_istoren3 dX10_content_44 (by decide) rfl ?_
              refine V_iinc4 dX10_content_45 (by first | exact ginc1 _ | rfl) (by decide) rfl ?_
              refine V_goto (tgt := 17) dX10_content_48 (by decide) ?_
              first | rw [e2 c35] | rw [e1 c35]
              exact ihg (k + 1) (by omega)
            · skip
              refine V_iconst (v := nI 1) dX10_content_38 (by decide) ?_
              refine V_goto (tgt := 43) dX10_content_39 (by decide) ?_
              first | refine U_iadd dX10_content_43 (by with_reducible rfl) (by with_reducible rfl) ?_ | refine V_iadd dX10_content_43 ?_
              refine V_istoren3 dX10_content_44 (by decide) rfl ?_
              refine V_iinc4 dX10_content_45 (by first | exact ginc1 _ | rfl) (by decide) rfl ?_
              refine V_goto (tgt := 17) dX10_content_48 (by decide) ?_
              first | rw [e2 c35] | rw [e1 c35]
              exact ihg (k + 1) (by omega)
      refine V_iloadn2 dX10_content_4 ?_
      refine V_aloadn0 dX10_content_5 ?_
      refine V_getI dX10_content_6 fX10_7 (Or.inl rfl) (by first | assumption | rfl) (by first | decide | omega) (by first | assumption | exact ML_4 (by assumption) | exact ML_5 (by assumption) | exact ML_6 (by assumption) | exact ML_7 (by assumption) | exact ML_8 (by assumption) | exact ML_9 (by assumption) | exact ML_10 (by assumption) | exact ML_11 (by assumption) | exact ML_12 (by assumption) | exact ML_13 (by assumption) | exact ML_15 (by assumption) | exact ML_16 (by assumption) | exact ML_17 (by assumption) | exact ML_20 (by assumption) | exact ML_23 (by assumption) | exact ML_24 (by assumption) | exact ML_30 (by assumption) | exact ML_31 (by assumption) | exact ML_32 (by assumption) | exact ML_33 (by assumption) | exact ML_35 (by assumption) | exact ML_36 (by assumption) | exact ML_37 (by assumption) | exact ML_38 (by assumption) | exact ML_41 (by assumption) | exact ML_42 (by assumption) | exact ML_43 (by assumption) | exact ML_44 (by assumption) | exact ML_45 (by assumption) | rfl) ?_
      first | refine U_icmp_gt (tgt := 64) dX10_content_9 (by decide) (by with_reducible rfl) (by with_reducible rfl) (by omega) (by omega) (fun c9 => ?_) (fun c9 => ?_) | refine V_icmp_gt (tgt := 64) dX10_content_9 (by decide) (fun c9 => ?_) (fun c9 => ?_)
      · skip
        omega
      · skip
        refine V_iconst (v := nI 0) dX10_content_12 (by decide) ?_
        refine V_istoren3 dX10_content_13 (by decide) rfl ?_
        refine V_iconst (v := nI 0) dX10_content_14 (by decide) ?_
        refine V_istorew4 dX10_content_15 (by decide) rfl ?_
        exact inner _ 0 (Nat.zero_add _)
  refine V_iconst (v := nI 0) dX10_content_0 (by decide) ?_
  refine V_istoren1 dX10_content_1 (by decide) rfl ?_
  refine V_iconst (v := nI 1) dX10_content_2 (by decide) ?_
  refine V_istoren2 dX10_content_3 (by decide) rfl ?_
  exact loop n 0 _ _ (by omega)
set_option maxRecDepth 100000 in
set_option maxHeartbeats 4000000 in
theorem m_manyRows {L : List Nat} (hM : MLay h) (hL : SH h L) (hp : ∀ r, r < L.length → 0 < L.getD r 0) (h6 : L.length ≤ 6) (hQ : Q (some (.int (nI L.length))) h) : V Γ mX10_manyRows d 124 124 h 0 [some (.ref 94), none] [] Q := by
  obtain ⟨l1, l2⟩ := hL
  have loop : ∀ f k, k + f = L.length → V Γ mX10_manyRows d 124 124 h 2 [some (.ref 94), some (.int (nI k))] [] Q := by
    intro f
    induction f with
    | zero =>
      intro k hk
      have e : k = L.length := by omega
      subst e
      have z : L.getD L.length 0 = 0 := by rw [List.getD_eq_getElem?_getD, List.getElem?_eq_none (Nat.le_refl _)]; rfl
      refine V_iloadn1 dX10_manyRows_2 ?_
      refine V_bipush (v := nI 6) dX10_manyRows_3 (by decide) ?_
      first | refine U_icmp_ge (tgt := 23) dX10_manyRows_5 (by decide) (by with_reducible rfl) (by with_reducible rfl) (by omega) (by omega) (fun c5 => ?_) (fun c5 => ?_) | refine V_icmp_ge (tgt := 23) dX10_manyRows_5 (by decide) (fun c5 => ?_) (fun c5 => ?_)
      · skip
        refine V_iloadn1 dX10_manyRows_23 ?_
        refine V_iret dX10_manyRows_24 rfl rfl ?_
        exact hQ
      · skip
        refine V_aloadn0 dX10_manyRows_8 ?_
        refine V_getR dX10_manyRows_9 fX10_50 (by first | assumption | rfl) (by first | decide | omega) (by first | assumption | exact l1 _ (by omega) | exact ML_4 (by assumption) | exact ML_5 (by assumption) | exact ML_6 (by assumption) | exact ML_7 (by assumption) | exact ML_8 (by assumption) | exact ML_9 (by assumption) | exact ML_10 (by assumption) | exact ML_11 (by assumption) | exact ML_12 (by assumption) | exact ML_13 (by assumption) | exact ML_15 (by assumption) | exact ML_16 (by assumption) | exact ML_17 (by assumption) | exact ML_20 (by assumption) | exact ML_23 (by assumption) | exact ML_24 (by assumption) | exact ML_30 (by assumption) | exact ML_31 (by assumption) | exact ML_32 (by assumption) | exact ML_33 (by assumption) | exact ML_35 (by assumption) | exact ML_36 (by assumption) | exact ML_37 (by assumption) | exact ML_38 (by assumption) | exact ML_41 (by assumption) | exact ML_42 (by assumption) | exact ML_43 (by assumption) | exact ML_44 (by assumption) | exact ML_45 (by assumption) | rfl) ?_
        refine V_iloadn1 dX10_manyRows_12 ?_
        refine U_iald dX10_manyRows_13 (by with_reducible rfl) (by first | assumption | rfl) (by first | decide | omega) (by omega) (by first | assumption | exact l1 _ (by omega) | exact ML_4 (by assumption) | exact ML_5 (by assumption) | exact ML_6 (by assumption) | exact ML_7 (by assumption) | exact ML_8 (by assumption) | exact ML_9 (by assumption) | exact ML_10 (by assumption) | exact ML_11 (by assumption) | exact ML_12 (by assumption) | exact ML_13 (by assumption) | exact ML_15 (by assumption) | exact ML_16 (by assumption) | exact ML_17 (by assumption) | exact ML_20 (by assumption) | exact ML_23 (by assumption) | exact ML_24 (by assumption) | exact ML_30 (by assumption) | exact ML_31 (by assumption) | exact ML_32 (by assumption) | exact ML_33 (by assumption) | exact ML_35 (by assumption) | exact ML_36 (by assumption) | exact ML_37 (by assumption) | exact ML_38 (by assumption) | exact ML_41 (by assumption) | exact ML_42 (by assumption) | exact ML_43 (by assumption) | exact ML_44 (by assumption) | exact ML_45 (by assumption) | rfl) ?_
        first | refine U_if_le (tgt := 23) dX10_manyRows_14 (by decide) (by with_reducible rfl) (by omega) (fun c14 => ?_) (fun c14 => ?_) | refine V_if_le (tgt := 23) dX10_manyRows_14 (by decide) (fun c14 => ?_) (fun c14 => ?_)
        · skip
          refine V_iloadn1 dX10_manyRows_23 ?_
          refine V_iret dX10_manyRows_24 rfl rfl ?_
          exact hQ
        · skip
          omega
    | succ f ih =>
      intro k hk
      have hb := l2 k
      have hpk := hp k (by omega)
      refine V_iloadn1 dX10_manyRows_2 ?_
      refine V_bipush (v := nI 6) dX10_manyRows_3 (by decide) ?_
      first | refine U_icmp_ge (tgt := 23) dX10_manyRows_5 (by decide) (by with_reducible rfl) (by with_reducible rfl) (by omega) (by omega) (fun c5 => ?_) (fun c5 => ?_) | refine V_icmp_ge (tgt := 23) dX10_manyRows_5 (by decide) (fun c5 => ?_) (fun c5 => ?_)
      · skip
        omega
      · skip
        refine V_aloadn0 dX10_manyRows_8 ?_
        refine V_getR dX10_manyRows_9 fX10_50 (by first | assumption | rfl) (by first | decide | omega) (by first | assumption | exact l1 _ (by omega) | exact ML_4 (by assumption) | exact ML_5 (by assumption) | exact ML_6 (by assumption) | exact ML_7 (by assumption) | exact ML_8 (by assumption) | exact ML_9 (by assumption) | exact ML_10 (by assumption) | exact ML_11 (by assumption) | exact ML_12 (by assumption) | exact ML_13 (by assumption) | exact ML_15 (by assumption) | exact ML_16 (by assumption) | exact ML_17 (by assumption) | exact ML_20 (by assumption) | exact ML_23 (by assumption) | exact ML_24 (by assumption) | exact ML_30 (by assumption) | exact ML_31 (by assumption) | exact ML_32 (by assumption) | exact ML_33 (by assumption) | exact ML_35 (by assumption) | exact ML_36 (by assumption) | exact ML_37 (by assumption) | exact ML_38 (by assumption) | exact ML_41 (by assumption) | exact ML_42 (by assumption) | exact ML_43 (by assumption) | exact ML_44 (by assumption) | exact ML_45 (by assumption) | rfl) ?_
        refine V_iloadn1 dX10_manyRows_12 ?_
        refine U_iald dX10_manyRows_13 (by with_reducible rfl) (by first | assumption | rfl) (by first | decide | omega) (by omega) (by first | assumption | exact l1 _ (by omega) | exact ML_4 (by assumption) | exact ML_5 (by assumption) | exact ML_6 (by assumption) | exact ML_7 (by assumption) | exact ML_8 (by assumption) | exact ML_9 (by assumption) | exact ML_10 (by assumption) | exact ML_11 (by assumption) | exact ML_12 (by assumption) | exact ML_13 (by assumption) | exact ML_15 (by assumption) | exact ML_16 (by assumption) | exact ML_17 (by assumption) | exact ML_20 (by assumption) | exact ML_23 (by assumption) | exact ML_24 (by assumption) | exact ML_30 (by assumption) | exact ML_31 (by assumption) | exact ML_32 (by assumption) | exact ML_33 (by assumption) | exact ML_35 (by assumption) | exact ML_36 (by assumption) | exact ML_37 (by assumption) | exact ML_38 (by assumption) | exact ML_41 (by assumption) | exact ML_42 (by assumption) | exact ML_43 (by assumption) | exact ML_44 (by assumption) | exact ML_45 (by assumption) | rfl) ?_
        first | refine U_if_le (tgt := 23) dX10_manyRows_14 (by decide) (by with_reducible rfl) (by omega) (fun c14 => ?_) (fun c14 => ?_) | refine V_if_le (tgt := 23) dX10_manyRows_14 (by decide) (fun c14 => ?_) (fun c14 => ?_)
        · skip
          omega
        · skip
          refine V_iinc1 dX10_manyRows_17 (by first | exact ginc1 _ | rfl) (by decide) rfl ?_
          refine V_goto (tgt := 2) dX10_manyRows_20 (by decide) ?_
          exact ih (k + 1) (by omega)
  refine V_iconst (v := nI 0) dX10_manyRows_0 (by decide) ?_
  refine V_istoren1 dX10_manyRows_1 (by decide) rfl ?_
  exact loop _ 0 (Nat.zero_add _)
end C61
