/-! ===== the reference: worths, lots, kept, many ===== -/
theorem RM_now {h h' : gH} {S : GS} {A : SS} (hR : RM h S) (a0 : gI h' 94 0 = nI A.1) (a1 : gI h' 94 1 = A.2.1) (a2 : MT h' 95 A.2.2.1) (a3 : ∀ k, 1 ≤ k → k < 6 → gI h' 103 k = nI (A.2.2.2 k)) (e : ∀ a, (99 ≤ a ∧ a ≤ 102) ∨ a = 104 ∨ a = 108 ∨ (120 ≤ a ∧ a ≤ 122) → gI h' a = gI h a) (e2 : ∀ k, k = 2 ∨ k = 3 ∨ k = 14 ∨ k = 21 → gI h' 94 k = gI h 94 k) (r : gR h' = gR h) : RM h' (A, S.2) := by
  obtain ⟨c1, c2, c6, c7, c8, c9⟩ := hR
  refine ⟨MLay_eq c1 r, ⟨a0, a1, a2, a3⟩, by rw [e2 14 (by omega)]; exact c6, fun K hK => ?_, MB_cg c8 (e2 21 (by omega)) (e 108 (by omega)), MS_cg c9 (fun a h1 h2 => e a (by omega))⟩
  obtain ⟨d1, d2, d3, d4⟩ := c7 K hK
  exact ⟨by rw [e2 2 (by omega)]; exact d1, by rw [e2 3 (by omega)]; exact d2, MT_cg d3 (fun a h1 h2 => e a (by omega)), fun k k1 k2 => by rw [e 104 (by omega)]; exact d4 k k1 k2⟩
theorem RM_sh {h h' : gH} {S : GS} {s : Nat} {X : Nat × Nat × (Nat → Int32)} (hR : RM h S) (x0 : gI h' 120 s = soI X.1) (x1 : gI h' 121 s = nI X.2.1) (x2 : X.1 ≠ 0 → ∀ k, k < 40 → gI h' 122 (40 * s + k) = X.2.2 k) (o0 : ∀ q, q ≠ s → gI h' 120 q = gI h 120 q) (o1 : ∀ q, q ≠ s → gI h' 121 q = gI h 121 q) (o2 : ∀ q, q < 40 * s ∨ 40 * s + 40 ≤ q → gI h' 122 q = gI h 122 q) (e : ∀ a, (95 ≤ a ∧ a ≤ 104) ∨ a = 108 → gI h' a = gI h a) (e2 : ∀ k, k ≤ 3 ∨ k = 14 ∨ k = 21 → gI h' 94 k = gI h 94 k) (r : gR h' = gR h) : RM h' (setSh S s X) := by
  obtain ⟨c1, ⟨c2, c3, c4, c5⟩, c6, c7, c8, c9⟩ := hR
  refine ⟨MLay_eq c1 r, ⟨by rw [e2 0 (by omega)]; exact c2, by rw [e2 1 (by omega)]; exact c3, MT_cg c4 (fun a h1 h2 => e a (by omega)), fun k k1 k2 => by rw [e 103 (by omega)]; exact c5 k k1 k2⟩, by rw [e2 14 (by omega)]; exact c6, fun K hK => ?_, MB_cg c8 (e2 21 (by omega)) (e 108 (by omega)), fun q hq => ?_⟩
  · obtain ⟨d1, d2, d3, d4⟩ := c7 K hK
    exact ⟨by rw [e2 2 (by omega)]; exact d1, by rw [e2 3 (by omega)]; exact d2, MT_cg d3 (fun a h1 h2 => e a (by omega)), fun k k1 k2 => by rw [e 104 (by omega)]; exact d4 k k1 k2⟩
  · show gI h' 120 q = soI (if q = s then X else S.2.2.2 q).1 ∧ gI h' 121 q = nI (if q = s then X else S.2.2.2 q).2.1 ∧ ((if q = s then X else S.2.2.2 q).1 ≠ 0 → ∀ k, k < 40 → gI h' 122 (40 * q + k) = (if q = s then X else S.2.2.2 q).2.2 k)
    by_cases h1 : q = s
    · subst h1; rw [if_pos rfl]; exact ⟨x0, x1, x2⟩
    · rw [if_neg h1]
      obtain ⟨d0, d1, d2⟩ := c9 q hq
      exact ⟨by rw [o0 q h1]; exact d0, by rw [o1 q h1]; exact d1, fun z k hk => by rw [o2 _ (by omega)]; exact d2 z k hk⟩
theorem or0 (x : Int32) : x ||| nI 0 = x := Int32.or_zero
theorem cut16 (v : Int32) : v &&& 65535 = (v.toUInt32 % 65536).toInt32 := by
  rw [pk_and v 16 (by decide)]
  apply Int32.toBitVec_inj.mp
  apply BitVec.eq_of_toNat_eq
  show (BitVec.ofNat 32 (v.toBitVec.toNat % 2 ^ 16)).toNat = (v.toUInt32 % 65536).toNat
  rw [UInt32.toNat_mod, BitVec.toNat_ofNat]
  have h1 : v.toUInt32.toNat = v.toBitVec.toNat := rfl
  rw [h1]
  have h2 : (65536 : UInt32).toNat = 65536 := by decide
  rw [h2]
  omega
theorem soI_lt {so : Nat} (h : so ≤ 3) : (soI so < 0 ↔ so = 0) ∧ (0 ≤ soI so ↔ so ≠ 0) := by
  match so, h with
  | 0, _ => decide
  | 1, _ => decide
  | 2, _ => decide
  | 3, _ => decide
  | k + 4, h => omega
section C71
variable {Γ : gM} {d : Nat} {h : gH} {Q : Option Value → gH → Prop} {S : GS}

set_option maxRecDepth 100000 in
set_option maxHeartbeats 4000000 in
theorem m_worth {l v : Int32} (hd : 2 ≤ d) (hR : RM h S) (hWG : WG S) (hQ : ∀ h', RM h' (f_worth S l v).2 → FrD h h' → Q (some (.int (f_worth S l v).1)) h') : V Γ mX10_worth d 124 124 h 0 [some (.ref 94), some (.int l), some (.int v), none] [] Q := by
  obtain ⟨hM, ⟨r0, r1, rT, rW⟩, rK, rK2, rB, rS⟩ := id hR
  obtain ⟨hWS, hWK, hWB, hWX⟩ := id hWG
  have hn2 := hWS.1
  have hn5 := hWS.2.1
  by_cases hg : (inR l 1 S.1.1 && inR v 0 99) = true
  · have hg2 := hg
    rw [Bool.and_eq_true] at hg2
    obtain ⟨j, j1, j2, rfl⟩ := inR_t (by omega) (by omega) hg2.1
    obtain ⟨k, k0, k99, rfl⟩ := inR_t (by decide) (by decide) hg2.2
    have eq0 : f_worth S (nI j) (nI k) = _ := if_t hg
    rw [eq0, cN_nI (by omega), cN_nI (by omega)] at hQ
    have w1 := rW j j1 (by omega)
    have fin : Q (some (.int (nI (S.1.2.2.2 j)))) (sI h 103 j (nI k)) := by
      refine hQ _ (RM_now (S := S) hR (A := (S.1.1, S.1.2.1, S.1.2.2.1, fun q => if q = j then k else S.1.2.2.2 q)) (by rw [gI_sI, if_neg (by omega)]; exact r0) (by rw [gI_sI, if_neg (by omega)]; exact r1) (MT_cg rT (fun a q1 q2 => by funext b; rw [gI_sI, if_neg (by omega)])) (fun q q1 q2 => ?_) (fun a ha => by funext b; rw [gI_sI, if_neg (by omega)]) (fun q hq => by rw [gI_sI, if_neg (by omega)]) rfl) ⟨fun a ha => by funext b; rw [gI_sI, if_neg (by omega)], fun _ _ => rfl, rfl⟩
      show gI (sI h 103 j (nI k)) 103 q = nI (if q = j then k else S.1.2.2.2 q)
      rw [gI_sI]
      by_cases e : q = j
      · rw [if_pos ⟨rfl, e⟩, if_pos e]
      · rw [if_neg (fun z => e z.2), if_neg e]; exact rW q q1 q2
    refine V_iloadn1 dX10_worth_0 ?_
    refine V_iconst (v := nI 1) dX10_worth_1 (by decide) ?_
    refine V_aloadn0 dX10_worth_2 ?_
    refine V_getI dX10_worth_3 fX10_7 (Or.inl rfl) (by first | assumption | rfl) (by first | decide | omega) (by first | assumption | exact ML_4 (by assumption) | exact ML_5 (by assumption) | exact ML_6 (by assumption) | exact ML_7 (by assumption) | exact ML_8 (by assumption) | exact ML_9 (by assumption) | exact ML_10 (by assumption) | exact ML_11 (by assumption) | exact ML_12 (by assumption) | exact ML_13 (by assumption) | exact ML_15 (by assumption) | exact ML_16 (by assumption) | exact ML_17 (by assumption) | exact ML_20 (by assumption) | exact ML_23 (by assumption) | exact ML_24 (by assumption) | exact ML_30 (by assumption) | exact ML_31 (by assumption) | exact ML_32 (by assumption) | exact ML_33 (by assumption) | exact ML_35 (by assumption) | exact ML_36 (by assumption) | exact ML_37 (by assumption) | exact ML_38 (by assumption) | exact ML_41 (by assumption) | exact ML_42 (by assumption) | exact ML_43 (by assumption) | exact ML_44 (by assumption) | exact ML_45 (by assumption) | rfl) ?_
    refine V_callS3 (μ' := mX10_in) dX10_worth_6 okX10_in lX10_104 (Nat.le_of_ble_eq_true rfl) (Nat.le_of_ble_eq_true rfl) (by omega) ?_
    refine m_inR ?_
    rw [hg2.1]
    dsimp only [gPush]
    first | refine U_ifB_eq (tgt := 22) dX10_worth_9 (by decide) (by with_reducible rfl) (fun c9 => ?_) (fun c9 => ?_) | refine U_if_eq (tgt := 22) dX10_worth_9 (by decide) (by with_reducible rfl) (by omega) (fun c9 => ?_) (fun c9 => ?_) | refine V_if_eq (tgt := 22) dX10_worth_9 (by decide) (fun c9 => ?_) (fun c9 => ?_)
    · skip
      cases c9
    · skip
      refine V_iloadn2 dX10_worth_12 ?_
      refine V_iconst (v := nI 0) dX10_worth_13 (by decide) ?_
      refine V_bipush (v := nI 99) dX10_worth_14 (by decide) ?_
      refine V_callS3 (μ' := mX10_in) dX10_worth_16 okX10_in lX10_104 (Nat.le_of_ble_eq_true rfl) (Nat.le_of_ble_eq_true rfl) (by omega) ?_
      refine m_inR ?_
      rw [hg2.2]
      dsimp only [gPush]
      first | refine U_ifB_ne (tgt := 24) dX10_worth_19 (by decide) (by with_reducible rfl) (fun c19 => ?_) (fun c19 => ?_) | refine U_if_ne (tgt := 24) dX10_worth_19 (by decide) (by with_reducible rfl) (by omega) (fun c19 => ?_) (fun c19 => ?_) | refine V_if_ne (tgt := 24) dX10_worth_19 (by decide) (fun c19 => ?_) (fun c19 => ?_)
      · skip
        refine V_aloadn0 dX10_worth_24 ?_
        refine V_getR dX10_worth_25 fX10_41 (by first | assumption | rfl) (by first | decide | omega) (by first | assumption | exact ML_4 (by assumption) | exact ML_5 (by assumption) | exact ML_6 (by assumption) | exact ML_7 (by assumption) | exact ML_8 (by assumption) | exact ML_9 (by assumption) | exact ML_10 (by assumption) | exact ML_11 (by assumption) | exact ML_12 (by assumption) | exact ML_13 (by assumption) | exact ML_15 (by assumption) | exact ML_16 (by assumption) | exact ML_17 (by assumption) | exact ML_20 (by assumption) | exact ML_23 (by assumption) | exact ML_24 (by assumption) | exact ML_30 (by assumption) | exact ML_31 (by assumption) | exact ML_32 (by assumption) | exact ML_33 (by assumption) | exact ML_35 (by assumption) | exact ML_36 (by assumption) | exact ML_37 (by assumption) | exact ML_38 (by assumption) | exact ML_41 (by assumption) | exact ML_42 (by assumption) | exact ML_43 (by assumption) | exact ML_44 (by assumption) | exact ML_45 (by assumption) | rfl) ?_
        refine V_iloadn1 dX10_worth_28 ?_
        refine U_iald dX10_worth_29 (by with_reducible rfl) (by first | assumption | rfl) (by first | decide | omega) (by omega) (by first | assumption | exact ML_4 (by assumption) | exact ML_5 (by assumption) | exact ML_6 (by assumption) | exact ML_7 (by assumption) | exact ML_8 (by assumption) | exact ML_9 (by assumption) | exact ML_10 (by assumption) | exact ML_11 (by assumption) | exact ML_12 (by assumption) | exact ML_13 (by assumption) | exact ML_15 (by assumption) | exact ML_16 (by assumption) | exact ML_17 (by assumption) | exact ML_20 (by assumption) | exact ML_23 (by assumption) | exact ML_24 (by assumption) | exact ML_30 (by assumption) | exact ML_31 (by assumption) | exact ML_32 (by assumption) | exact ML_33 (by assumption) | exact ML_35 (by assumption) | exact ML_36 (by assumption) | exact ML_37 (by assumption) | exact ML_38 (by assumption) | exact ML_41 (by assumption) | exact ML_42 (by assumption) | exact ML_43 (by assumption) | exact ML_44 (by assumption) | exact ML_45 (by assumption) | rfl) ?_
        refine V_istoren3 dX10_worth_30 (by decide) rfl ?_
        refine V_aloadn0 dX10_worth_31 ?_
        refine V_getR dX10_worth_32 fX10_41 (by first | assumption | rfl) (by first | decide | omega) (by first | assumption | exact ML_4 (by assumption) | exact ML_5 (by assumption) | exact ML_6 (by assumption) | exact ML_7 (by assumption) | exact ML_8 (by assumption) | exact ML_9 (by assumption) | exact ML_10 (by assumption) | exact ML_11 (by assumption) | exact ML_12 (by assumption) | exact ML_13 (by assumption) | exact ML_15 (by assumption) | exact ML_16 (by assumption) | exact ML_17 (by assumption) | exact ML_20 (by assumption) | exact ML_23 (by assumption) | exact ML_24 (by assumption) | exact ML_30 (by assumption) | exact ML_31 (by assumption) | exact ML_32 (by assumption) | exact ML_33 (by assumption) | exact ML_35 (by assumption) | exact ML_36 (by assumption) | exact ML_37 (by assumption) | exact ML_38 (by assumption) | exact ML_41 (by assumption) | exact ML_42 (by assumption) | exact ML_43 (by assumption) | exact ML_44 (by assumption) | exact ML_45 (by assumption) | rfl) ?_
        refine V_iloadn1 dX10_worth_35 ?_
        refine V_iloadn2 dX10_worth_36 ?_
        refine U_iast dX10_worth_37 (by with_reducible rfl) (by first | assumption | rfl) (by first | decide | omega) (by omega) ?_
        refine V_iloadn3 dX10_worth_38 ?_
        refine V_iret dX10_worth_39 rfl rfl ?_
        exact fin
      · skip
        cases c19
  · have eq0 : f_worth S l v = (-1, S) := if_neg hg
    rw [eq0] at hQ
    have hQ9 := hQ h hR FrD.rf
    refine V_iloadn1 dX10_worth_0 ?_
    refine V_iconst (v := nI 1) dX10_worth_1 (by decide) ?_
    refine V_aloadn0 dX10_worth_2 ?_
    refine V_getI dX10_worth_3 fX10_7 (Or.inl rfl) (by first | assumption | rfl) (by first | decide | omega) (by first | assumption | exact ML_4 (by assumption) | exact ML_5 (by assumption) | exact ML_6 (by assumption) | exact ML_7 (by assumption) | exact ML_8 (by assumption) | exact ML_9 (by assumption) | exact ML_10 (by assumption) | exact ML_11 (by assumption) | exact ML_12 (by assumption) | exact ML_13 (by assumption) | exact ML_15 (by assumption) | exact ML_16 (by assumption) | exact ML_17 (by assumption) | exact ML_20 (by assumption) | exact ML_23 (by assumption) | exact ML_24 (by assumption) | exact ML_30 (by assumption) | exact ML_31 (by assumption) | exact ML_32 (by assumption) | exact ML_33 (by assumption) | exact ML_35 (by assumption) | exact ML_36 (by assumption) | exact ML_37 (by assumption) | exact ML_38 (by assumption) | exact ML_41 (by assumption) | exact ML_42 (by assumption) | exact ML_43 (by assumption) | exact ML_44 (by assumption) | exact ML_45 (by assumption) | rfl) ?_
    refine V_callS3 (μ' := mX10_in) dX10_worth_6 okX10_in lX10_104 (Nat.le_of_ble_eq_true rfl) (Nat.le_of_ble_eq_true rfl) (by omega) ?_
    refine m_inR ?_
    dsimp only [gPush]
    first | refine U_ifB_eq (tgt := 22) dX10_worth_9 (by decide) (by with_reducible rfl) (fun c9 => ?_) (fun c9 => ?_) | refine U_if_eq (tgt := 22) dX10_worth_9 (by decide) (by with_reducible rfl) (by omega) (fun c9 => ?_) (fun c9 => ?_) | refine V_if_eq (tgt := 22) dX10_worth_9 (by decide) (fun c9 => ?_) (fun c9 => ?_)
    · skip
      refine V_iconst (v := -1) dX10_worth_22 (by decide) ?_
      refine V_iret dX10_worth_23 rfl rfl ?_
      exact hQ9
    · skip
      refine V_iloadn2 dX10_worth_12 ?_
      refine V_iconst (v := nI 0) dX10_worth_13 (by decide) ?_
      refine V_bipush (v := nI 99) dX10_worth_14 (by decide) ?_
      refine V_callS3 (μ' := mX10_in) dX10_worth_16 okX10_in lX10_104 (Nat.le_of_ble_eq_true rfl) (Nat.le_of_ble_eq_true rfl) (by omega) ?_
      refine m_inR ?_
      dsimp only [gPush]
      first | refine U_ifB_ne (tgt := 24) dX10_worth_19 (by decide) (by with_reducible rfl) (fun c19 => ?_) (fun c19 => ?_) | refine U_if_ne (tgt := 24) dX10_worth_19 (by decide) (by with_reducible rfl) (by omega) (fun c19 => ?_) (fun c19 => ?_) | refine V_if_ne (tgt := 24) dX10_worth_19 (by decide) (fun c19 => ?_) (fun c19 => ?_)
      · skip
        exact absurd (by rw [c9, c19]; rfl) hg
      · skip
        refine V_iconst (v := -1) dX10_worth_22 (by decide) ?_
        refine V_iret dX10_worth_23 rfl rfl ?_
        exact hQ9

set_option maxRecDepth 100000 in
set_option maxHeartbeats 4000000 in
theorem m_seed {v : Int32} (hd : 1 ≤ d) (hR : RM h S) (hWG : WG S) (hQ : ∀ h', RM h' (f_seed S v).2 → FrD h h' → Q (some (.int (f_seed S v).1)) h') : V Γ mX10_seed d 124 124 h 0 [some (.ref 94), some (.int v), none] [] Q := by
  obtain ⟨hM, ⟨r0, r1, rT, rW⟩, rK, rK2, rB, rS⟩ := id hR
  obtain ⟨hWS, hWK, hWB, hWX⟩ := id hWG
  have hn2 := hWS.1
  have hn5 := hWS.2.1
  have fin : Q (some (.int S.1.2.1)) (sI h 94 1 v) := by
    refine hQ _ (RM_now (S := S) hR (A := (S.1.1, v, S.1.2.2)) (by rw [gI_sI, if_neg (by omega)]; exact r0) (by rw [gI_sI, if_pos ⟨rfl, rfl⟩]) (MT_cg rT (fun a q1 q2 => by funext b; rw [gI_sI, if_neg (by omega)])) (fun q q1 q2 => by rw [gI_sI, if_neg (by omega)]; exact rW q q1 q2) (fun a ha => by funext b; rw [gI_sI, if_neg (by omega)]) (fun q hq => by rw [gI_sI, if_neg (by omega)]) rfl) ⟨fun a ha => by funext b; rw [gI_sI, if_neg (by omega)], fun _ _ => rfl, rfl⟩
  refine V_aloadn0 dX10_seed_0 ?_
  refine V_getI dX10_seed_1 fX10_13 (Or.inl rfl) (by first | assumption | rfl) (by first | decide | omega) (by first | assumption | exact ML_4 (by assumption) | exact ML_5 (by assumption) | exact ML_6 (by assumption) | exact ML_7 (by assumption) | exact ML_8 (by assumption) | exact ML_9 (by assumption) | exact ML_10 (by assumption) | exact ML_11 (by assumption) | exact ML_12 (by assumption) | exact ML_13 (by assumption) | exact ML_15 (by assumption) | exact ML_16 (by assumption) | exact ML_17 (by assumption) | exact ML_20 (by assumption) | exact ML_23 (by assumption) | exact ML_24 (by assumption) | exact ML_30 (by assumption) | exact ML_31 (by assumption) | exact ML_32 (by assumption) | exact ML_33 (by assumption) | exact ML_35 (by assumption) | exact ML_36 (by assumption) | exact ML_37 (by assumption) | exact ML_38 (by assumption) | exact ML_41 (by assumption) | exact ML_42 (by assumption) | exact ML_43 (by assumption) | exact ML_44 (by assumption) | exact ML_45 (by assumption) | rfl) ?_
  refine V_istoren2 dX10_seed_4 (by decide) rfl ?_
  refine V_aloadn0 dX10_seed_5 ?_
  refine V_iloadn1 dX10_seed_6 ?_
  refine V_putI dX10_seed_7 fX10_13 (by first | assumption | rfl) (by first | decide | omega) ?_
  refine V_iloadn2 dX10_seed_10 ?_
  refine V_iret dX10_seed_11 rfl rfl ?_
  exact fin

set_option maxRecDepth 100000 in
set_option maxHeartbeats 4000000 in
theorem m_lot {x k : Int32} (hd : 2 ≤ d) (hR : RM h S) (hWG : WG S) (hQ : ∀ h', RM h' (f_lot S x k).2 → FrD h h' → Q (some (.int (f_lot S x k).1)) h') : V Γ mX10_lot d 124 124 h 0 [some (.ref 94), some (.int x), some (.int k), none] [] Q := by
  obtain ⟨hM, ⟨r0, r1, rT, rW⟩, rK, rK2, rB, rS⟩ := id hR
  obtain ⟨hWS, hWK, hWB, hWX⟩ := id hWG
  have hn2 := hWS.1
  have hn5 := hWS.2.1
  by_cases hg : (inB x 6 && inR k 0 6) = true
  · have hg2 := hg
    rw [Bool.and_eq_true] at hg2
    obtain ⟨s, hs, rfl⟩ := inB_t (by decide) hg2.1
    obtain ⟨m, m0, m6, rfl⟩ := inR_t (by decide) (by decide) hg2.2
    have eq0 : f_lot S (nI s) (nI m) = _ := if_t hg
    unfold loR at eq0
    rw [eq0, cN_nI (by omega), cN_nI (by omega)] at hQ
    generalize hRR : ltF S.1.1 m S.1.2.1 [] = R at hQ
    have loop : ∀ f p h1 z w, p + f = m → w.length = p → ltF S.1.1 f z w = R → LtW S.1.1 w → gI h1 94 18 = nI m → gI h1 94 19 = nI 1 → gI h1 94 1 = z → (∀ j, j < p → gI h1 105 j = nI (w.getD j 0)) → (∀ a, a ≠ 105 → ∀ b, ¬ (a = 94 ∧ (b = 1 ∨ b = 18 ∨ b = 19)) → gI h1 a b = gI h a b) → gL h1 = gL h → gR h1 = gR h → V Γ mX10_lot d 124 124 h1 31 [some (.ref 94), some (.int (nI s)), some (.int (nI m)), some (.int (nI p))] [] Q := by
      intro f
      induction f with
      | zero =>
        intro p h1 z w hp hwl hlt hw g18 g19 g1 tw e l r
        have epm : p = m := by omega
        subst epm
        have hR' : R = (z, w) := hlt.symm
        subst hR'
        have hW1 : WW h1 w := ⟨by rw [g18, hwl], fun j hj => tw j (by omega), by omega, LtW9 hw hn5⟩
        have hR1 : RM h1 ((S.1.1, z, S.1.2.2), S.2) := RM_now (S := S) hR (A := (S.1.1, z, S.1.2.2)) (by rw [e 94 (by omega) 0 (by omega)]; exact r0) g1 (MT_cg rT (fun a q1 q2 => funext (fun b => e a (by omega) b (by omega)))) (fun q q1 q2 => by rw [e 103 (by omega) q (by omega)]; exact rW q q1 q2) (fun a ha => funext (fun b => e a (by omega) b (by omega))) (fun q hq => e 94 (by omega) q (by omega)) r
        refine V_iloadn3 dX10_lot_31 ?_
        refine V_iloadn2 dX10_lot_32 ?_
        first | refine U_icmp_ge (tgt := 78) dX10_lot_33 (by decide) (by with_reducible rfl) (by with_reducible rfl) (by omega) (by omega) (fun c33 => ?_) (fun c33 => ?_) | refine V_icmp_ge (tgt := 78) dX10_lot_33 (by decide) (fun c33 => ?_) (fun c33 => ?_)
        · skip
          refine V_aloadn0 dX10_lot_78 ?_
          refine V_iloadn1 dX10_lot_79 ?_
          refine V_callV1 (μ' := mX10_lays) dX10_lot_80 okX10_lays lX10_121 rfl (by first | assumption | rfl) (by first | decide | omega) (Nat.le_of_ble_eq_true rfl) (Nat.le_of_ble_eq_true rfl) (by omega) ?_
          refine m_lays (L := []) hs hR1 hWS (by decide) g19 hW1 (fun q => by cases q) (fun _ => rfl) (fun h2 hR2 e2 l2 k2 => ?_)
          have hQ9 := hQ h2 hR2 ⟨fun a ha => by rw [e2 a (by omega)]; exact funext (fun b => e a (by omega) b (by omega)), fun a ha => by rw [l2, l], by rw [k2, r]⟩
          dsimp only [gPush]
          refine V_aloadn0 dX10_lot_83 ?_
          refine V_callV0 (μ' := mX10_read) dX10_lot_84 okX10_read lX10_149 rfl (by first | assumption | rfl) (by first | decide | omega) (Nat.le_of_ble_eq_true rfl) (Nat.le_of_ble_eq_true rfl) (by omega) ?_
          refine m_read hR2.1 (WW_cg hW1 (by rw [e2 94 (by omega)]) (e2 105 (by omega))) ?_
          dsimp only [gPush]
          refine V_iret dX10_lot_87 rfl rfl ?_
          exact hQ9
        · skip
          omega
      | succ f ih =>
        intro p h1 z w hp hwl hlt hw g18 g19 g1 tw e l r
        have hM1 := MLay_eq hM r
        obtain ⟨v1, v2⟩ := zHi_v (zNext z)
        generalize hv : cN (zHi (zNext z)) = v at v1 v2
        have hlt2 : ltF S.1.1 f (zNext z) (w ++ [1 + v % S.1.1]) = R := by rw [← hv]; exact hlt
        have hvm := Nat.mod_lt v (show 0 < S.1.1 by omega)
        generalize hh2 : sI h1 94 1 (zNext z) = h2
        have hM2 : MLay h2 := by rw [← hh2]; exact MLay_eq hM1 rfl
        have j0 : gI h2 94 0 = nI S.1.1 := by rw [← hh2, gI_sI, if_neg (by omega), e 94 (by omega) 0 (by omega)]; exact r0
        have j1 : gI h2 94 1 = zNext z := by rw [← hh2, gI_sI, if_pos ⟨rfl, rfl⟩]
        have e2 : ∀ a b, ¬ (a = 94 ∧ b = 1) → gI h2 a b = gI h1 a b := fun a b q => by rw [← hh2, gI_sI, if_neg q]
        refine V_iloadn3 dX10_lot_31 ?_
        refine V_iloadn2 dX10_lot_32 ?_
        first | refine U_icmp_ge (tgt := 78) dX10_lot_33 (by decide) (by with_reducible rfl) (by with_reducible rfl) (by omega) (by omega) (fun c33 => ?_) (fun c33 => ?_) | refine V_icmp_ge (tgt := 78) dX10_lot_33 (by decide) (fun c33 => ?_) (fun c33 => ?_)
        · skip
          omega
        · skip
          refine V_aloadn0 dX10_lot_36 ?_
          refine V_aloadn0 dX10_lot_37 ?_
          refine V_getI dX10_lot_38 fX10_13 (Or.inl rfl) (by first | assumption | rfl) (by first | decide | omega) (by first | assumption | exact ML_4 (by assumption) | exact ML_5 (by assumption) | exact ML_6 (by assumption) | exact ML_7 (by assumption) | exact ML_8 (by assumption) | exact ML_9 (by assumption) | exact ML_10 (by assumption) | exact ML_11 (by assumption) | exact ML_12 (by assumption) | exact ML_13 (by assumption) | exact ML_15 (by assumption) | exact ML_16 (by assumption) | exact ML_17 (by assumption) | exact ML_20 (by assumption) | exact ML_23 (by assumption) | exact ML_24 (by assumption) | exact ML_30 (by assumption) | exact ML_31 (by assumption) | exact ML_32 (by assumption) | exact ML_33 (by assumption) | exact ML_35 (by assumption) | exact ML_36 (by assumption) | exact ML_37 (by assumption) | exact ML_38 (by assumption) | exact ML_41 (by assumption) | exact ML_42 (by assumption) | exact ML_43 (by assumption) | exact ML_44 (by assumption) | exact ML_45 (by assumption) | rfl) ?_
          refine V_ldcw (v := 1103515245) dX10_lot_41 kX10_283 ?_
          first | refine U_imul dX10_lot_44 (by with_reducible rfl) (by with_reducible rfl) ?_ | refine V_imul dX10_lot_44 ?_
          refine V_sipush (v := nI 12345) dX10_lot_45 (by decide) ?_
          first | refine U_iadd dX10_lot_48 (by with_reducible rfl) (by with_reducible rfl) ?_ | refine V_iadd dX10_lot_48 ?_
          refine V_putI dX10_lot_49 fX10_13 (by first | assumption | rfl) (by first | decide | omega) ?_
          rw [show z * 1103515245 + nI 12345 = zNext z from rfl, hh2]
          refine V_aloadn0 dX10_lot_52 ?_
          refine V_getR dX10_lot_53 fX10_47 (by first | assumption | rfl) (by first | decide | omega) (by first | assumption | exact ML_4 (by assumption) | exact ML_5 (by assumption) | exact ML_6 (by assumption) | exact ML_7 (by assumption) | exact ML_8 (by assumption) | exact ML_9 (by assumption) | exact ML_10 (by assumption) | exact ML_11 (by assumption) | exact ML_12 (by assumption) | exact ML_13 (by assumption) | exact ML_15 (by assumption) | exact ML_16 (by assumption) | exact ML_17 (by assumption) | exact ML_20 (by assumption) | exact ML_23 (by assumption) | exact ML_24 (by assumption) | exact ML_30 (by assumption) | exact ML_31 (by assumption) | exact ML_32 (by assumption) | exact ML_33 (by assumption) | exact ML_35 (by assumption) | exact ML_36 (by assumption) | exact ML_37 (by assumption) | exact ML_38 (by assumption) | exact ML_41 (by assumption) | exact ML_42 (by assumption) | exact ML_43 (by assumption) | exact ML_44 (by assumption) | exact ML_45 (by assumption) | rfl) ?_
          refine V_iloadn3 dX10_lot_56 ?_
          refine V_iconst (v := nI 1) dX10_lot_57 (by decide) ?_
          refine V_aloadn0 dX10_lot_58 ?_
          refine V_getI dX10_lot_59 fX10_13 (Or.inl rfl) (by first | assumption | rfl) (by first | decide | omega) (by first | assumption | exact ML_4 (by assumption) | exact ML_5 (by assumption) | exact ML_6 (by assumption) | exact ML_7 (by assumption) | exact ML_8 (by assumption) | exact ML_9 (by assumption) | exact ML_10 (by assumption) | exact ML_11 (by assumption) | exact ML_12 (by assumption) | exact ML_13 (by assumption) | exact ML_15 (by assumption) | exact ML_16 (by assumption) | exact ML_17 (by assumption) | exact ML_20 (by assumption) | exact ML_23 (by assumption) | exact ML_24 (by assumption) | exact ML_30 (by assumption) | exact ML_31 (by assumption) | exact ML_32 (by assumption) | exact ML_33 (by assumption) | exact ML_35 (by assumption) | exact ML_36 (by assumption) | exact ML_37 (by assumption) | exact ML_38 (by assumption) | exact ML_41 (by assumption) | exact ML_42 (by assumption) | exact ML_43 (by assumption) | exact ML_44 (by assumption) | exact ML_45 (by assumption) | rfl) ?_
          refine V_bipush (v := nI 16) dX10_lot_62 (by decide) ?_
          refine V_iushr dX10_lot_64 (show _ = zHi (zNext z) from rfl) ?_
          refine V_topI v1 ?_
          refine V_aloadn0 dX10_lot_65 ?_
          refine V_getI dX10_lot_66 fX10_7 (Or.inl rfl) (by first | assumption | rfl) (by first | decide | omega) (by first | assumption | exact ML_4 (by assumption) | exact ML_5 (by assumption) | exact ML_6 (by assumption) | exact ML_7 (by assumption) | exact ML_8 (by assumption) | exact ML_9 (by assumption) | exact ML_10 (by assumption) | exact ML_11 (by assumption) | exact ML_12 (by assumption) | exact ML_13 (by assumption) | exact ML_15 (by assumption) | exact ML_16 (by assumption) | exact ML_17 (by assumption) | exact ML_20 (by assumption) | exact ML_23 (by assumption) | exact ML_24 (by assumption) | exact ML_30 (by assumption) | exact ML_31 (by assumption) | exact ML_32 (by assumption) | exact ML_33 (by assumption) | exact ML_35 (by assumption) | exact ML_36 (by assumption) | exact ML_37 (by assumption) | exact ML_38 (by assumption) | exact ML_41 (by assumption) | exact ML_42 (by assumption) | exact ML_43 (by assumption) | exact ML_44 (by assumption) | exact ML_45 (by assumption) | rfl) ?_
          first | refine U_irem dX10_lot_69 (by with_reducible rfl) (by with_reducible rfl) (by omega) (by omega) (by omega) ?_ | refine V_irem dX10_lot_69 (by decide) ?_
          first | refine U_iadd dX10_lot_70 (by with_reducible rfl) (by with_reducible rfl) ?_ | refine V_iadd dX10_lot_70 ?_
          refine U_iast dX10_lot_71 (by with_reducible rfl) (by first | assumption | rfl) (by first | decide | omega) (by omega) ?_
          refine V_iinc3 dX10_lot_72 (by first | exact ginc1 _ | rfl) (by decide) rfl ?_
          refine V_goto (tgt := 31) dX10_lot_75 (by decide) ?_
          refine ih (p + 1) _ (zNext z) (w ++ [1 + v % S.1.1]) (by omega) (by rw [List.length_append, hwl]; rfl) hlt2 (fun j hj => ?_) ?_ ?_ ?_ (fun j hj => ?_) (fun a a1 b hb => ?_) (by rw [gL_sI, ← hh2]; exact l) (by rw [gR_sI, ← hh2]; exact r)
          · rw [getD_snoc]
            by_cases e : j = w.length
            · rw [if_pos e]; omega
            · rw [if_neg e]; exact hw j (by rw [List.length_append] at hj; simp at hj; omega)
          · rw [gI_sI, if_neg (by omega), e2 _ _ (by omega)]; exact g18
          · rw [gI_sI, if_neg (by omega), e2 _ _ (by omega)]; exact g19
          · rw [gI_sI, if_neg (by omega)]; exact j1
          · rw [gI_sI, getD_snoc, hwl]
            by_cases e : j = p
            · rw [if_pos ⟨rfl, e⟩, if_pos e]
            · rw [if_neg (fun q => e q.2), if_neg e, e2 _ _ (by omega)]; exact tw j (by omega)
          · rw [gI_sI, if_neg (fun q => a1 q.1), e2 a b (by omega)]; exact e a a1 b hb
    refine V_iloadn1 dX10_lot_0 ?_
    refine V_callS1 (μ' := mX10_isSlot) dX10_lot_1 okX10_isSlot lX10_114 (Nat.le_of_ble_eq_true rfl) (Nat.le_of_ble_eq_true rfl) (by omega) ?_
    refine m_isSlot (by omega) ?_
    rw [hg2.1]
    dsimp only [gPush]
    first | refine U_ifB_eq (tgt := 17) dX10_lot_4 (by decide) (by with_reducible rfl) (fun c4 => ?_) (fun c4 => ?_) | refine U_if_eq (tgt := 17) dX10_lot_4 (by decide) (by with_reducible rfl) (by omega) (fun c4 => ?_) (fun c4 => ?_) | refine V_if_eq (tgt := 17) dX10_lot_4 (by decide) (fun c4 => ?_) (fun c4 => ?_)
    · skip
      cases c4
    · skip
      refine V_iloadn2 dX10_lot_7 ?_
      refine V_iconst (v := nI 0) dX10_lot_8 (by decide) ?_
      refine V_bipush (v := nI 6) dX10_lot_9 (by decide) ?_
      refine V_callS3 (μ' := mX10_in) dX10_lot_11 okX10_in lX10_104 (Nat.le_of_ble_eq_true rfl) (Nat.le_of_ble_eq_true rfl) (by omega) ?_
      refine m_inR ?_
      rw [hg2.2]
      dsimp only [gPush]
      first | refine U_ifB_ne (tgt := 19) dX10_lot_14 (by decide) (by with_reducible rfl) (fun c14 => ?_) (fun c14 => ?_) | refine U_if_ne (tgt := 19) dX10_lot_14 (by decide) (by with_reducible rfl) (by omega) (fun c14 => ?_) (fun c14 => ?_) | refine V_if_ne (tgt := 19) dX10_lot_14 (by decide) (fun c14 => ?_) (fun c14 => ?_)
      · skip
        refine V_aloadn0 dX10_lot_19 ?_
        refine V_iconst (v := nI 1) dX10_lot_20 (by decide) ?_
        refine V_putI dX10_lot_21 fX10_108 (by first | assumption | rfl) (by first | decide | omega) ?_
        refine V_aloadn0 dX10_lot_24 ?_
        refine V_iloadn2 dX10_lot_25 ?_
        refine V_putI dX10_lot_26 fX10_111 (by first | assumption | rfl) (by first | decide | omega) ?_
        refine V_iconst (v := nI 0) dX10_lot_29 (by decide) ?_
        refine V_istoren3 dX10_lot_30 (by decide) rfl ?_
        exact loop m 0 _ S.1.2.1 [] (by omega) rfl hRR (fun j hj => absurd hj (Nat.not_lt_zero _)) (by rw [gI_sI, if_pos ⟨rfl, rfl⟩]) (by rw [gI_sI, if_neg (by omega), gI_sI, if_pos ⟨rfl, rfl⟩]) (by rw [gI_sI, if_neg (by omega), gI_sI, if_neg (by omega)]; exact r1) (fun j hj => absurd hj (Nat.not_lt_zero _)) (fun a a1 b hb => by rw [gI_sI, if_neg (by omega), gI_sI, if_neg (by omega)]) rfl rfl
      · skip
        cases c14
  · have eq0 : f_lot S x k = (-1, S) := if_neg hg
    rw [eq0] at hQ
    have hQ9 := hQ h hR FrD.rf
    refine V_iloadn1 dX10_lot_0 ?_
    refine V_callS1 (μ' := mX10_isSlot) dX10_lot_1 okX10_isSlot lX10_114 (Nat.le_of_ble_eq_true rfl) (Nat.le_of_ble_eq_true rfl) (by omega) ?_
    refine m_isSlot (by omega) ?_
    dsimp only [gPush]
    first | refine U_ifB_eq (tgt := 17) dX10_lot_4 (by decide) (by with_reducible rfl) (fun c4 => ?_) (fun c4 => ?_) | refine U_if_eq (tgt := 17) dX10_lot_4 (by decide) (by with_reducible rfl) (by omega) (fun c4 => ?_) (fun c4 => ?_) | refine V_if_eq (tgt := 17) dX10_lot_4 (by decide) (fun c4 => ?_) (fun c4 => ?_)
    · skip
      refine V_iconst (v := -1) dX10_lot_17 (by decide) ?_
      refine V_iret dX10_lot_18 rfl rfl ?_
      exact hQ9
    · skip
      refine V_iloadn2 dX10_lot_7 ?_
      refine V_iconst (v := nI 0) dX10_lot_8 (by decide) ?_
      refine V_bipush (v := nI 6) dX10_lot_9 (by decide) ?_
      refine V_callS3 (μ' := mX10_in) dX10_lot_11 okX10_in lX10_104 (Nat.le_of_ble_eq_true rfl) (Nat.le_of_ble_eq_true rfl) (by omega) ?_
      refine m_inR ?_
      dsimp only [gPush]
      first | refine U_ifB_ne (tgt := 19) dX10_lot_14 (by decide) (by with_reducible rfl) (fun c14 => ?_) (fun c14 => ?_) | refine U_if_ne (tgt := 19) dX10_lot_14 (by decide) (by with_reducible rfl) (by omega) (fun c14 => ?_) (fun c14 => ?_) | refine V_if_ne (tgt := 19) dX10_lot_14 (by decide) (fun c14 => ?_) (fun c14 => ?_)
      · skip
        exact absurd (by rw [c4, c14]; rfl) hg
      · skip
        refine V_iconst (v := -1) dX10_lot_17 (by decide) ?_
        refine V_iret dX10_lot_18 rfl rfl ?_
        exact hQ9

set_option maxRecDepth 100000 in
set_option maxHeartbeats 4000000 in
theorem m_lettersAll (hR : RM h S) (hWS : WS S.1) (hQ : Q (some (.int (lsS S.1))) h) : V Γ mX10_lettersAll d 124 124 h 0 [some (.ref 94), none, none] [] Q := by
  obtain ⟨hM, ⟨r0, r1, rT, rW⟩, -⟩ := id hR
  have hle : ∀ k, k ≤ 6 → sumF (fun s => (S.1.2.2.1 s).2.1.length) k ≤ 6 * k := by
    intro k
    induction k with
    | zero => intro _; exact Nat.le_refl _
    | succ k ih =>
      intro hk
      have := ih (by omega)
      have := (hWS.2.2.1 k (by omega)).2.1
      unfold sumF
      omega
  have loop : ∀ f k, k + f = 6 → V Γ mX10_lettersAll d 124 124 h 4 [some (.ref 94), some (.int (nI (sumF (fun s => (S.1.2.2.1 s).2.1.length) k))), some (.int (nI k))] [] Q := by
    intro f
    induction f with
    | zero =>
      intro k hk
      have e : k = 6 := by omega
      subst e
      refine V_iloadn2 dX10_lettersAll_4 ?_
      refine V_bipush (v := nI 6) dX10_lettersAll_5 (by decide) ?_
      first | refine U_icmp_ge (tgt := 38) dX10_lettersAll_7 (by decide) (by with_reducible rfl) (by with_reducible rfl) (by omega) (by omega) (fun c7 => ?_) (fun c7 => ?_) | refine V_icmp_ge (tgt := 38) dX10_lettersAll_7 (by decide) (fun c7 => ?_) (fun c7 => ?_)
      · skip
        refine V_iloadn1 dX10_lettersAll_38 ?_
        refine V_iret dX10_lettersAll_39 rfl rfl ?_
        exact hQ
      · skip
        omega
    | succ f ih =>
      intro k hk
      obtain ⟨t0, tz⟩ := rT k (by omega)
      have hWT := hWS.2.2.1 k (by omega)
      have kd2 := hWT.1
      have hwl := hWT.2.1
      have e1 : sumF (fun s => (S.1.2.2.1 s).2.1.length) k + (S.1.2.2.1 k).2.1.length = sumF (fun s => (S.1.2.2.1 s).2.1.length) (k + 1) := rfl
      have e2 : (S.1.2.2.1 k).1 = 0 → sumF (fun s => (S.1.2.2.1 s).2.1.length) k + 0 = sumF (fun s => (S.1.2.2.1 s).2.1.length) (k + 1) := fun q => by rw [← e1, hWT.2.2.2.1 q]; rfl
      refine V_iloadn2 dX10_lettersAll_4 ?_
      refine V_bipush (v := nI 6) dX10_lettersAll_5 (by decide) ?_
      first | refine U_icmp_ge (tgt := 38) dX10_lettersAll_7 (by decide) (by with_reducible rfl) (by with_reducible rfl) (by omega) (by omega) (fun c7 => ?_) (fun c7 => ?_) | refine V_icmp_ge (tgt := 38) dX10_lettersAll_7 (by decide) (fun c7 => ?_) (fun c7 => ?_)
      · skip
        omega
      · skip
        refine V_iloadn1 dX10_lettersAll_10 ?_
        refine V_aloadn0 dX10_lettersAll_11 ?_
        refine V_getR dX10_lettersAll_12 fX10_16 (by first | assumption | rfl) (by first | decide | omega) (by first | assumption | exact (tz (by assumption)).1 | exact ML_4 (by assumption) | exact ML_5 (by assumption) | exact ML_6 (by assumption) | exact ML_7 (by assumption) | exact ML_8 (by assumption) | exact ML_9 (by assumption) | exact ML_10 (by assumption) | exact ML_11 (by assumption) | exact ML_12 (by assumption) | exact ML_13 (by assumption) | exact ML_15 (by assumption) | exact ML_16 (by assumption) | exact ML_17 (by assumption) | exact ML_20 (by assumption) | exact ML_23 (by assumption) | exact ML_24 (by assumption) | exact ML_30 (by assumption) | exact ML_31 (by assumption) | exact ML_32 (by assumption) | exact ML_33 (by assumption) | exact ML_35 (by assumption) | exact ML_36 (by assumption) | exact ML_37 (by assumption) | exact ML_38 (by assumption) | exact ML_41 (by assumption) | exact ML_42 (by assumption) | exact ML_43 (by assumption) | exact ML_44 (by assumption) | exact ML_45 (by assumption) | rfl) ?_
        refine V_iloadn2 dX10_lettersAll_15 ?_
        refine U_iald dX10_lettersAll_16 (by with_reducible rfl) (by first | assumption | rfl) (by first | decide | omega) (by omega) (by first | assumption | exact (tz (by assumption)).1 | exact ML_4 (by assumption) | exact ML_5 (by assumption) | exact ML_6 (by assumption) | exact ML_7 (by assumption) | exact ML_8 (by assumption) | exact ML_9 (by assumption) | exact ML_10 (by assumption) | exact ML_11 (by assumption) | exact ML_12 (by assumption) | exact ML_13 (by assumption) | exact ML_15 (by assumption) | exact ML_16 (by assumption) | exact ML_17 (by assumption) | exact ML_20 (by assumption) | exact ML_23 (by assumption) | exact ML_24 (by assumption) | exact ML_30 (by assumption) | exact ML_31 (by assumption) | exact ML_32 (by assumption) | exact ML_33 (by assumption) | exact ML_35 (by assumption) | exact ML_36 (by assumption) | exact ML_37 (by assumption) | exact ML_38 (by assumption) | exact ML_41 (by assumption) | exact ML_42 (by assumption) | exact ML_43 (by assumption) | exact ML_44 (by assumption) | exact ML_45 (by assumption) | rfl) ?_
        first | refine U_if_le (tgt := 29) dX10_lettersAll_17 (by decide) (by with_reducible rfl) (by omega) (fun c17 => ?_) (fun c17 => ?_) | refine V_if_le (tgt := 29) dX10_lettersAll_17 (by decide) (fun c17 => ?_) (fun c17 => ?_)
        · skip
          refine V_iconst (v := nI 0) dX10_lettersAll_29 (by decide) ?_
          first | refine U_iadd dX10_lettersAll_30 (by with_reducible rfl) (by with_reducible rfl) ?_ | refine V_iadd dX10_lettersAll_30 ?_
          refine V_istoren1 dX10_lettersAll_31 (by decide) rfl ?_
          refine V_iinc2 dX10_lettersAll_32 (by first | exact ginc1 _ | rfl) (by decide) rfl ?_
          refine V_goto (tgt := 4) dX10_lettersAll_35 (by decide) ?_
          first | rw [e2 (by assumption)] | rw [e1]
          exact ih (k + 1) (by omega)
        · skip
          refine V_aloadn0 dX10_lettersAll_20 ?_
          refine V_getR dX10_lettersAll_21 fX10_20 (by first | assumption | rfl) (by first | decide | omega) (by first | assumption | exact (tz (by assumption)).1 | exact ML_4 (by assumption) | exact ML_5 (by assumption) | exact ML_6 (by assumption) | exact ML_7 (by assumption) | exact ML_8 (by assumption) | exact ML_9 (by assumption) | exact ML_10 (by assumption) | exact ML_11 (by assumption) | exact ML_12 (by assumption) | exact ML_13 (by assumption) | exact ML_15 (by assumption) | exact ML_16 (by assumption) | exact ML_17 (by assumption) | exact ML_20 (by assumption) | exact ML_23 (by assumption) | exact ML_24 (by assumption) | exact ML_30 (by assumption) | exact ML_31 (by assumption) | exact ML_32 (by assumption) | exact ML_33 (by assumption) | exact ML_35 (by assumption) | exact ML_36 (by assumption) | exact ML_37 (by assumption) | exact ML_38 (by assumption) | exact ML_41 (by assumption) | exact ML_42 (by assumption) | exact ML_43 (by assumption) | exact ML_44 (by assumption) | exact ML_45 (by assumption) | rfl) ?_
          refine V_iloadn2 dX10_lettersAll_24 ?_
          refine U_iald dX10_lettersAll_25 (by with_reducible rfl) (by first | assumption | rfl) (by first | decide | omega) (by omega) (by first | assumption | exact (tz (by assumption)).1 | exact ML_4 (by assumption) | exact ML_5 (by assumption) | exact ML_6 (by assumption) | exact ML_7 (by assumption) | exact ML_8 (by assumption) | exact ML_9 (by assumption) | exact ML_10 (by assumption) | exact ML_11 (by assumption) | exact ML_12 (by assumption) | exact ML_13 (by assumption) | exact ML_15 (by assumption) | exact ML_16 (by assumption) | exact ML_17 (by assumption) | exact ML_20 (by assumption) | exact ML_23 (by assumption) | exact ML_24 (by assumption) | exact ML_30 (by assumption) | exact ML_31 (by assumption) | exact ML_32 (by assumption) | exact ML_33 (by assumption) | exact ML_35 (by assumption) | exact ML_36 (by assumption) | exact ML_37 (by assumption) | exact ML_38 (by assumption) | exact ML_41 (by assumption) | exact ML_42 (by assumption) | exact ML_43 (by assumption) | exact ML_44 (by assumption) | exact ML_45 (by assumption) | rfl) ?_
          refine V_goto (tgt := 30) dX10_lettersAll_26 (by decide) ?_
          first | refine U_iadd dX10_lettersAll_30 (by with_reducible rfl) (by with_reducible rfl) ?_ | refine V_iadd dX10_lettersAll_30 ?_
          refine V_istoren1 dX10_lettersAll_31 (by decide) rfl ?_
          refine V_iinc2 dX10_lettersAll_32 (by first | exact ginc1 _ | rfl) (by decide) rfl ?_
          refine V_goto (tgt := 4) dX10_lettersAll_35 (by decide) ?_
          first | rw [e2 (by assumption)] | rw [e1]
          exact ih (k + 1) (by omega)
  refine V_iconst (v := nI 0) dX10_lettersAll_0 (by decide) ?_
  refine V_istoren1 dX10_lettersAll_1 (by decide) rfl ?_
  refine V_iconst (v := nI 0) dX10_lettersAll_2 (by decide) ?_
  refine V_istoren2 dX10_lettersAll_3 (by decide) rfl ?_
  exact loop 6 0 rfl

set_option maxRecDepth 100000 in
set_option maxHeartbeats 4000000 in
theorem m_many {y : Int32} (hd : 2 ≤ d) (hR : RM h S) (hWG : WG S) (hQ : ∀ h', RM h' S → FrD h h' → Q (some (.int (g_many S y))) h') : V Γ mX10_many d 124 124 h 0 [some (.ref 94), some (.int y), none, none] [] Q := by
  obtain ⟨hM, ⟨r0, r1, rT, rW⟩, rK, rK2, rB, rS⟩ := id hR
  obtain ⟨hWS, hWK, hWB, hWX⟩ := id hWG
  have hn2 := hWS.1
  have hn5 := hWS.2.1
  have t0 := rB.1
  have loop : ∀ f k, k + f = 6 → V Γ mX10_many d 124 124 h 4 [some (.ref 94), some (.int y), some (.int (hsF (fun s => (S.1.2.2.1 s).1) k)), some (.int (nI k))] [] Q := by
    intro f
    induction f with
    | zero =>
      intro k hk
      have e : k = 6 := by omega
      subst e
      have hQ' := hQ h hR FrD.rf
      unfold g_many at hQ'
      by_cases h0 : y = nI 0
      · subst h0
        rw [if_pos rfl] at hQ'
        refine V_iloadn3 dX10_many_4 ?_
        refine V_bipush (v := nI 6) dX10_many_5 (by decide) ?_
        first | refine U_icmp_ge (tgt := 35) dX10_many_7 (by decide) (by with_reducible rfl) (by with_reducible rfl) (by omega) (by omega) (fun c7 => ?_) (fun c7 => ?_) | refine V_icmp_ge (tgt := 35) dX10_many_7 (by decide) (fun c7 => ?_) (fun c7 => ?_)
        · skip
          refine V_iloadn1 dX10_many_35 ?_
          refine V_tableIn (tgt := 68) dX10_many_36 (by decide) (by decide) rfl (by decide) ?_
          refine V_aloadn0 dX10_many_68 ?_
          refine V_getI dX10_many_69 fX10_7 (Or.inl rfl) (by first | assumption | rfl) (by first | decide | omega) (by first | assumption | exact ML_4 (by assumption) | exact ML_5 (by assumption) | exact ML_6 (by assumption) | exact ML_7 (by assumption) | exact ML_8 (by assumption) | exact ML_9 (by assumption) | exact ML_10 (by assumption) | exact ML_11 (by assumption) | exact ML_12 (by assumption) | exact ML_13 (by assumption) | exact ML_15 (by assumption) | exact ML_16 (by assumption) | exact ML_17 (by assumption) | exact ML_20 (by assumption) | exact ML_23 (by assumption) | exact ML_24 (by assumption) | exact ML_30 (by assumption) | exact ML_31 (by assumption) | exact ML_32 (by assumption) | exact ML_33 (by assumption) | exact ML_35 (by assumption) | exact ML_36 (by assumption) | exact ML_37 (by assumption) | exact ML_38 (by assumption) | exact ML_41 (by assumption) | exact ML_42 (by assumption) | exact ML_43 (by assumption) | exact ML_44 (by assumption) | exact ML_45 (by assumption) | rfl) ?_
          refine V_iret dX10_many_72 rfl rfl ?_
          exact hQ'
        · skip
          omega
      by_cases h1 : y = nI 1
      · subst h1
        rw [if_neg (by decide), if_pos rfl] at hQ'
        refine V_iloadn3 dX10_many_4 ?_
        refine V_bipush (v := nI 6) dX10_many_5 (by decide) ?_
        first | refine U_icmp_ge (tgt := 35) dX10_many_7 (by decide) (by with_reducible rfl) (by with_reducible rfl) (by omega) (by omega) (fun c7 => ?_) (fun c7 => ?_) | refine V_icmp_ge (tgt := 35) dX10_many_7 (by decide) (fun c7 => ?_) (fun c7 => ?_)
        · skip
          refine V_iloadn1 dX10_many_35 ?_
          refine V_tableIn (tgt := 73) dX10_many_36 (by decide) (by decide) rfl (by decide) ?_
          refine V_iloadn2 dX10_many_73 ?_
          refine V_iret dX10_many_74 rfl rfl ?_
          exact hQ'
        · skip
          omega
      by_cases h2 : y = nI 2
      · subst h2
        rw [if_neg (by decide), if_neg (by decide), if_pos rfl] at hQ'
        refine V_iloadn3 dX10_many_4 ?_
        refine V_bipush (v := nI 6) dX10_many_5 (by decide) ?_
        first | refine U_icmp_ge (tgt := 35) dX10_many_7 (by decide) (by with_reducible rfl) (by with_reducible rfl) (by omega) (by omega) (fun c7 => ?_) (fun c7 => ?_) | refine V_icmp_ge (tgt := 35) dX10_many_7 (by decide) (fun c7 => ?_) (fun c7 => ?_)
        · skip
          refine V_iloadn1 dX10_many_35 ?_
          refine V_tableIn (tgt := 75) dX10_many_36 (by decide) (by decide) rfl (by decide) ?_
          refine V_aloadn0 dX10_many_75 ?_
          refine V_callV0 (μ' := mX10_lettersAll) dX10_many_76 okX10_lettersAll lX10_295 rfl (by first | assumption | rfl) (by first | decide | omega) (Nat.le_of_ble_eq_true rfl) (Nat.le_of_ble_eq_true rfl) (by omega) ?_
          refine m_lettersAll hR hWS ?_
          dsimp only [gPush]
          refine V_iret dX10_many_79 rfl rfl ?_
          exact hQ'
        · skip
          omega
      by_cases h3 : y = nI 3
      · subst h3
        rw [if_neg (by decide), if_neg (by decide), if_neg (by decide), if_pos rfl] at hQ'
        refine V_iloadn3 dX10_many_4 ?_
        refine V_bipush (v := nI 6) dX10_many_5 (by decide) ?_
        first | refine U_icmp_ge (tgt := 35) dX10_many_7 (by decide) (by with_reducible rfl) (by with_reducible rfl) (by omega) (by omega) (fun c7 => ?_) (fun c7 => ?_) | refine V_icmp_ge (tgt := 35) dX10_many_7 (by decide) (fun c7 => ?_) (fun c7 => ?_)
        · skip
          refine V_iloadn1 dX10_many_35 ?_
          refine V_tableIn (tgt := 80) dX10_many_36 (by decide) (by decide) rfl (by decide) ?_
          refine V_aloadn0 dX10_many_80 ?_
          refine V_getI dX10_many_81 fX10_125 (Or.inl rfl) (by first | assumption | rfl) (by first | decide | omega) (by first | assumption | exact ML_4 (by assumption) | exact ML_5 (by assumption) | exact ML_6 (by assumption) | exact ML_7 (by assumption) | exact ML_8 (by assumption) | exact ML_9 (by assumption) | exact ML_10 (by assumption) | exact ML_11 (by assumption) | exact ML_12 (by assumption) | exact ML_13 (by assumption) | exact ML_15 (by assumption) | exact ML_16 (by assumption) | exact ML_17 (by assumption) | exact ML_20 (by assumption) | exact ML_23 (by assumption) | exact ML_24 (by assumption) | exact ML_30 (by assumption) | exact ML_31 (by assumption) | exact ML_32 (by assumption) | exact ML_33 (by assumption) | exact ML_35 (by assumption) | exact ML_36 (by assumption) | exact ML_37 (by assumption) | exact ML_38 (by assumption) | exact ML_41 (by assumption) | exact ML_42 (by assumption) | exact ML_43 (by assumption) | exact ML_44 (by assumption) | exact ML_45 (by assumption) | rfl) ?_
          refine V_iret dX10_many_84 rfl rfl ?_
          exact hQ'
        · skip
          omega
      rw [if_neg h0, if_neg h1, if_neg h2, if_neg h3] at hQ'
      have hout : y.toInt < 0 ∨ 3 < y.toInt := by
        apply Classical.byContradiction
        intro hno
        have hy : ¬ y < 0 := fun q => hno (Or.inl (Int32.lt_iff_toInt_lt.mp q))
        obtain ⟨j, hj, rfl⟩ := nI_of hy
        have hj2 : (nI j).toInt = (j : Int) := nI_toInt hj
        rw [hj2] at hno
        have : j = 0 ∨ j = 1 ∨ j = 2 ∨ j = 3 := by omega
        rcases this with rfl | rfl | rfl | rfl
        · exact h0 rfl
        · exact h1 rfl
        · exact h2 rfl
        · exact h3 rfl
      refine V_iloadn3 dX10_many_4 ?_
      refine V_bipush (v := nI 6) dX10_many_5 (by decide) ?_
      first | refine U_icmp_ge (tgt := 35) dX10_many_7 (by decide) (by with_reducible rfl) (by with_reducible rfl) (by omega) (by omega) (fun c7 => ?_) (fun c7 => ?_) | refine V_icmp_ge (tgt := 35) dX10_many_7 (by decide) (fun c7 => ?_) (fun c7 => ?_)
      · skip
        refine V_iloadn1 dX10_many_35 ?_
        refine V_tableOut (tgt := 85) dX10_many_36 (by first | assumption | decide) (by decide) ?_
        refine V_iconst (v := -1) dX10_many_85 (by decide) ?_
        refine V_iret dX10_many_86 rfl rfl ?_
        exact hQ'
      · skip
        omega
    | succ f ih =>
      intro k hk
      obtain ⟨u0, tz⟩ := rT k (by omega)
      have kd2 := (hWS.2.2.1 k (by omega)).1
      have e1 : (S.1.2.2.1 k).1 ≠ 0 → hsF (fun s => (S.1.2.2.1 s).1) k ||| (nI 1 <<< (nI k &&& 31)) = hsF (fun s => (S.1.2.2.1 s).1) (k + 1) := fun q => by
        show _ = if (S.1.2.2.1 k).1 = 0 then hsF (fun s => (S.1.2.2.1 s).1) k else hsF (fun s => (S.1.2.2.1 s).1) k ||| (nI 1 <<< (nI k &&& 31))
        rw [if_neg q]
      have e2 : (S.1.2.2.1 k).1 = 0 → hsF (fun s => (S.1.2.2.1 s).1) k ||| nI 0 = hsF (fun s => (S.1.2.2.1 s).1) (k + 1) := fun q => by
        show _ = if (S.1.2.2.1 k).1 = 0 then hsF (fun s => (S.1.2.2.1 s).1) k else hsF (fun s => (S.1.2.2.1 s).1) k ||| (nI 1 <<< (nI k &&& 31))
        rw [if_pos q, or0]
      refine V_iloadn3 dX10_many_4 ?_
      refine V_bipush (v := nI 6) dX10_many_5 (by decide) ?_
      first | refine U_icmp_ge (tgt := 35) dX10_many_7 (by decide) (by with_reducible rfl) (by with_reducible rfl) (by omega) (by omega) (fun c7 => ?_) (fun c7 => ?_) | refine V_icmp_ge (tgt := 35) dX10_many_7 (by decide) (fun c7 => ?_) (fun c7 => ?_)
      · skip
        omega
      · skip
        refine V_iloadn2 dX10_many_10 ?_
        refine V_aloadn0 dX10_many_11 ?_
        refine V_getR dX10_many_12 fX10_16 (by first | assumption | rfl) (by first | decide | omega) (by first | assumption | exact ML_4 (by assumption) | exact ML_5 (by assumption) | exact ML_6 (by assumption) | exact ML_7 (by assumption) | exact ML_8 (by assumption) | exact ML_9 (by assumption) | exact ML_10 (by assumption) | exact ML_11 (by assumption) | exact ML_12 (by assumption) | exact ML_13 (by assumption) | exact ML_15 (by assumption) | exact ML_16 (by assumption) | exact ML_17 (by assumption) | exact ML_20 (by assumption) | exact ML_23 (by assumption) | exact ML_24 (by assumption) | exact ML_30 (by assumption) | exact ML_31 (by assumption) | exact ML_32 (by assumption) | exact ML_33 (by assumption) | exact ML_35 (by assumption) | exact ML_36 (by assumption) | exact ML_37 (by assumption) | exact ML_38 (by assumption) | exact ML_41 (by assumption) | exact ML_42 (by assumption) | exact ML_43 (by assumption) | exact ML_44 (by assumption) | exact ML_45 (by assumption) | rfl) ?_
        refine V_iloadn3 dX10_many_15 ?_
        refine U_iald dX10_many_16 (by with_reducible rfl) (by first | assumption | rfl) (by first | decide | omega) (by omega) (by first | assumption | exact ML_4 (by assumption) | exact ML_5 (by assumption) | exact ML_6 (by assumption) | exact ML_7 (by assumption) | exact ML_8 (by assumption) | exact ML_9 (by assumption) | exact ML_10 (by assumption) | exact ML_11 (by assumption) | exact ML_12 (by assumption) | exact ML_13 (by assumption) | exact ML_15 (by assumption) | exact ML_16 (by assumption) | exact ML_17 (by assumption) | exact ML_20 (by assumption) | exact ML_23 (by assumption) | exact ML_24 (by assumption) | exact ML_30 (by assumption) | exact ML_31 (by assumption) | exact ML_32 (by assumption) | exact ML_33 (by assumption) | exact ML_35 (by assumption) | exact ML_36 (by assumption) | exact ML_37 (by assumption) | exact ML_38 (by assumption) | exact ML_41 (by assumption) | exact ML_42 (by assumption) | exact ML_43 (by assumption) | exact ML_44 (by assumption) | exact ML_45 (by assumption) | rfl) ?_
        first | refine U_if_le (tgt := 26) dX10_many_17 (by decide) (by with_reducible rfl) (by omega) (fun c17 => ?_) (fun c17 => ?_) | refine V_if_le (tgt := 26) dX10_many_17 (by decide) (fun c17 => ?_) (fun c17 => ?_)
        · skip
          refine V_iconst (v := nI 0) dX10_many_26 (by decide) ?_
          refine V_ior dX10_many_27 ?_
          refine V_istoren2 dX10_many_28 (by decide) rfl ?_
          refine V_iinc3 dX10_many_29 (by first | exact ginc1 _ | rfl) (by decide) rfl ?_
          refine V_goto (tgt := 4) dX10_many_32 (by decide) ?_
          first | rw [e2 (by assumption)] | rw [e1 (by assumption)]
          exact ih (k + 1) (by omega)
        · skip
          refine V_iconst (v := nI 1) dX10_many_20 (by decide) ?_
          refine V_iloadn3 dX10_many_21 ?_
          refine V_ishl dX10_many_22 ?_
          refine V_goto (tgt := 27) dX10_many_23 (by decide) ?_
          refine V_ior dX10_many_27 ?_
          refine V_istoren2 dX10_many_28 (by decide) rfl ?_
          refine V_iinc3 dX10_many_29 (by first | exact ginc1 _ | rfl) (by decide) rfl ?_
          refine V_goto (tgt := 4) dX10_many_32 (by decide) ?_
          first | rw [e2 (by assumption)] | rw [e1 (by assumption)]
          exact ih (k + 1) (by omega)
  refine V_iconst (v := nI 0) dX10_many_0 (by decide) ?_
  refine V_istoren2 dX10_many_1 (by decide) rfl ?_
  refine V_iconst (v := nI 0) dX10_many_2 (by decide) ?_
  refine V_istoren3 dX10_many_3 (by decide) rfl ?_
  exact loop 6 0 rfl

set_option maxRecDepth 100000 in
set_option maxHeartbeats 4000000 in
theorem m_copies {a b n : Nat} (na nb : Nat) (la : lay a = some (.inl (0, na))) (lb : lay b = some (.inl (0, nb))) (hna : n ≤ na) (hnb : n ≤ nb) (hab : a ≠ b) (hQ : ∀ h', (∀ k, k < n → gI h' b k = gI h a k) → (∀ q, q ≠ b → gI h' q = gI h q) → gL h' = gL h → gR h' = gR h → Q none h') : V Γ mX10_copies d 124 124 h 0 [some (.ref a), some (.ref b), some (.int (nI n)), none] [] Q := by
  have hn := lay_n la
  have ha := lay_lt la
  have hb := lay_lt lb
  have loop : ∀ f k h1, k + f = n → (∀ j, j < k → gI h1 b j = gI h a j) → (∀ q, q ≠ b → gI h1 q = gI h q) → gL h1 = gL h → gR h1 = gR h → V Γ mX10_copies d 124 124 h1 2 [some (.ref a), some (.ref b), some (.int (nI n)), some (.int (nI k))] [] Q := by
    intro f
    induction f with
    | zero =>
      intro k h1 hk c e l r
      refine V_iloadn3 dX10_copies_2 ?_
      refine V_iloadn2 dX10_copies_3 ?_
      first | refine U_icmp_ge (tgt := 19) dX10_copies_4 (by decide) (by with_reducible rfl) (by with_reducible rfl) (by omega) (by omega) (fun c4 => ?_) (fun c4 => ?_) | refine V_icmp_ge (tgt := 19) dX10_copies_4 (by decide) (fun c4 => ?_) (fun c4 => ?_)
      · skip
        refine V_ret dX10_copies_19 rfl ?_
        exact hQ h1 (fun j hj => c j (by omega)) e l r
      · skip
        omega
    | succ f ih =>
      intro k h1 hk c e l r
      have ga : gI h1 a k = gI h a k := by rw [e a hab]
      refine V_iloadn3 dX10_copies_2 ?_
      refine V_iloadn2 dX10_copies_3 ?_
      first | refine U_icmp_ge (tgt := 19) dX10_copies_4 (by decide) (by with_reducible rfl) (by with_reducible rfl) (by omega) (by omega) (fun c4 => ?_) (fun c4 => ?_) | refine V_icmp_ge (tgt := 19) dX10_copies_4 (by decide) (fun c4 => ?_) (fun c4 => ?_)
      · skip
        omega
      · skip
        refine V_aloadn1 dX10_copies_7 ?_
        refine V_iloadn3 dX10_copies_8 ?_
        refine V_aloadn0 dX10_copies_9 ?_
        refine V_iloadn3 dX10_copies_10 ?_
        refine U_iald dX10_copies_11 (by with_reducible rfl) (by first | assumption | rfl) (by first | decide | omega) (by omega) (by first | assumption | exact ML_4 (by assumption) | exact ML_5 (by assumption) | exact ML_6 (by assumption) | exact ML_7 (by assumption) | exact ML_8 (by assumption) | exact ML_9 (by assumption) | exact ML_10 (by assumption) | exact ML_11 (by assumption) | exact ML_12 (by assumption) | exact ML_13 (by assumption) | exact ML_15 (by assumption) | exact ML_16 (by assumption) | exact ML_17 (by assumption) | exact ML_20 (by assumption) | exact ML_23 (by assumption) | exact ML_24 (by assumption) | exact ML_30 (by assumption) | exact ML_31 (by assumption) | exact ML_32 (by assumption) | exact ML_33 (by assumption) | exact ML_35 (by assumption) | exact ML_36 (by assumption) | exact ML_37 (by assumption) | exact ML_38 (by assumption) | exact ML_41 (by assumption) | exact ML_42 (by assumption) | exact ML_43 (by assumption) | exact ML_44 (by assumption) | exact ML_45 (by assumption) | rfl) ?_
        refine U_iast dX10_copies_12 (by with_reducible rfl) (by first | assumption | rfl) (by first | decide | omega) (by omega) ?_
        refine V_iinc3 dX10_copies_13 (by first | exact ginc1 _ | rfl) (by decide) rfl ?_
        refine V_goto (tgt := 2) dX10_copies_16 (by decide) ?_
        refine ih (k + 1) _ (by omega) (fun j hj => ?_) (fun q hq => ?_) l r
        · rw [gI_sI]
          by_cases ej : j = k
          · rw [if_pos ⟨rfl, ej⟩, ej]
          · rw [if_neg (fun z => ej z.2)]; exact c j (by omega)
        · funext b'
          rw [gI_sI, if_neg (fun z => hq z.1), e q hq]
  refine V_iconst (v := nI 0) dX10_copies_0 (by decide) ?_
  refine V_istoren3 dX10_copies_1 (by decide) rfl ?_
  exact loop _ 0 h (Nat.zero_add _) (fun j hj => absurd hj (Nat.not_lt_zero _)) (fun _ _ => rfl) rfl rfl
theorem MT_copy {h h' : gH} {b c : Nat} {T : Nat → Thg} (hT : MT h b T) (hl : ∀ s, s < 6 → (T s).2.1.length ≤ 6) (e0 : ∀ k, k < 6 → gI h' c k = gI h b k) (e1 : ∀ k, k < 6 → gI h' (c + 1) k = gI h (b + 1) k) (e2 : ∀ k, k < 36 → gI h' (c + 2) k = gI h (b + 2) k) (e3 : ∀ k, k < 36 → gI h' (c + 3) k = gI h (b + 3) k) : MT h' c T := fun s hs => by
  obtain ⟨h1, h2⟩ := hT s hs
  refine ⟨by rw [e0 s hs]; exact h1, fun q => ?_⟩
  obtain ⟨h3, h4, h5⟩ := h2 q
  have := hl s hs
  exact ⟨by rw [e1 s hs]; exact h3, fun k hk => by rw [e2 _ (by omega)]; exact h4 k hk, fun k hk => by rw [e3 _ (by omega)]; exact h5 k hk⟩
set_option maxRecDepth 100000 in
set_option maxHeartbeats 4000000 in
theorem m_keep (hd : 1 ≤ d) (hR : RM h S) (hWG : WG S) (hQ : ∀ h', RM h' (f_keep S).2 → FrD h h' → Q (some (.int (f_keep S).1)) h') : V Γ mX10_keep d 124 124 h 0 [some (.ref 94)] [] Q := by
  obtain ⟨hM, ⟨r0, r1, rT, rW⟩, rK, rK2, rB, rS⟩ := id hR
  have hl6 : ∀ s, s < 6 → (S.1.2.2.1 s).2.1.length ≤ 6 := fun s hs => (hWG.1.2.2.1 s hs).2.1
  refine V_aloadn0 dX10_keep_0 ?_
  refine V_getR dX10_keep_1 fX10_16 (by first | assumption | rfl) (by first | decide | omega) (by first | assumption | exact ML_4 (by assumption) | exact ML_5 (by assumption) | exact ML_6 (by assumption) | exact ML_7 (by assumption) | exact ML_8 (by assumption) | exact ML_9 (by assumption) | exact ML_10 (by assumption) | exact ML_11 (by assumption) | exact ML_12 (by assumption) | exact ML_13 (by assumption) | exact ML_15 (by assumption) | exact ML_16 (by assumption) | exact ML_17 (by assumption) | exact ML_20 (by assumption) | exact ML_23 (by assumption) | exact ML_24 (by assumption) | exact ML_30 (by assumption) | exact ML_31 (by assumption) | exact ML_32 (by assumption) | exact ML_33 (by assumption) | exact ML_35 (by assumption) | exact ML_36 (by assumption) | exact ML_37 (by assumption) | exact ML_38 (by assumption) | exact ML_41 (by assumption) | exact ML_42 (by assumption) | exact ML_43 (by assumption) | exact ML_44 (by assumption) | exact ML_45 (by assumption) | rfl) ?_
  refine V_aloadn0 dX10_keep_4 ?_
  refine V_getR dX10_keep_5 fX10_29 (by first | assumption | rfl) (by first | decide | omega) (by first | assumption | exact ML_4 (by assumption) | exact ML_5 (by assumption) | exact ML_6 (by assumption) | exact ML_7 (by assumption) | exact ML_8 (by assumption) | exact ML_9 (by assumption) | exact ML_10 (by assumption) | exact ML_11 (by assumption) | exact ML_12 (by assumption) | exact ML_13 (by assumption) | exact ML_15 (by assumption) | exact ML_16 (by assumption) | exact ML_17 (by assumption) | exact ML_20 (by assumption) | exact ML_23 (by assumption) | exact ML_24 (by assumption) | exact ML_30 (by assumption) | exact ML_31 (by assumption) | exact ML_32 (by assumption) | exact ML_33 (by assumption) | exact ML_35 (by assumption) | exact ML_36 (by assumption) | exact ML_37 (by assumption) | exact ML_38 (by assumption) | exact ML_41 (by assumption) | exact ML_42 (by assumption) | exact ML_43 (by assumption) | exact ML_44 (by assumption) | exact ML_45 (by assumption) | rfl) ?_
  refine V_bipush (v := nI 6) dX10_keep_8 (by decide) ?_
  refine V_callS3 (μ' := mX10_copies) dX10_keep_10 okX10_copies lX10_298 (Nat.le_of_ble_eq_true rfl) (Nat.le_of_ble_eq_true rfl) (by omega) ?_
  refine m_copies 6 6 rfl rfl (by omega) (by omega) (by decide) (fun h1 a1 e1 l1 k1 => ?_)
  have hM1 := MLay_eq hM k1
  dsimp only [gPush]
  refine V_aloadn0 dX10_keep_13 ?_
  refine V_getR dX10_keep_14 fX10_20 (by first | assumption | rfl) (by first | decide | omega) (by first | assumption | exact ML_4 (by assumption) | exact ML_5 (by assumption) | exact ML_6 (by assumption) | exact ML_7 (by assumption) | exact ML_8 (by assumption) | exact ML_9 (by assumption) | exact ML_10 (by assumption) | exact ML_11 (by assumption) | exact ML_12 (by assumption) | exact ML_13 (by assumption) | exact ML_15 (by assumption) | exact ML_16 (by assumption) | exact ML_17 (by assumption) | exact ML_20 (by assumption) | exact ML_23 (by assumption) | exact ML_24 (by assumption) | exact ML_30 (by assumption) | exact ML_31 (by assumption) | exact ML_32 (by assumption) | exact ML_33 (by assumption) | exact ML_35 (by assumption) | exact ML_36 (by assumption) | exact ML_37 (by assumption) | exact ML_38 (by assumption) | exact ML_41 (by assumption) | exact ML_42 (by assumption) | exact ML_43 (by assumption) | exact ML_44 (by assumption) | exact ML_45 (by assumption) | rfl) ?_
  refine V_aloadn0 dX10_keep_17 ?_
  refine V_getR dX10_keep_18 fX10_32 (by first | assumption | rfl) (by first | decide | omega) (by first | assumption | exact ML_4 (by assumption) | exact ML_5 (by assumption) | exact ML_6 (by assumption) | exact ML_7 (by assumption) | exact ML_8 (by assumption) | exact ML_9 (by assumption) | exact ML_10 (by assumption) | exact ML_11 (by assumption) | exact ML_12 (by assumption) | exact ML_13 (by assumption) | exact ML_15 (by assumption) | exact ML_16 (by assumption) | exact ML_17 (by assumption) | exact ML_20 (by assumption) | exact ML_23 (by assumption) | exact ML_24 (by assumption) | exact ML_30 (by assumption) | exact ML_31 (by assumption) | exact ML_32 (by assumption) | exact ML_33 (by assumption) | exact ML_35 (by assumption) | exact ML_36 (by assumption) | exact ML_37 (by assumption) | exact ML_38 (by assumption) | exact ML_41 (by assumption) | exact ML_42 (by assumption) | exact ML_43 (by assumption) | exact ML_44 (by assumption) | exact ML_45 (by assumption) | rfl) ?_
  refine V_bipush (v := nI 6) dX10_keep_21 (by decide) ?_
  refine V_callS3 (μ' := mX10_copies) dX10_keep_23 okX10_copies lX10_298 (Nat.le_of_ble_eq_true rfl) (Nat.le_of_ble_eq_true rfl) (by omega) ?_
  refine m_copies 6 6 rfl rfl (by omega) (by omega) (by decide) (fun h2 a2 e2 l2 k2 => ?_)
  have hM2 := MLay_eq hM1 k2
  dsimp only [gPush]
  refine V_aloadn0 dX10_keep_26 ?_
  refine V_getR dX10_keep_27 fX10_23 (by first | assumption | rfl) (by first | decide | omega) (by first | assumption | exact ML_4 (by assumption) | exact ML_5 (by assumption) | exact ML_6 (by assumption) | exact ML_7 (by assumption) | exact ML_8 (by assumption) | exact ML_9 (by assumption) | exact ML_10 (by assumption) | exact ML_11 (by assumption) | exact ML_12 (by assumption) | exact ML_13 (by assumption) | exact ML_15 (by assumption) | exact ML_16 (by assumption) | exact ML_17 (by assumption) | exact ML_20 (by assumption) | exact ML_23 (by assumption) | exact ML_24 (by assumption) | exact ML_30 (by assumption) | exact ML_31 (by assumption) | exact ML_32 (by assumption) | exact ML_33 (by assumption) | exact ML_35 (by assumption) | exact ML_36 (by assumption) | exact ML_37 (by assumption) | exact ML_38 (by assumption) | exact ML_41 (by assumption) | exact ML_42 (by assumption) | exact ML_43 (by assumption) | exact ML_44 (by assumption) | exact ML_45 (by assumption) | rfl) ?_
  refine V_aloadn0 dX10_keep_30 ?_
  refine V_getR dX10_keep_31 fX10_35 (by first | assumption | rfl) (by first | decide | omega) (by first | assumption | exact ML_4 (by assumption) | exact ML_5 (by assumption) | exact ML_6 (by assumption) | exact ML_7 (by assumption) | exact ML_8 (by assumption) | exact ML_9 (by assumption) | exact ML_10 (by assumption) | exact ML_11 (by assumption) | exact ML_12 (by assumption) | exact ML_13 (by assumption) | exact ML_15 (by assumption) | exact ML_16 (by assumption) | exact ML_17 (by assumption) | exact ML_20 (by assumption) | exact ML_23 (by assumption) | exact ML_24 (by assumption) | exact ML_30 (by assumption) | exact ML_31 (by assumption) | exact ML_32 (by assumption) | exact ML_33 (by assumption) | exact ML_35 (by assumption) | exact ML_36 (by assumption) | exact ML_37 (by assumption) | exact ML_38 (by assumption) | exact ML_41 (by assumption) | exact ML_42 (by assumption) | exact ML_43 (by assumption) | exact ML_44 (by assumption) | exact ML_45 (by assumption) | rfl) ?_
  refine V_bipush (v := nI 36) dX10_keep_34 (by decide) ?_
  refine V_callS3 (μ' := mX10_copies) dX10_keep_36 okX10_copies lX10_298 (Nat.le_of_ble_eq_true rfl) (Nat.le_of_ble_eq_true rfl) (by omega) ?_
  refine m_copies 36 36 rfl rfl (by omega) (by omega) (by decide) (fun h3 a3 e3 l3 k3 => ?_)
  have hM3 := MLay_eq hM2 k3
  dsimp only [gPush]
  refine V_aloadn0 dX10_keep_39 ?_
  refine V_getR dX10_keep_40 fX10_26 (by first | assumption | rfl) (by first | decide | omega) (by first | assumption | exact ML_4 (by assumption) | exact ML_5 (by assumption) | exact ML_6 (by assumption) | exact ML_7 (by assumption) | exact ML_8 (by assumption) | exact ML_9 (by assumption) | exact ML_10 (by assumption) | exact ML_11 (by assumption) | exact ML_12 (by assumption) | exact ML_13 (by assumption) | exact ML_15 (by assumption) | exact ML_16 (by assumption) | exact ML_17 (by assumption) | exact ML_20 (by assumption) | exact ML_23 (by assumption) | exact ML_24 (by assumption) | exact ML_30 (by assumption) | exact ML_31 (by assumption) | exact ML_32 (by assumption) | exact ML_33 (by assumption) | exact ML_35 (by assumption) | exact ML_36 (by assumption) | exact ML_37 (by assumption) | exact ML_38 (by assumption) | exact ML_41 (by assumption) | exact ML_42 (by assumption) | exact ML_43 (by assumption) | exact ML_44 (by assumption) | exact ML_45 (by assumption) | rfl) ?_
  refine V_aloadn0 dX10_keep_43 ?_
  refine V_getR dX10_keep_44 fX10_38 (by first | assumption | rfl) (by first | decide | omega) (by first | assumption | exact ML_4 (by assumption) | exact ML_5 (by assumption) | exact ML_6 (by assumption) | exact ML_7 (by assumption) | exact ML_8 (by assumption) | exact ML_9 (by assumption) | exact ML_10 (by assumption) | exact ML_11 (by assumption) | exact ML_12 (by assumption) | exact ML_13 (by assumption) | exact ML_15 (by assumption) | exact ML_16 (by assumption) | exact ML_17 (by assumption) | exact ML_20 (by assumption) | exact ML_23 (by assumption) | exact ML_24 (by assumption) | exact ML_30 (by assumption) | exact ML_31 (by assumption) | exact ML_32 (by assumption) | exact ML_33 (by assumption) | exact ML_35 (by assumption) | exact ML_36 (by assumption) | exact ML_37 (by assumption) | exact ML_38 (by assumption) | exact ML_41 (by assumption) | exact ML_42 (by assumption) | exact ML_43 (by assumption) | exact ML_44 (by assumption) | exact ML_45 (by assumption) | rfl) ?_
  refine V_bipush (v := nI 36) dX10_keep_47 (by decide) ?_
  refine V_callS3 (μ' := mX10_copies) dX10_keep_49 okX10_copies lX10_298 (Nat.le_of_ble_eq_true rfl) (Nat.le_of_ble_eq_true rfl) (by omega) ?_
  refine m_copies 36 36 rfl rfl (by omega) (by omega) (by decide) (fun h4 a4 e4 l4 k4 => ?_)
  have hM4 := MLay_eq hM3 k4
  dsimp only [gPush]
  refine V_aloadn0 dX10_keep_52 ?_
  refine V_getR dX10_keep_53 fX10_41 (by first | assumption | rfl) (by first | decide | omega) (by first | assumption | exact ML_4 (by assumption) | exact ML_5 (by assumption) | exact ML_6 (by assumption) | exact ML_7 (by assumption) | exact ML_8 (by assumption) | exact ML_9 (by assumption) | exact ML_10 (by assumption) | exact ML_11 (by assumption) | exact ML_12 (by assumption) | exact ML_13 (by assumption) | exact ML_15 (by assumption) | exact ML_16 (by assumption) | exact ML_17 (by assumption) | exact ML_20 (by assumption) | exact ML_23 (by assumption) | exact ML_24 (by assumption) | exact ML_30 (by assumption) | exact ML_31 (by assumption) | exact ML_32 (by assumption) | exact ML_33 (by assumption) | exact ML_35 (by assumption) | exact ML_36 (by assumption) | exact ML_37 (by assumption) | exact ML_38 (by assumption) | exact ML_41 (by assumption) | exact ML_42 (by assumption) | exact ML_43 (by assumption) | exact ML_44 (by assumption) | exact ML_45 (by assumption) | rfl) ?_
  refine V_aloadn0 dX10_keep_56 ?_
  refine V_getR dX10_keep_57 fX10_44 (by first | assumption | rfl) (by first | decide | omega) (by first | assumption | exact ML_4 (by assumption) | exact ML_5 (by assumption) | exact ML_6 (by assumption) | exact ML_7 (by assumption) | exact ML_8 (by assumption) | exact ML_9 (by assumption) | exact ML_10 (by assumption) | exact ML_11 (by assumption) | exact ML_12 (by assumption) | exact ML_13 (by assumption) | exact ML_15 (by assumption) | exact ML_16 (by assumption) | exact ML_17 (by assumption) | exact ML_20 (by assumption) | exact ML_23 (by assumption) | exact ML_24 (by assumption) | exact ML_30 (by assumption) | exact ML_31 (by assumption) | exact ML_32 (by assumption) | exact ML_33 (by assumption) | exact ML_35 (by assumption) | exact ML_36 (by assumption) | exact ML_37 (by assumption) | exact ML_38 (by assumption) | exact ML_41 (by assumption) | exact ML_42 (by assumption) | exact ML_43 (by assumption) | exact ML_44 (by assumption) | exact ML_45 (by assumption) | rfl) ?_
  refine V_bipush (v := nI 6) dX10_keep_60 (by decide) ?_
  refine V_callS3 (μ' := mX10_copies) dX10_keep_62 okX10_copies lX10_298 (Nat.le_of_ble_eq_true rfl) (Nat.le_of_ble_eq_true rfl) (by omega) ?_
  refine m_copies 6 6 rfl rfl (by omega) (by omega) (by decide) (fun h5 a5 e5 l5 k5 => ?_)
  have hM5 := MLay_eq hM4 k5
  have g : ∀ q, q ≠ 99 → q ≠ 100 → q ≠ 101 → q ≠ 102 → q ≠ 104 → gI h5 q = gI h q := fun q q1 q2 q3 q4 q5 => by rw [e5 q q5, e4 q q4, e3 q q3, e2 q q2, e1 q q1]
  have n5 : gI h5 94 0 = nI S.1.1 := by rw [g 94 (by omega) (by omega) (by omega) (by omega) (by omega)]; exact r0
  have z5 : gI (sI h5 94 2 (nI S.1.1)) 94 1 = S.1.2.1 := by rw [gI_sI, if_neg (by omega), g 94 (by omega) (by omega) (by omega) (by omega) (by omega)]; exact r1
  generalize hh6 : sI (sI (sI h5 94 2 (nI S.1.1)) 94 3 S.1.2.1) 94 14 (nI 1) = h6
  have i6 : ∀ q b, ¬ (q = 94 ∧ (b = 2 ∨ b = 3 ∨ b = 14)) → gI h6 q b = gI h5 q b := fun q b hq => by rw [← hh6, gI_sI, if_neg (by omega), gI_sI, if_neg (by omega), gI_sI, if_neg (by omega)]
  have l6 : gL h6 = gL h := by rw [← hh6, gL_sI, gL_sI, gL_sI, l5, l4, l3, l2, l1]
  have k6 : gR h6 = gR h := by rw [← hh6, gR_sI, gR_sI, gR_sI, k5, k4, k3, k2, k1]
  have j6 : ∀ q, q ≠ 94 → gI h6 q = gI h5 q := fun q hq => funext (fun b => i6 q b (by omega))
  have hMT : MT h6 99 S.1.2.2.1 := MT_copy rT hl6 (fun k hk => by rw [j6 99 (by omega), e5 99 (by omega), e4 99 (by omega), e3 99 (by omega), e2 99 (by omega)]; exact a1 k hk) (fun k hk => by rw [j6 (99 + 1) (by omega), e5 (99 + 1) (by omega), e4 (99 + 1) (by omega), e3 (99 + 1) (by omega)]; exact (a2 k hk).trans (by rw [e1 96 (by omega)])) (fun k hk => by rw [j6 (99 + 2) (by omega), e5 (99 + 2) (by omega), e4 (99 + 2) (by omega)]; exact (a3 k hk).trans (by rw [e2 97 (by omega), e1 97 (by omega)])) (fun k hk => by rw [j6 (99 + 3) (by omega), e5 (99 + 3) (by omega)]; exact (a4 k hk).trans (by rw [e3 98 (by omega), e2 98 (by omega), e1 98 (by omega)]))
  have hR6 : RM h6 (S.1, some S.1, S.2.2) := ⟨MLay_eq hM k6, ⟨by rw [i6 94 0 (by omega)]; exact n5, by rw [i6 94 1 (by omega), g 94 (by omega) (by omega) (by omega) (by omega) (by omega)]; exact r1, MT_cg rT (fun a q1 q2 => by rw [j6 a (by omega), g a (by omega) (by omega) (by omega) (by omega) (by omega)]), fun k q1 q2 => by rw [j6 103 (by omega), g 103 (by omega) (by omega) (by omega) (by omega) (by omega)]; exact rW k q1 q2⟩, by rw [← hh6, gI_sI, if_pos ⟨rfl, rfl⟩]; rfl, fun K e => by
    cases e
    exact ⟨by rw [← hh6, gI_sI, if_neg (by omega), gI_sI, if_neg (by omega), gI_sI, if_pos ⟨rfl, rfl⟩], by rw [← hh6, gI_sI, if_neg (by omega), gI_sI, if_pos ⟨rfl, rfl⟩], hMT, fun k q1 q2 => by rw [j6 104 (by omega), a5 k (by omega), e4 103 (by omega), e3 103 (by omega), e2 103 (by omega), e1 103 (by omega)]; exact rW k q1 q2⟩, MB_cg rB (by rw [i6 94 21 (by omega), g 94 (by omega) (by omega) (by omega) (by omega) (by omega)]) (by rw [j6 108 (by omega), g 108 (by omega) (by omega) (by omega) (by omega) (by omega)]), MS_cg rS (fun a q1 q2 => by rw [j6 a (by omega), g a (by omega) (by omega) (by omega) (by omega) (by omega)])⟩
  have hQ9 := hQ h6 hR6 ⟨fun a ha => by rw [j6 a (by omega), g a (by omega) (by omega) (by omega) (by omega) (by omega)], fun a ha => by rw [l6], k6⟩
  dsimp only [gPush]
  refine V_aloadn0 dX10_keep_65 ?_
  refine V_aloadn0 dX10_keep_66 ?_
  refine V_getI dX10_keep_67 fX10_7 (Or.inl rfl) (by first | assumption | rfl) (by first | decide | omega) (by first | assumption | exact ML_4 (by assumption) | exact ML_5 (by assumption) | exact ML_6 (by assumption) | exact ML_7 (by assumption) | exact ML_8 (by assumption) | exact ML_9 (by assumption) | exact ML_10 (by assumption) | exact ML_11 (by assumption) | exact ML_12 (by assumption) | exact ML_13 (by assumption) | exact ML_15 (by assumption) | exact ML_16 (by assumption) | exact ML_17 (by assumption) | exact ML_20 (by assumption) | exact ML_23 (by assumption) | exact ML_24 (by assumption) | exact ML_30 (by assumption) | exact ML_31 (by assumption) | exact ML_32 (by assumption) | exact ML_33 (by assumption) | exact ML_35 (by assumption) | exact ML_36 (by assumption) | exact ML_37 (by assumption) | exact ML_38 (by assumption) | exact ML_41 (by assumption) | exact ML_42 (by assumption) | exact ML_43 (by assumption) | exact ML_44 (by assumption) | exact ML_45 (by assumption) | rfl) ?_
  refine V_putI dX10_keep_70 fX10_302 (by first | assumption | rfl) (by first | decide | omega) ?_
  refine V_aloadn0 dX10_keep_73 ?_
  refine V_aloadn0 dX10_keep_74 ?_
  refine V_getI dX10_keep_75 fX10_13 (Or.inl rfl) (by first | assumption | rfl) (by first | decide | omega) (by first | assumption | exact ML_4 (by assumption) | exact ML_5 (by assumption) | exact ML_6 (by assumption) | exact ML_7 (by assumption) | exact ML_8 (by assumption) | exact ML_9 (by assumption) | exact ML_10 (by assumption) | exact ML_11 (by assumption) | exact ML_12 (by assumption) | exact ML_13 (by assumption) | exact ML_15 (by assumption) | exact ML_16 (by assumption) | exact ML_17 (by assumption) | exact ML_20 (by assumption) | exact ML_23 (by assumption) | exact ML_24 (by assumption) | exact ML_30 (by assumption) | exact ML_31 (by assumption) | exact ML_32 (by assumption) | exact ML_33 (by assumption) | exact ML_35 (by assumption) | exact ML_36 (by assumption) | exact ML_37 (by assumption) | exact ML_38 (by assumption) | exact ML_41 (by assumption) | exact ML_42 (by assumption) | exact ML_43 (by assumption) | exact ML_44 (by assumption) | exact ML_45 (by assumption) | rfl) ?_
  refine V_putI dX10_keep_78 fX10_305 (by first | assumption | rfl) (by first | decide | omega) ?_
  refine V_aloadn0 dX10_keep_81 ?_
  refine V_iconst (v := nI 1) dX10_keep_82 (by decide) ?_
  refine V_putZ dX10_keep_83 fX10_308 (by first | assumption | rfl) (by first | decide | omega) (by decide) ?_
  rw [hh6]
  refine V_iconst (v := nI 1) dX10_keep_86 (by decide) ?_
  refine V_iret dX10_keep_87 rfl rfl ?_
  exact hQ9
set_option maxRecDepth 100000 in
set_option maxHeartbeats 4000000 in
theorem m_again (hd : 1 ≤ d) (hR : RM h S) (hWG : WG S) (hQ : ∀ h', RM h' (f_again S).2 → FrD h h' → Q (some (.int (f_again S).1)) h') : V Γ mX10_again d 124 124 h 0 [some (.ref 94)] [] Q := by
  obtain ⟨hM, ⟨r0, r1, rT, rW⟩, rK, rK2, rB, rS⟩ := id hR
  cases hk : S.2.1 with
  | none =>
    have eq0 : f_again S = (-3, S) := by unfold f_again; rw [hk]
    rw [eq0] at hQ
    rw [hk] at rK
    have hK' : gI h 94 14 = gBo false := rK
    refine V_aloadn0 dX10_again_0 ?_
    refine V_getI dX10_again_1 fX10_308 (Or.inr rfl) (by first | assumption | rfl) (by first | decide | omega) (by first | assumption | exact ML_4 (by assumption) | exact ML_5 (by assumption) | exact ML_6 (by assumption) | exact ML_7 (by assumption) | exact ML_8 (by assumption) | exact ML_9 (by assumption) | exact ML_10 (by assumption) | exact ML_11 (by assumption) | exact ML_12 (by assumption) | exact ML_13 (by assumption) | exact ML_15 (by assumption) | exact ML_16 (by assumption) | exact ML_17 (by assumption) | exact ML_20 (by assumption) | exact ML_23 (by assumption) | exact ML_24 (by assumption) | exact ML_30 (by assumption) | exact ML_31 (by assumption) | exact ML_32 (by assumption) | exact ML_33 (by assumption) | exact ML_35 (by assumption) | exact ML_36 (by assumption) | exact ML_37 (by assumption) | exact ML_38 (by assumption) | exact ML_41 (by assumption) | exact ML_42 (by assumption) | exact ML_43 (by assumption) | exact ML_44 (by assumption) | exact ML_45 (by assumption) | rfl) ?_
    first | refine U_ifB_ne (tgt := 10) dX10_again_4 (by decide) (by with_reducible rfl) (fun c4 => ?_) (fun c4 => ?_) | refine U_if_ne (tgt := 10) dX10_again_4 (by decide) (by with_reducible rfl) (by omega) (fun c4 => ?_) (fun c4 => ?_) | refine V_if_ne (tgt := 10) dX10_again_4 (by decide) (fun c4 => ?_) (fun c4 => ?_)
    · skip
      cases c4
    · skip
      refine V_bipush (v := -3) dX10_again_7 (by decide) ?_
      refine V_iret dX10_again_9 rfl rfl ?_
      exact hQ h hR FrD.rf
  | some K =>
    have eq0 : f_again S = (lsS K, (K, S.2)) := by unfold f_again; rw [hk]
    rw [eq0] at hQ
    rw [hk] at rK
    have hK' : gI h 94 14 = gBo true := rK
    obtain ⟨d1, d2, d3, d4⟩ := rK2 K hk
    have hWK := hWG.2.1 K hk
    have hl6 : ∀ s, s < 6 → (K.2.2.1 s).2.1.length ≤ 6 := fun s hs => (hWK.2.2.1 s hs).2.1
    refine V_aloadn0 dX10_again_0 ?_
    refine V_getI dX10_again_1 fX10_308 (Or.inr rfl) (by first | assumption | rfl) (by first | decide | omega) (by first | assumption | exact ML_4 (by assumption) | exact ML_5 (by assumption) | exact ML_6 (by assumption) | exact ML_7 (by assumption) | exact ML_8 (by assumption) | exact ML_9 (by assumption) | exact ML_10 (by assumption) | exact ML_11 (by assumption) | exact ML_12 (by assumption) | exact ML_13 (by assumption) | exact ML_15 (by assumption) | exact ML_16 (by assumption) | exact ML_17 (by assumption) | exact ML_20 (by assumption) | exact ML_23 (by assumption) | exact ML_24 (by assumption) | exact ML_30 (by assumption) | exact ML_31 (by assumption) | exact ML_32 (by assumption) | exact ML_33 (by assumption) | exact ML_35 (by assumption) | exact ML_36 (by assumption) | exact ML_37 (by assumption) | exact ML_38 (by assumption) | exact ML_41 (by assumption) | exact ML_42 (by assumption) | exact ML_43 (by assumption) | exact ML_44 (by assumption) | exact ML_45 (by assumption) | rfl) ?_
    first | refine U_ifB_ne (tgt := 10) dX10_again_4 (by decide) (by with_reducible rfl) (fun c4 => ?_) (fun c4 => ?_) | refine U_if_ne (tgt := 10) dX10_again_4 (by decide) (by with_reducible rfl) (by omega) (fun c4 => ?_) (fun c4 => ?_) | refine V_if_ne (tgt := 10) dX10_again_4 (by decide) (fun c4 => ?_) (fun c4 => ?_)
    · skip
      refine V_aloadn0 dX10_again_10 ?_
      refine V_getR dX10_again_11 fX10_29 (by first | assumption | rfl) (by first | decide | omega) (by first | assumption | exact ML_4 (by assumption) | exact ML_5 (by assumption) | exact ML_6 (by assumption) | exact ML_7 (by assumption) | exact ML_8 (by assumption) | exact ML_9 (by assumption) | exact ML_10 (by assumption) | exact ML_11 (by assumption) | exact ML_12 (by assumption) | exact ML_13 (by assumption) | exact ML_15 (by assumption) | exact ML_16 (by assumption) | exact ML_17 (by assumption) | exact ML_20 (by assumption) | exact ML_23 (by assumption) | exact ML_24 (by assumption) | exact ML_30 (by assumption) | exact ML_31 (by assumption) | exact ML_32 (by assumption) | exact ML_33 (by assumption) | exact ML_35 (by assumption) | exact ML_36 (by assumption) | exact ML_37 (by assumption) | exact ML_38 (by assumption) | exact ML_41 (by assumption) | exact ML_42 (by assumption) | exact ML_43 (by assumption) | exact ML_44 (by assumption) | exact ML_45 (by assumption) | rfl) ?_
      refine V_aloadn0 dX10_again_14 ?_
      refine V_getR dX10_again_15 fX10_16 (by first | assumption | rfl) (by first | decide | omega) (by first | assumption | exact ML_4 (by assumption) | exact ML_5 (by assumption) | exact ML_6 (by assumption) | exact ML_7 (by assumption) | exact ML_8 (by assumption) | exact ML_9 (by assumption) | exact ML_10 (by assumption) | exact ML_11 (by assumption) | exact ML_12 (by assumption) | exact ML_13 (by assumption) | exact ML_15 (by assumption) | exact ML_16 (by assumption) | exact ML_17 (by assumption) | exact ML_20 (by assumption) | exact ML_23 (by assumption) | exact ML_24 (by assumption) | exact ML_30 (by assumption) | exact ML_31 (by assumption) | exact ML_32 (by assumption) | exact ML_33 (by assumption) | exact ML_35 (by assumption) | exact ML_36 (by assumption) | exact ML_37 (by assumption) | exact ML_38 (by assumption) | exact ML_41 (by assumption) | exact ML_42 (by assumption) | exact ML_43 (by assumption) | exact ML_44 (by assumption) | exact ML_45 (by assumption) | rfl) ?_
      refine V_bipush (v := nI 6) dX10_again_18 (by decide) ?_
      refine V_callS3 (μ' := mX10_copies) dX10_again_20 okX10_copies lX10_298 (Nat.le_of_ble_eq_true rfl) (Nat.le_of_ble_eq_true rfl) (by omega) ?_
      refine m_copies 6 6 rfl rfl (by omega) (by omega) (by decide) (fun h1 a1 e1 l1 k1 => ?_)
      have hM1 := MLay_eq hM k1
      dsimp only [gPush]
      refine V_aloadn0 dX10_again_23 ?_
      refine V_getR dX10_again_24 fX10_32 (by first | assumption | rfl) (by first | decide | omega) (by first | assumption | exact ML_4 (by assumption) | exact ML_5 (by assumption) | exact ML_6 (by assumption) | exact ML_7 (by assumption) | exact ML_8 (by assumption) | exact ML_9 (by assumption) | exact ML_10 (by assumption) | exact ML_11 (by assumption) | exact ML_12 (by assumption) | exact ML_13 (by assumption) | exact ML_15 (by assumption) | exact ML_16 (by assumption) | exact ML_17 (by assumption) | exact ML_20 (by assumption) | exact ML_23 (by assumption) | exact ML_24 (by assumption) | exact ML_30 (by assumption) | exact ML_31 (by assumption) | exact ML_32 (by assumption) | exact ML_33 (by assumption) | exact ML_35 (by assumption) | exact ML_36 (by assumption) | exact ML_37 (by assumption) | exact ML_38 (by assumption) | exact ML_41 (by assumption) | exact ML_42 (by assumption) | exact ML_43 (by assumption) | exact ML_44 (by assumption) | exact ML_45 (by assumption) | rfl) ?_
      refine V_aloadn0 dX10_again_27 ?_
      refine V_getR dX10_again_28 fX10_20 (by first | assumption | rfl) (by first | decide | omega) (by first | assumption | exact ML_4 (by assumption) | exact ML_5 (by assumption) | exact ML_6 (by assumption) | exact ML_7 (by assumption) | exact ML_8 (by assumption) | exact ML_9 (by assumption) | exact ML_10 (by assumption) | exact ML_11 (by assumption) | exact ML_12 (by assumption) | exact ML_13 (by assumption) | exact ML_15 (by assumption) | exact ML_16 (by assumption) | exact ML_17 (by assumption) | exact ML_20 (by assumption) | exact ML_23 (by assumption) | exact ML_24 (by assumption) | exact ML_30 (by assumption) | exact ML_31 (by assumption) | exact ML_32 (by assumption) | exact ML_33 (by assumption) | exact ML_35 (by assumption) | exact ML_36 (by assumption) | exact ML_37 (by assumption) | exact ML_38 (by assumption) | exact ML_41 (by assumption) | exact ML_42 (by assumption) | exact ML_43 (by assumption) | exact ML_44 (by assumption) | exact ML_45 (by assumption) | rfl) ?_
      refine V_bipush (v := nI 6) dX10_again_31 (by decide) ?_
      refine V_callS3 (μ' := mX10_copies) dX10_again_33 okX10_copies lX10_298 (Nat.le_of_ble_eq_true rfl) (Nat.le_of_ble_eq_true rfl) (by omega) ?_
      refine m_copies 6 6 rfl rfl (by omega) (by omega) (by decide) (fun h2 a2 e2 l2 k2 => ?_)
      have hM2 := MLay_eq hM1 k2
      dsimp only [gPush]
      refine V_aloadn0 dX10_again_36 ?_
      refine V_getR dX10_again_37 fX10_35 (by first | assumption | rfl) (by first | decide | omega) (by first | assumption | exact ML_4 (by assumption) | exact ML_5 (by assumption) | exact ML_6 (by assumption) | exact ML_7 (by assumption) | exact ML_8 (by assumption) | exact ML_9 (by assumption) | exact ML_10 (by assumption) | exact ML_11 (by assumption) | exact ML_12 (by assumption) | exact ML_13 (by assumption) | exact ML_15 (by assumption) | exact ML_16 (by assumption) | exact ML_17 (by assumption) | exact ML_20 (by assumption) | exact ML_23 (by assumption) | exact ML_24 (by assumption) | exact ML_30 (by assumption) | exact ML_31 (by assumption) | exact ML_32 (by assumption) | exact ML_33 (by assumption) | exact ML_35 (by assumption) | exact ML_36 (by assumption) | exact ML_37 (by assumption) | exact ML_38 (by assumption) | exact ML_41 (by assumption) | exact ML_42 (by assumption) | exact ML_43 (by assumption) | exact ML_44 (by assumption) | exact ML_45 (by assumption) | rfl) ?_
      refine V_aloadn0 dX10_again_40 ?_
      refine V_getR dX10_again_41 fX10_23 (by first | assumption | rfl) (by first | decide | omega) (by first | assumption | exact ML_4 (by assumption) | exact ML_5 (by assumption) | exact ML_6 (by assumption) | exact ML_7 (by assumption) | exact ML_8 (by assumption) | exact ML_9 (by assumption) | exact ML_10 (by assumption) | exact ML_11 (by assumption) | exact ML_12 (by assumption) | exact ML_13 (by assumption) | exact ML_15 (by assumption) | exact ML_16 (by assumption) | exact ML_17 (by assumption) | exact ML_20 (by assumption) | exact ML_23 (by assumption) | exact ML_24 (by assumption) | exact ML_30 (by assumption) | exact ML_31 (by assumption) | exact ML_32 (by assumption) | exact ML_33 (by assumption) | exact ML_35 (by assumption) | exact ML_36 (by assumption) | exact ML_37 (by assumption) | exact ML_38 (by assumption) | exact ML_41 (by assumption) | exact ML_42 (by assumption) | exact ML_43 (by assumption) | exact ML_44 (by assumption) | exact ML_45 (by assumption) | rfl) ?_
      refine V_bipush (v := nI 36) dX10_again_44 (by decide) ?_
      refine V_callS3 (μ' := mX10_copies) dX10_again_46 okX10_copies lX10_298 (Nat.le_of_ble_eq_true rfl) (Nat.le_of_ble_eq_true rfl) (by omega) ?_
      refine m_copies 36 36 rfl rfl (by omega) (by omega) (by decide) (fun h3 a3 e3 l3 k3 => ?_)
      have hM3 := MLay_eq hM2 k3
      dsimp only [gPush]
      refine V_aloadn0 dX10_again_49 ?_
      refine V_getR dX10_again_50 fX10_38 (by first | assumption | rfl) (by first | decide | omega) (by first | assumption | exact ML_4 (by assumption) | exact ML_5 (by assumption) | exact ML_6 (by assumption) | exact ML_7 (by assumption) | exact ML_8 (by assumption) | exact ML_9 (by assumption) | exact ML_10 (by assumption) | exact ML_11 (by assumption) | exact ML_12 (by assumption) | exact ML_13 (by assumption) | exact ML_15 (by assumption) | exact ML_16 (by assumption) | exact ML_17 (by assumption) | exact ML_20 (by assumption) | exact ML_23 (by assumption) | exact ML_24 (by assumption) | exact ML_30 (by assumption) | exact ML_31 (by assumption) | exact ML_32 (by assumption) | exact ML_33 (by assumption) | exact ML_35 (by assumption) | exact ML_36 (by assumption) | exact ML_37 (by assumption) | exact ML_38 (by assumption) | exact ML_41 (by assumption) | exact ML_42 (by assumption) | exact ML_43 (by assumption) | exact ML_44 (by assumption) | exact ML_45 (by assumption) | rfl) ?_
      refine V_aloadn0 dX10_again_53 ?_
      refine V_getR dX10_again_54 fX10_26 (by first | assumption | rfl) (by first | decide | omega) (by first | assumption | exact ML_4 (by assumption) | exact ML_5 (by assumption) | exact ML_6 (by assumption) | exact ML_7 (by assumption) | exact ML_8 (by assumption) | exact ML_9 (by assumption) | exact ML_10 (by assumption) | exact ML_11 (by assumption) | exact ML_12 (by assumption) | exact ML_13 (by assumption) | exact ML_15 (by assumption) | exact ML_16 (by assumption) | exact ML_17 (by assumption) | exact ML_20 (by assumption) | exact ML_23 (by assumption) | exact ML_24 (by assumption) | exact ML_30 (by assumption) | exact ML_31 (by assumption) | exact ML_32 (by assumption) | exact ML_33 (by assumption) | exact ML_35 (by assumption) | exact ML_36 (by assumption) | exact ML_37 (by assumption) | exact ML_38 (by assumption) | exact ML_41 (by assumption) | exact ML_42 (by assumption) | exact ML_43 (by assumption) | exact ML_44 (by assumption) | exact ML_45 (by assumption) | rfl) ?_
      refine V_bipush (v := nI 36) dX10_again_57 (by decide) ?_
      refine V_callS3 (μ' := mX10_copies) dX10_again_59 okX10_copies lX10_298 (Nat.le_of_ble_eq_true rfl) (Nat.le_of_ble_eq_true rfl) (by omega) ?_
      refine m_copies 36 36 rfl rfl (by omega) (by omega) (by decide) (fun h4 a4 e4 l4 k4 => ?_)
      have hM4 := MLay_eq hM3 k4
      dsimp only [gPush]
      refine V_aloadn0 dX10_again_62 ?_
      refine V_getR dX10_again_63 fX10_44 (by first | assumption | rfl) (by first | decide | omega) (by first | assumption | exact ML_4 (by assumption) | exact ML_5 (by assumption) | exact ML_6 (by assumption) | exact ML_7 (by assumption) | exact ML_8 (by assumption) | exact ML_9 (by assumption) | exact ML_10 (by assumption) | exact ML_11 (by assumption) | exact ML_12 (by assumption) | exact ML_13 (by assumption) | exact ML_15 (by assumption) | exact ML_16 (by assumption) | exact ML_17 (by assumption) | exact ML_20 (by assumption) | exact ML_23 (by assumption) | exact ML_24 (by assumption) | exact ML_30 (by assumption) | exact ML_31 (by assumption) | exact ML_32 (by assumption) | exact ML_33 (by assumption) | exact ML_35 (by assumption) | exact ML_36 (by assumption) | exact ML_37 (by assumption) | exact ML_38 (by assumption) | exact ML_41 (by assumption) | exact ML_42 (by assumption) | exact ML_43 (by assumption) | exact ML_44 (by assumption) | exact ML_45 (by assumption) | rfl) ?_
      refine V_aloadn0 dX10_again_66 ?_
      refine V_getR dX10_again_67 fX10_41 (by first | assumption | rfl) (by first | decide | omega) (by first | assumption | exact ML_4 (by assumption) | exact ML_5 (by assumption) | exact ML_6 (by assumption) | exact ML_7 (by assumption) | exact ML_8 (by assumption) | exact ML_9 (by assumption) | exact ML_10 (by assumption) | exact ML_11 (by assumption) | exact ML_12 (by assumption) | exact ML_13 (by assumption) | exact ML_15 (by assumption) | exact ML_16 (by assumption) | exact ML_17 (by assumption) | exact ML_20 (by assumption) | exact ML_23 (by assumption) | exact ML_24 (by assumption) | exact ML_30 (by assumption) | exact ML_31 (by assumption) | exact ML_32 (by assumption) | exact ML_33 (by assumption) | exact ML_35 (by assumption) | exact ML_36 (by assumption) | exact ML_37 (by assumption) | exact ML_38 (by assumption) | exact ML_41 (by assumption) | exact ML_42 (by assumption) | exact ML_43 (by assumption) | exact ML_44 (by assumption) | exact ML_45 (by assumption) | rfl) ?_
      refine V_bipush (v := nI 6) dX10_again_70 (by decide) ?_
      refine V_callS3 (μ' := mX10_copies) dX10_again_72 okX10_copies lX10_298 (Nat.le_of_ble_eq_true rfl) (Nat.le_of_ble_eq_true rfl) (by omega) ?_
      refine m_copies 6 6 rfl rfl (by omega) (by omega) (by decide) (fun h5 a5 e5 l5 k5 => ?_)
      have hM5 := MLay_eq hM4 k5
      have g : ∀ q, q ≠ 95 → q ≠ 96 → q ≠ 97 → q ≠ 98 → q ≠ 103 → gI h5 q = gI h q := fun q q1 q2 q3 q4 q5 => by rw [e5 q q5, e4 q q4, e3 q q3, e2 q q2, e1 q q1]
      have n5 : gI h5 94 2 = nI K.1 := by rw [g 94 (by omega) (by omega) (by omega) (by omega) (by omega)]; exact d1
      have z5 : gI (sI h5 94 0 (nI K.1)) 94 3 = K.2.1 := by rw [gI_sI, if_neg (by omega), g 94 (by omega) (by omega) (by omega) (by omega) (by omega)]; exact d2
      generalize hh6 : sI (sI h5 94 0 (nI K.1)) 94 1 K.2.1 = h6
      have i6 : ∀ q b, ¬ (q = 94 ∧ (b = 0 ∨ b = 1)) → gI h6 q b = gI h5 q b := fun q b hq => by rw [← hh6, gI_sI, if_neg (by omega), gI_sI, if_neg (by omega)]
      have l6 : gL h6 = gL h := by rw [← hh6, gL_sI, gL_sI, l5, l4, l3, l2, l1]
      have k6 : gR h6 = gR h := by rw [← hh6, gR_sI, gR_sI, k5, k4, k3, k2, k1]
      have j6 : ∀ q, q ≠ 94 → gI h6 q = gI h5 q := fun q hq => funext (fun b => i6 q b (by omega))
      have hMT : MT h6 95 K.2.2.1 := MT_copy d3 hl6 (fun k hk => by rw [j6 95 (by omega), e5 95 (by omega), e4 95 (by omega), e3 95 (by omega), e2 95 (by omega)]; exact a1 k hk) (fun k hk => by rw [j6 (95 + 1) (by omega), e5 (95 + 1) (by omega), e4 (95 + 1) (by omega), e3 (95 + 1) (by omega)]; exact (a2 k hk).trans (by rw [e1 100 (by omega)])) (fun k hk => by rw [j6 (95 + 2) (by omega), e5 (95 + 2) (by omega), e4 (95 + 2) (by omega)]; exact (a3 k hk).trans (by rw [e2 101 (by omega), e1 101 (by omega)])) (fun k hk => by rw [j6 (95 + 3) (by omega), e5 (95 + 3) (by omega)]; exact (a4 k hk).trans (by rw [e3 102 (by omega), e2 102 (by omega), e1 102 (by omega)]))
      have hR6 : RM h6 (K, S.2) := RM_now (S := S) hR (A := K) (by rw [← hh6, gI_sI, if_neg (by omega), gI_sI, if_pos ⟨rfl, rfl⟩]) (by rw [← hh6, gI_sI, if_pos ⟨rfl, rfl⟩]) hMT (fun k q1 q2 => by rw [j6 103 (by omega), a5 k (by omega), e4 104 (by omega), e3 104 (by omega), e2 104 (by omega), e1 104 (by omega)]; exact d4 k q1 q2) (fun a ha => by rw [j6 a (by omega), g a (by omega) (by omega) (by omega) (by omega) (by omega)]) (fun k hk => by rw [i6 94 k (by omega), g 94 (by omega) (by omega) (by omega) (by omega) (by omega)]) k6
      have hQ9 := hQ h6 hR6 ⟨fun a ha => by rw [j6 a (by omega), g a (by omega) (by omega) (by omega) (by omega) (by omega)], fun a ha => by rw [l6], k6⟩
      dsimp only [gPush]
      refine V_aloadn0 dX10_again_75 ?_
      refine V_aloadn0 dX10_again_76 ?_
      refine V_getI dX10_again_77 fX10_302 (Or.inl rfl) (by first | assumption | rfl) (by first | decide | omega) (by first | assumption | exact ML_4 (by assumption) | exact ML_5 (by assumption) | exact ML_6 (by assumption) | exact ML_7 (by assumption) | exact ML_8 (by assumption) | exact ML_9 (by assumption) | exact ML_10 (by assumption) | exact ML_11 (by assumption) | exact ML_12 (by assumption) | exact ML_13 (by assumption) | exact ML_15 (by assumption) | exact ML_16 (by assumption) | exact ML_17 (by assumption) | exact ML_20 (by assumption) | exact ML_23 (by assumption) | exact ML_24 (by assumption) | exact ML_30 (by assumption) | exact ML_31 (by assumption) | exact ML_32 (by assumption) | exact ML_33 (by assumption) | exact ML_35 (by assumption) | exact ML_36 (by assumption) | exact ML_37 (by assumption) | exact ML_38 (by assumption) | exact ML_41 (by assumption) | exact ML_42 (by assumption) | exact ML_43 (by assumption) | exact ML_44 (by assumption) | exact ML_45 (by assumption) | rfl) ?_
      refine V_putI dX10_again_80 fX10_7 (by first | assumption | rfl) (by first | decide | omega) ?_
      refine V_aloadn0 dX10_again_83 ?_
      refine V_aloadn0 dX10_again_84 ?_
      refine V_getI dX10_again_85 fX10_305 (Or.inl rfl) (by first | assumption | rfl) (by first | decide | omega) (by first | assumption | exact ML_4 (by assumption) | exact ML_5 (by assumption) | exact ML_6 (by assumption) | exact ML_7 (by assumption) | exact ML_8 (by assumption) | exact ML_9 (by assumption) | exact ML_10 (by assumption) | exact ML_11 (by assumption) | exact ML_12 (by assumption) | exact ML_13 (by assumption) | exact ML_15 (by assumption) | exact ML_16 (by assumption) | exact ML_17 (by assumption) | exact ML_20 (by assumption) | exact ML_23 (by assumption) | exact ML_24 (by assumption) | exact ML_30 (by assumption) | exact ML_31 (by assumption) | exact ML_32 (by assumption) | exact ML_33 (by assumption) | exact ML_35 (by assumption) | exact ML_36 (by assumption) | exact ML_37 (by assumption) | exact ML_38 (by assumption) | exact ML_41 (by assumption) | exact ML_42 (by assumption) | exact ML_43 (by assumption) | exact ML_44 (by assumption) | exact ML_45 (by assumption) | rfl) ?_
      refine V_putI dX10_again_88 fX10_13 (by first | assumption | rfl) (by first | decide | omega) ?_
      rw [hh6]
      refine V_aloadn0 dX10_again_91 ?_
      refine V_callV0 (μ' := mX10_lettersAll) dX10_again_92 okX10_lettersAll lX10_295 rfl (by first | assumption | rfl) (by first | decide | omega) (Nat.le_of_ble_eq_true rfl) (Nat.le_of_ble_eq_true rfl) (by omega) ?_
      refine m_lettersAll hR6 hWK ?_
      dsimp only [gPush]
      refine V_iret dX10_again_95 rfl rfl ?_
      exact hQ9
    · skip
      cases c4

end C71
