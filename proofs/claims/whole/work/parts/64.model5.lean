/-! ===== the reference: raised and lowered ===== -/
def FrK (h h' : gH) : Prop := (∀ a, a ≠ 94 → a ≠ 105 → a ≠ 110 → gI h' a = gI h a) ∧ (∀ k, k < 25 ∨ 28 < k → gI h' 94 k = gI h 94 k) ∧ gL h' = gL h ∧ gR h' = gR h
theorem FrK.rf {h : gH} : FrK h h := ⟨fun _ _ _ _ => rfl, fun _ _ => rfl, rfl, rfl⟩
theorem FrK.tr {h h' h'' : gH} (a : FrK h h') (b : FrK h' h'') : FrK h h'' := ⟨fun q h1 h2 h3 => (b.1 q h1 h2 h3).trans (a.1 q h1 h2 h3), fun q hq => (b.2.1 q hq).trans (a.2.1 q hq), b.2.2.1.trans a.2.2.1, b.2.2.2.trans a.2.2.2⟩
theorem FrK.X {h h' : gH} (a : FrK h h') : FrX h h' := ⟨fun q hq => a.1 q (by omega) (by omega) (by omega), fun k hk => a.2.1 k (by omega), fun q _ => by rw [a.2.2.1], a.2.2.2⟩
theorem frk_sI {h h' : gH} {a k : Nat} {v : Int32} (f : FrK h h') (hs : (a = 94 ∧ 25 ≤ k ∧ k ≤ 28) ∨ a = 105 ∨ a = 110) : FrK h (sI h' a k v) :=
  ⟨fun q h1 h2 h3 => by
    funext b
    rw [gI_sI, if_neg (by omega)]; exact congrFun (f.1 q h1 h2 h3) b, fun q hq => by rw [gI_sI, if_neg (by omega)]; exact f.2.1 q hq, f.2.2.1, f.2.2.2⟩
theorem SH_K {h h' : gH} {L : List Nat} (hL : SH h L) (f : FrK h h') : SH h' L := ⟨fun k hk => by rw [f.1 106 (by omega) (by omega) (by omega)]; exact hL.1 k hk, hL.2⟩
theorem getD_dropLast {l : List Nat} {j : Nat} (h : j < l.length - 1) : l.dropLast.getD j 0 = l.getD j 0 := by
  rw [List.getD_eq_getElem?_getD, List.getD_eq_getElem?_getD, List.getElem?_dropLast, if_pos h]
theorem lk_step {w : List Nat} {i p : Nat} : (w.getD p 0 = i + 1 → lkF w i (p + 1) = ((lkF w i p).1 + 1, (lkF w i p).2.1, (lkF w i p).2.2)) ∧ (w.getD p 0 = i → 0 < (lkF w i p).1 → lkF w i (p + 1) = ((lkF w i p).1 - 1, (lkF w i p).2.1, (lkF w i p).2.2)) ∧ (w.getD p 0 = i → (lkF w i p).1 = 0 → lkF w i (p + 1) = ((lkF w i p).1, (lkF w i p).2.1 + 1, p + 1)) ∧ (w.getD p 0 ≠ i + 1 → w.getD p 0 ≠ i → lkF w i (p + 1) = lkF w i p) := by
  refine ⟨fun h1 => ?_, fun h1 h2 => ?_, fun h1 h2 => ?_, fun h1 h2 => ?_⟩
  · rw [lkF, if_pos h1]
  · rw [lkF, if_neg (by omega), if_pos ⟨h1, h2⟩]
  · rw [lkF, if_neg (by omega), if_neg (by omega), if_pos h1]
  · rw [lkF, if_neg h1, if_neg (fun q => h2 q.1), if_neg h2]
theorem sk_step {w : List Nat} {i p : Nat} : (w.getD p 0 = i + 1 → skF w i (p + 1) = skF w i p ++ [p]) ∧ (w.getD p 0 = i → skF w i (p + 1) = (skF w i p).dropLast) ∧ (w.getD p 0 ≠ i + 1 → w.getD p 0 ≠ i → skF w i (p + 1) = skF w i p) := by
  refine ⟨fun h1 => ?_, fun h1 => ?_, fun h1 h2 => ?_⟩
  · rw [skF, if_pos h1]
  · rw [skF, if_neg (by omega), if_pos h1]
  · rw [skF, if_neg h1, if_neg h2]
section C64
variable {Γ : gM} {d : Nat} {h : gH} {Q : Option Value → gH → Prop} {S : GS}
set_option maxRecDepth 100000 in
set_option maxHeartbeats 4000000 in
theorem m_looks {i : Nat} {w : List Nat} (hM : MLay h) (hW : WW h w) (hi : 1 ≤ i) (hi8 : i ≤ 8) (hQ : ∀ h', gI h' 94 25 = nI (lowC w i) → gI h' 94 26 = nI (highC w i) → (llC w i ≠ 0 → gI h' 94 27 = nI (llC w i - 1)) → (fhC w i ≠ 0 → gI h' 94 28 = nI (fhC w i - 1)) → gI h' 105 = gI h 105 → FrK h h' → Q none h') : V Γ mX10_looks d 124 124 h 0 [some (.ref 94), some (.int (nI i)), none, none] [] Q := by
  obtain ⟨w0, w1, w6, w9⟩ := id hW
  have loop : ∀ f k o h1, k + f = w.length → (lkF w i k).1 = o → (∀ j, j < o → gI h1 110 j = nI ((skF w i k).getD j 0)) → gI h1 94 25 = nI (lkF w i k).2.1 → ((lkF w i k).2.2 ≠ 0 → gI h1 94 27 = nI ((lkF w i k).2.2 - 1)) → gI h1 105 = gI h 105 → FrK h h1 → V Γ mX10_looks d 124 124 h1 9 [some (.ref 94), some (.int (nI i)), some (.int (nI o)), some (.int (nI k))] [] Q := by
    intro f
    induction f with
    | zero =>
      intro k o h1 hk ho hst hlow hll h105 hF
      have e : k = w.length := by omega
      subst e
      have hM1 := MLay_eq hM hF.2.2.2
      have g18 : gI h1 94 18 = nI w.length := by rw [hF.2.1 18 (by omega)]; exact w0
      have hoh : highC w i = o := by rw [← sk_high w6 hi, skF_len, ho]
      have ho6 := (lkF_ok w i w.length).1
      have hfz := fhC_z w i
      have fin : ∀ v, (fhC w i ≠ 0 → v = nI (fhC w i - 1)) → Q none (sI (sI h1 94 26 (nI o)) 94 28 v) := fun v hv => by
        refine hQ _ ?_ ?_ (fun q => ?_) (fun q => ?_) ?_ (frk_sI (frk_sI hF (by omega)) (by omega))
        · rw [gI_sI, if_neg (by omega), gI_sI, if_neg (by omega)]; exact hlow
        · rw [gI_sI, if_neg (by omega), gI_sI, if_pos ⟨rfl, rfl⟩, hoh]
        · rw [gI_sI, if_neg (by omega), gI_sI, if_neg (by omega)]; exact hll q
        · rw [gI_sI, if_pos ⟨rfl, rfl⟩]; exact hv q
        · funext b
          rw [gI_sI, if_neg (by omega), gI_sI, if_neg (by omega), h105]
      have hM2 : MLay (sI h1 94 26 (nI o)) := MLay_eq hM1 rfl
      have g110 : 0 < o → gI (sI h1 94 26 (nI o)) 110 0 = nI (fhC w i - 1) := fun q => by
        have hf := sk_first w6 hi (fun z => by have := hfz.mpr z; omega)
        rw [gI_sI, if_neg (by omega), hst 0 q]
        congr 1
        omega
      refine V_iloadn3 dX10_looks_9 ?_
      refine V_aloadn0 dX10_looks_10 ?_
      refine V_getI dX10_looks_11 fX10_111 (Or.inl rfl) (by first | assumption | rfl) (by first | decide | omega) (by first | assumption | exact g110 (by omega) | exact ML_4 (by assumption) | exact ML_5 (by assumption) | exact ML_6 (by assumption) | exact ML_7 (by assumption) | exact ML_8 (by assumption) | exact ML_9 (by assumption) | exact ML_10 (by assumption) | exact ML_11 (by assumption) | exact ML_12 (by assumption) | exact ML_13 (by assumption) | exact ML_15 (by assumption) | exact ML_16 (by assumption) | exact ML_17 (by assumption) | exact ML_20 (by assumption) | exact ML_23 (by assumption) | exact ML_24 (by assumption) | exact ML_30 (by assumption) | exact ML_31 (by assumption) | exact ML_32 (by assumption) | exact ML_33 (by assumption) | exact ML_35 (by assumption) | exact ML_36 (by assumption) | exact ML_37 (by assumption) | exact ML_38 (by assumption) | exact ML_41 (by assumption) | exact ML_42 (by assumption) | exact ML_43 (by assumption) | exact ML_44 (by assumption) | exact ML_45 (by assumption) | rfl) ?_
      first | refine U_icmp_ge (tgt := 93) dX10_looks_14 (by decide) (by with_reducible rfl) (by with_reducible rfl) (by omega) (by omega) (fun c14 => ?_) (fun c14 => ?_) | refine V_icmp_ge (tgt := 93) dX10_looks_14 (by decide) (fun c14 => ?_) (fun c14 => ?_)
      · skip
        refine V_aloadn0 dX10_looks_93 ?_
        refine V_iloadn2 dX10_looks_94 ?_
        refine V_putI dX10_looks_95 fX10_164 (by first | assumption | rfl) (by first | decide | omega) ?_
        refine V_aloadn0 dX10_looks_98 ?_
        refine V_iloadn2 dX10_looks_99 ?_
        first | refine U_if_le (tgt := 112) dX10_looks_100 (by decide) (by with_reducible rfl) (by omega) (fun c100 => ?_) (fun c100 => ?_) | refine V_if_le (tgt := 112) dX10_looks_100 (by decide) (fun c100 => ?_) (fun c100 => ?_)
        · skip
          refine V_iconst (v := -1) dX10_looks_112 (by decide) ?_
          refine V_putI dX10_looks_113 fX10_167 (by first | assumption | rfl) (by first | decide | omega) ?_
          refine V_ret dX10_looks_116 rfl ?_
          first | exact fin _ (fun _ => rfl) | exact fin _ (fun q => absurd (hfz.mp (by omega)) q)
        · skip
          refine V_aloadn0 dX10_looks_103 ?_
          refine V_getR dX10_looks_104 fX10_62 (by first | assumption | rfl) (by first | decide | omega) (by first | assumption | exact g110 (by omega) | exact ML_4 (by assumption) | exact ML_5 (by assumption) | exact ML_6 (by assumption) | exact ML_7 (by assumption) | exact ML_8 (by assumption) | exact ML_9 (by assumption) | exact ML_10 (by assumption) | exact ML_11 (by assumption) | exact ML_12 (by assumption) | exact ML_13 (by assumption) | exact ML_15 (by assumption) | exact ML_16 (by assumption) | exact ML_17 (by assumption) | exact ML_20 (by assumption) | exact ML_23 (by assumption) | exact ML_24 (by assumption) | exact ML_30 (by assumption) | exact ML_31 (by assumption) | exact ML_32 (by assumption) | exact ML_33 (by assumption) | exact ML_35 (by assumption) | exact ML_36 (by assumption) | exact ML_37 (by assumption) | exact ML_38 (by assumption) | exact ML_41 (by assumption) | exact ML_42 (by assumption) | exact ML_43 (by assumption) | exact ML_44 (by assumption) | exact ML_45 (by assumption) | rfl) ?_
          refine V_iconst (v := nI 0) dX10_looks_107 (by decide) ?_
          refine U_iald dX10_looks_108 (by with_reducible rfl) (by first | assumption | rfl) (by first | decide | omega) (by omega) (by first | assumption | exact g110 (by omega) | exact ML_4 (by assumption) | exact ML_5 (by assumption) | exact ML_6 (by assumption) | exact ML_7 (by assumption) | exact ML_8 (by assumption) | exact ML_9 (by assumption) | exact ML_10 (by assumption) | exact ML_11 (by assumption) | exact ML_12 (by assumption) | exact ML_13 (by assumption) | exact ML_15 (by assumption) | exact ML_16 (by assumption) | exact ML_17 (by assumption) | exact ML_20 (by assumption) | exact ML_23 (by assumption) | exact ML_24 (by assumption) | exact ML_30 (by assumption) | exact ML_31 (by assumption) | exact ML_32 (by assumption) | exact ML_33 (by assumption) | exact ML_35 (by assumption) | exact ML_36 (by assumption) | exact ML_37 (by assumption) | exact ML_38 (by assumption) | exact ML_41 (by assumption) | exact ML_42 (by assumption) | exact ML_43 (by assumption) | exact ML_44 (by assumption) | exact ML_45 (by assumption) | rfl) ?_
          refine V_goto (tgt := 113) dX10_looks_109 (by decide) ?_
          refine V_putI dX10_looks_113 fX10_167 (by first | assumption | rfl) (by first | decide | omega) ?_
          refine V_ret dX10_looks_116 rfl ?_
          first | exact fin _ (fun _ => rfl) | exact fin _ (fun q => absurd (hfz.mp (by omega)) q)
      · skip
        omega
    | succ f ih =>
      intro k o h1 hk ho hst hlow hll h105 hF
      have hM1 := MLay_eq hM hF.2.2.2
      have g18 : gI h1 94 18 = nI w.length := by rw [hF.2.1 18 (by omega)]; exact w0
      have gk : gI h1 105 k = nI (w.getD k 0) := by rw [h105]; exact w1 k (by omega)
      have hb := w9 k
      have hok := lkF_ok w i k
      have hsl := skF_len w i k
      obtain ⟨s1, s2, s3, s4⟩ := lk_step (w := w) (i := i) (p := k)
      obtain ⟨t1, t2, t3⟩ := sk_step (w := w) (i := i) (p := k)
      have nxt : ∀ h2 o', (lkF w i (k + 1)).1 = o' → (∀ j, j < o' → gI h2 110 j = nI ((skF w i (k + 1)).getD j 0)) → gI h2 94 25 = nI (lkF w i (k + 1)).2.1 → ((lkF w i (k + 1)).2.2 ≠ 0 → gI h2 94 27 = nI ((lkF w i (k + 1)).2.2 - 1)) → gI h2 105 = gI h 105 → FrK h h2 → V Γ mX10_looks d 124 124 h2 87 [some (.ref 94), some (.int (nI i)), some (.int (nI o')), some (.int (nI k))] [] Q := by
        intro h2 o' a1 a2 a3 a4 a5 a6
        refine V_iinc3 dX10_looks_87 (by first | exact ginc1 _ | rfl) (by decide) rfl ?_
        refine V_goto (tgt := 9) dX10_looks_90 (by decide) ?_
        exact ih (k + 1) o' h2 (by omega) a1 a2 a3 a4 a5 a6
      by_cases e1 : w.getD k 0 = i + 1
      · rw [s1 e1, t1 e1] at nxt
        refine V_iloadn3 dX10_looks_9 ?_
        refine V_aloadn0 dX10_looks_10 ?_
        refine V_getI dX10_looks_11 fX10_111 (Or.inl rfl) (by first | assumption | rfl) (by first | decide | omega) (by first | assumption | exact ML_4 (by assumption) | exact ML_5 (by assumption) | exact ML_6 (by assumption) | exact ML_7 (by assumption) | exact ML_8 (by assumption) | exact ML_9 (by assumption) | exact ML_10 (by assumption) | exact ML_11 (by assumption) | exact ML_12 (by assumption) | exact ML_13 (by assumption) | exact ML_15 (by assumption) | exact ML_16 (by assumption) | exact ML_17 (by assumption) | exact ML_20 (by assumption) | exact ML_23 (by assumption) | exact ML_24 (by assumption) | exact ML_30 (by assumption) | exact ML_31 (by assumption) | exact ML_32 (by assumption) | exact ML_33 (by assumption) | exact ML_35 (by assumption) | exact ML_36 (by assumption) | exact ML_37 (by assumption) | exact ML_38 (by assumption) | exact ML_41 (by assumption) | exact ML_42 (by assumption) | exact ML_43 (by assumption) | exact ML_44 (by assumption) | exact ML_45 (by assumption) | rfl) ?_
        first | refine U_icmp_ge (tgt := 93) dX10_looks_14 (by decide) (by with_reducible rfl) (by with_reducible rfl) (by omega) (by omega) (fun c14 => ?_) (fun c14 => ?_) | refine V_icmp_ge (tgt := 93) dX10_looks_14 (by decide) (fun c14 => ?_) (fun c14 => ?_)
        · skip
          omega
        · skip
          refine V_aloadn0 dX10_looks_17 ?_
          refine V_getR dX10_looks_18 fX10_47 (by first | assumption | rfl) (by first | decide | omega) (by first | assumption | exact ML_4 (by assumption) | exact ML_5 (by assumption) | exact ML_6 (by assumption) | exact ML_7 (by assumption) | exact ML_8 (by assumption) | exact ML_9 (by assumption) | exact ML_10 (by assumption) | exact ML_11 (by assumption) | exact ML_12 (by assumption) | exact ML_13 (by assumption) | exact ML_15 (by assumption) | exact ML_16 (by assumption) | exact ML_17 (by assumption) | exact ML_20 (by assumption) | exact ML_23 (by assumption) | exact ML_24 (by assumption) | exact ML_30 (by assumption) | exact ML_31 (by assumption) | exact ML_32 (by assumption) | exact ML_33 (by assumption) | exact ML_35 (by assumption) | exact ML_36 (by assumption) | exact ML_37 (by assumption) | exact ML_38 (by assumption) | exact ML_41 (by assumption) | exact ML_42 (by assumption) | exact ML_43 (by assumption) | exact ML_44 (by assumption) | exact ML_45 (by assumption) | rfl) ?_
          refine V_iloadn3 dX10_looks_21 ?_
          refine U_iald dX10_looks_22 (by with_reducible rfl) (by first | assumption | rfl) (by first | decide | omega) (by omega) (by first | assumption | exact ML_4 (by assumption) | exact ML_5 (by assumption) | exact ML_6 (by assumption) | exact ML_7 (by assumption) | exact ML_8 (by assumption) | exact ML_9 (by assumption) | exact ML_10 (by assumption) | exact ML_11 (by assumption) | exact ML_12 (by assumption) | exact ML_13 (by assumption) | exact ML_15 (by assumption) | exact ML_16 (by assumption) | exact ML_17 (by assumption) | exact ML_20 (by assumption) | exact ML_23 (by assumption) | exact ML_24 (by assumption) | exact ML_30 (by assumption) | exact ML_31 (by assumption) | exact ML_32 (by assumption) | exact ML_33 (by assumption) | exact ML_35 (by assumption) | exact ML_36 (by assumption) | exact ML_37 (by assumption) | exact ML_38 (by assumption) | exact ML_41 (by assumption) | exact ML_42 (by assumption) | exact ML_43 (by assumption) | exact ML_44 (by assumption) | exact ML_45 (by assumption) | rfl) ?_
          refine V_iloadn1 dX10_looks_23 ?_
          refine V_iconst (v := nI 1) dX10_looks_24 (by decide) ?_
          first | refine U_iadd dX10_looks_25 (by with_reducible rfl) (by with_reducible rfl) ?_ | refine V_iadd dX10_looks_25 ?_
          first | refine U_icmp_ne (tgt := 42) dX10_looks_26 (by decide) (by with_reducible rfl) (by with_reducible rfl) (by omega) (by omega) (fun c26 => ?_) (fun c26 => ?_) | refine V_icmp_ne (tgt := 42) dX10_looks_26 (by decide) (fun c26 => ?_) (fun c26 => ?_)
          · skip
            exact absurd e1 c26
          · skip
            refine V_aloadn0 dX10_looks_29 ?_
            refine V_getR dX10_looks_30 fX10_62 (by first | assumption | rfl) (by first | decide | omega) (by first | assumption | exact ML_4 (by assumption) | exact ML_5 (by assumption) | exact ML_6 (by assumption) | exact ML_7 (by assumption) | exact ML_8 (by assumption) | exact ML_9 (by assumption) | exact ML_10 (by assumption) | exact ML_11 (by assumption) | exact ML_12 (by assumption) | exact ML_13 (by assumption) | exact ML_15 (by assumption) | exact ML_16 (by assumption) | exact ML_17 (by assumption) | exact ML_20 (by assumption) | exact ML_23 (by assumption) | exact ML_24 (by assumption) | exact ML_30 (by assumption) | exact ML_31 (by assumption) | exact ML_32 (by assumption) | exact ML_33 (by assumption) | exact ML_35 (by assumption) | exact ML_36 (by assumption) | exact ML_37 (by assumption) | exact ML_38 (by assumption) | exact ML_41 (by assumption) | exact ML_42 (by assumption) | exact ML_43 (by assumption) | exact ML_44 (by assumption) | exact ML_45 (by assumption) | rfl) ?_
            refine V_iloadn2 dX10_looks_33 ?_
            refine V_iloadn3 dX10_looks_34 ?_
            refine U_iast dX10_looks_35 (by with_reducible rfl) (by first | assumption | rfl) (by first | decide | omega) (by omega) ?_
            refine V_iinc2 dX10_looks_36 (by first | exact ginc1 _ | rfl) (by decide) rfl ?_
            refine V_goto (tgt := 87) dX10_looks_39 (by decide) ?_
            refine nxt _ (o + 1) (by show (lkF w i k).1 + 1 = o + 1; omega) (fun j hj => ?_) (by rw [gI_sI, if_neg (by omega)]; exact hlow) (fun q => by rw [gI_sI, if_neg (by omega)]; exact hll q) (by funext b; rw [gI_sI, if_neg (by omega), h105]) (frk_sI hF (by omega))
            rw [gI_sI, getD_snoc, hsl, ho]
            by_cases ej : j = o
            · rw [if_pos ⟨rfl, ej⟩, if_pos ej]
            · rw [if_neg (fun z => ej z.2), if_neg ej]; exact hst j (by omega)
      by_cases e2 : w.getD k 0 = i
      · rw [t2 e2] at nxt
        by_cases e3 : 0 < o
        · rw [s2 e2 (by omega)] at nxt
          refine V_iloadn3 dX10_looks_9 ?_
          refine V_aloadn0 dX10_looks_10 ?_
          refine V_getI dX10_looks_11 fX10_111 (Or.inl rfl) (by first | assumption | rfl) (by first | decide | omega) (by first | assumption | exact ML_4 (by assumption) | exact ML_5 (by assumption) | exact ML_6 (by assumption) | exact ML_7 (by assumption) | exact ML_8 (by assumption) | exact ML_9 (by assumption) | exact ML_10 (by assumption) | exact ML_11 (by assumption) | exact ML_12 (by assumption) | exact ML_13 (by assumption) | exact ML_15 (by assumption) | exact ML_16 (by assumption) | exact ML_17 (by assumption) | exact ML_20 (by assumption) | exact ML_23 (by assumption) | exact ML_24 (by assumption) | exact ML_30 (by assumption) | exact ML_31 (by assumption) | exact ML_32 (by assumption) | exact ML_33 (by assumption) | exact ML_35 (by assumption) | exact ML_36 (by assumption) | exact ML_37 (by assumption) | exact ML_38 (by assumption) | exact ML_41 (by assumption) | exact ML_42 (by assumption) | exact ML_43 (by assumption) | exact ML_44 (by assumption) | exact ML_45 (by assumption) | rfl) ?_
          first | refine U_icmp_ge (tgt := 93) dX10_looks_14 (by decide) (by with_reducible rfl) (by with_reducible rfl) (by omega) (by omega) (fun c14 => ?_) (fun c14 => ?_) | refine V_icmp_ge (tgt := 93) dX10_looks_14 (by decide) (fun c14 => ?_) (fun c14 => ?_)
          · skip
            omega
          · skip
            refine V_aloadn0 dX10_looks_17 ?_
            refine V_getR dX10_looks_18 fX10_47 (by first | assumption | rfl) (by first | decide | omega) (by first | assumption | exact ML_4 (by assumption) | exact ML_5 (by assumption) | exact ML_6 (by assumption) | exact ML_7 (by assumption) | exact ML_8 (by assumption) | exact ML_9 (by assumption) | exact ML_10 (by assumption) | exact ML_11 (by assumption) | exact ML_12 (by assumption) | exact ML_13 (by assumption) | exact ML_15 (by assumption) | exact ML_16 (by assumption) | exact ML_17 (by assumption) | exact ML_20 (by assumption) | exact ML_23 (by assumption) | exact ML_24 (by assumption) | exact ML_30 (by assumption) | exact ML_31 (by assumption) | exact ML_32 (by assumption) | exact ML_33 (by assumption) | exact ML_35 (by assumption) | exact ML_36 (by assumption) | exact ML_37 (by assumption) | exact ML_38 (by assumption) | exact ML_41 (by assumption) | exact ML_42 (by assumption) | exact ML_43 (by assumption) | exact ML_44 (by assumption) | exact ML_45 (by assumption) | rfl) ?_
            refine V_iloadn3 dX10_looks_21 ?_
            refine U_iald dX10_looks_22 (by with_reducible rfl) (by first | assumption | rfl) (by first | decide | omega) (by omega) (by first | assumption | exact ML_4 (by assumption) | exact ML_5 (by assumption) | exact ML_6 (by assumption) | exact ML_7 (by assumption) | exact ML_8 (by assumption) | exact ML_9 (by assumption) | exact ML_10 (by assumption) | exact ML_11 (by assumption) | exact ML_12 (by assumption) | exact ML_13 (by assumption) | exact ML_15 (by assumption) | exact ML_16 (by assumption) | exact ML_17 (by assumption) | exact ML_20 (by assumption) | exact ML_23 (by assumption) | exact ML_24 (by assumption) | exact ML_30 (by assumption) | exact ML_31 (by assumption) | exact ML_32 (by assumption) | exact ML_33 (by assumption) | exact ML_35 (by assumption) | exact ML_36 (by assumption) | exact ML_37 (by assumption) | exact ML_38 (by assumption) | exact ML_41 (by assumption) | exact ML_42 (by assumption) | exact ML_43 (by assumption) | exact ML_44 (by assumption) | exact ML_45 (by assumption) | rfl) ?_
            refine V_iloadn1 dX10_looks_23 ?_
            refine V_iconst (v := nI 1) dX10_looks_24 (by decide) ?_
            first | refine U_iadd dX10_looks_25 (by with_reducible rfl) (by with_reducible rfl) ?_ | refine V_iadd dX10_looks_25 ?_
            first | refine U_icmp_ne (tgt := 42) dX10_looks_26 (by decide) (by with_reducible rfl) (by with_reducible rfl) (by omega) (by omega) (fun c26 => ?_) (fun c26 => ?_) | refine V_icmp_ne (tgt := 42) dX10_looks_26 (by decide) (fun c26 => ?_) (fun c26 => ?_)
            · skip
              refine V_aloadn0 dX10_looks_42 ?_
              refine V_getR dX10_looks_43 fX10_47 (by first | assumption | rfl) (by first | decide | omega) (by first | assumption | exact ML_4 (by assumption) | exact ML_5 (by assumption) | exact ML_6 (by assumption) | exact ML_7 (by assumption) | exact ML_8 (by assumption) | exact ML_9 (by assumption) | exact ML_10 (by assumption) | exact ML_11 (by assumption) | exact ML_12 (by assumption) | exact ML_13 (by assumption) | exact ML_15 (by assumption) | exact ML_16 (by assumption) | exact ML_17 (by assumption) | exact ML_20 (by assumption) | exact ML_23 (by assumption) | exact ML_24 (by assumption) | exact ML_30 (by assumption) | exact ML_31 (by assumption) | exact ML_32 (by assumption) | exact ML_33 (by assumption) | exact ML_35 (by assumption) | exact ML_36 (by assumption) | exact ML_37 (by assumption) | exact ML_38 (by assumption) | exact ML_41 (by assumption) | exact ML_42 (by assumption) | exact ML_43 (by assumption) | exact ML_44 (by assumption) | exact ML_45 (by assumption) | rfl) ?_
              refine V_iloadn3 dX10_looks_46 ?_
              refine U_iald dX10_looks_47 (by with_reducible rfl) (by first | assumption | rfl) (by first | decide | omega) (by omega) (by first | assumption | exact ML_4 (by assumption) | exact ML_5 (by assumption) | exact ML_6 (by assumption) | exact ML_7 (by assumption) | exact ML_8 (by assumption) | exact ML_9 (by assumption) | exact ML_10 (by assumption) | exact ML_11 (by assumption) | exact ML_12 (by assumption) | exact ML_13 (by assumption) | exact ML_15 (by assumption) | exact ML_16 (by assumption) | exact ML_17 (by assumption) | exact ML_20 (by assumption) | exact ML_23 (by assumption) | exact ML_24 (by assumption) | exact ML_30 (by assumption) | exact ML_31 (by assumption) | exact ML_32 (by assumption) | exact ML_33 (by assumption) | exact ML_35 (by assumption) | exact ML_36 (by assumption) | exact ML_37 (by assumption) | exact ML_38 (by assumption) | exact ML_41 (by assumption) | exact ML_42 (by assumption) | exact ML_43 (by assumption) | exact ML_44 (by assumption) | exact ML_45 (by assumption) | rfl) ?_
              refine V_iloadn1 dX10_looks_48 ?_
              first | refine U_icmp_ne (tgt := 62) dX10_looks_49 (by decide) (by with_reducible rfl) (by with_reducible rfl) (by omega) (by omega) (fun c49 => ?_) (fun c49 => ?_) | refine V_icmp_ne (tgt := 62) dX10_looks_49 (by decide) (fun c49 => ?_) (fun c49 => ?_)
              · skip
                exact absurd e2 c49
              · skip
                refine V_iloadn2 dX10_looks_52 ?_
                first | refine U_if_le (tgt := 62) dX10_looks_53 (by decide) (by with_reducible rfl) (by omega) (fun c53 => ?_) (fun c53 => ?_) | refine V_if_le (tgt := 62) dX10_looks_53 (by decide) (fun c53 => ?_) (fun c53 => ?_)
                · skip
                  omega
                · skip
                  refine V_iinc2 dX10_looks_56 (v := nI (o - 1)) (by rw [gdecS]; exact pk_sub (by omega)) (by decide) rfl ?_
                  refine V_goto (tgt := 87) dX10_looks_59 (by decide) ?_
                  refine nxt h1 (o - 1) (by show (lkF w i k).1 - 1 = o - 1; omega) (fun j hj => ?_) hlow hll h105 hF
                  rw [getD_dropLast (by omega)]; exact hst j (by omega)
            · skip
              exact absurd c26 e1
        · rw [s3 e2 (by omega)] at nxt
          refine V_iloadn3 dX10_looks_9 ?_
          refine V_aloadn0 dX10_looks_10 ?_
          refine V_getI dX10_looks_11 fX10_111 (Or.inl rfl) (by first | assumption | rfl) (by first | decide | omega) (by first | assumption | exact ML_4 (by assumption) | exact ML_5 (by assumption) | exact ML_6 (by assumption) | exact ML_7 (by assumption) | exact ML_8 (by assumption) | exact ML_9 (by assumption) | exact ML_10 (by assumption) | exact ML_11 (by assumption) | exact ML_12 (by assumption) | exact ML_13 (by assumption) | exact ML_15 (by assumption) | exact ML_16 (by assumption) | exact ML_17 (by assumption) | exact ML_20 (by assumption) | exact ML_23 (by assumption) | exact ML_24 (by assumption) | exact ML_30 (by assumption) | exact ML_31 (by assumption) | exact ML_32 (by assumption) | exact ML_33 (by assumption) | exact ML_35 (by assumption) | exact ML_36 (by assumption) | exact ML_37 (by assumption) | exact ML_38 (by assumption) | exact ML_41 (by assumption) | exact ML_42 (by assumption) | exact ML_43 (by assumption) | exact ML_44 (by assumption) | exact ML_45 (by assumption) | rfl) ?_
          first | refine U_icmp_ge (tgt := 93) dX10_looks_14 (by decide) (by with_reducible rfl) (by with_reducible rfl) (by omega) (by omega) (fun c14 => ?_) (fun c14 => ?_) | refine V_icmp_ge (tgt := 93) dX10_looks_14 (by decide) (fun c14 => ?_) (fun c14 => ?_)
          · skip
            omega
          · skip
            refine V_aloadn0 dX10_looks_17 ?_
            refine V_getR dX10_looks_18 fX10_47 (by first | assumption | rfl) (by first | decide | omega) (by first | assumption | exact ML_4 (by assumption) | exact ML_5 (by assumption) | exact ML_6 (by assumption) | exact ML_7 (by assumption) | exact ML_8 (by assumption) | exact ML_9 (by assumption) | exact ML_10 (by assumption) | exact ML_11 (by assumption) | exact ML_12 (by assumption) | exact ML_13 (by assumption) | exact ML_15 (by assumption) | exact ML_16 (by assumption) | exact ML_17 (by assumption) | exact ML_20 (by assumption) | exact ML_23 (by assumption) | exact ML_24 (by assumption) | exact ML_30 (by assumption) | exact ML_31 (by assumption) | exact ML_32 (by assumption) | exact ML_33 (by assumption) | exact ML_35 (by assumption) | exact ML_36 (by assumption) | exact ML_37 (by assumption) | exact ML_38 (by assumption) | exact ML_41 (by assumption) | exact ML_42 (by assumption) | exact ML_43 (by assumption) | exact ML_44 (by assumption) | exact ML_45 (by assumption) | rfl) ?_
            refine V_iloadn3 dX10_looks_21 ?_
            refine U_iald dX10_looks_22 (by with_reducible rfl) (by first | assumption | rfl) (by first | decide | omega) (by omega) (by first | assumption | exact ML_4 (by assumption) | exact ML_5 (by assumption) | exact ML_6 (by assumption) | exact ML_7 (by assumption) | exact ML_8 (by assumption) | exact ML_9 (by assumption) | exact ML_10 (by assumption) | exact ML_11 (by assumption) | exact ML_12 (by assumption) | exact ML_13 (by assumption) | exact ML_15 (by assumption) | exact ML_16 (by assumption) | exact ML_17 (by assumption) | exact ML_20 (by assumption) | exact ML_23 (by assumption) | exact ML_24 (by assumption) | exact ML_30 (by assumption) | exact ML_31 (by assumption) | exact ML_32 (by assumption) | exact ML_33 (by assumption) | exact ML_35 (by assumption) | exact ML_36 (by assumption) | exact ML_37 (by assumption) | exact ML_38 (by assumption) | exact ML_41 (by assumption) | exact ML_42 (by assumption) | exact ML_43 (by assumption) | exact ML_44 (by assumption) | exact ML_45 (by assumption) | rfl) ?_
            refine V_iloadn1 dX10_looks_23 ?_
            refine V_iconst (v := nI 1) dX10_looks_24 (by decide) ?_
            first | refine U_iadd dX10_looks_25 (by with_reducible rfl) (by with_reducible rfl) ?_ | refine V_iadd dX10_looks_25 ?_
            first | refine U_icmp_ne (tgt := 42) dX10_looks_26 (by decide) (by with_reducible rfl) (by with_reducible rfl) (by omega) (by omega) (fun c26 => ?_) (fun c26 => ?_) | refine V_icmp_ne (tgt := 42) dX10_looks_26 (by decide) (fun c26 => ?_) (fun c26 => ?_)
            · skip
              refine V_aloadn0 dX10_looks_42 ?_
              refine V_getR dX10_looks_43 fX10_47 (by first | assumption | rfl) (by first | decide | omega) (by first | assumption | exact ML_4 (by assumption) | exact ML_5 (by assumption) | exact ML_6 (by assumption) | exact ML_7 (by assumption) | exact ML_8 (by assumption) | exact ML_9 (by assumption) | exact ML_10 (by assumption) | exact ML_11 (by assumption) | exact ML_12 (by assumption) | exact ML_13 (by assumption) | exact ML_15 (by assumption) | exact ML_16 (by assumption) | exact ML_17 (by assumption) | exact ML_20 (by assumption) | exact ML_23 (by assumption) | exact ML_24 (by assumption) | exact ML_30 (by assumption) | exact ML_31 (by assumption) | exact ML_32 (by assumption) | exact ML_33 (by assumption) | exact ML_35 (by assumption) | exact ML_36 (by assumption) | exact ML_37 (by assumption) | exact ML_38 (by assumption) | exact ML_41 (by assumption) | exact ML_42 (by assumption) | exact ML_43 (by assumption) | exact ML_44 (by assumption) | exact ML_45 (by assumption) | rfl) ?_
              refine V_iloadn3 dX10_looks_46 ?_
              refine U_iald dX10_looks_47 (by with_reducible rfl) (by first | assumption | rfl) (by first | decide | omega) (by omega) (by first | assumption | exact ML_4 (by assumption) | exact ML_5 (by assumption) | exact ML_6 (by assumption) | exact ML_7 (by assumption) | exact ML_8 (by assumption) | exact ML_9 (by assumption) | exact ML_10 (by assumption) | exact ML_11 (by assumption) | exact ML_12 (by assumption) | exact ML_13 (by assumption) | exact ML_15 (by assumption) | exact ML_16 (by assumption) | exact ML_17 (by assumption) | exact ML_20 (by assumption) | exact ML_23 (by assumption) | exact ML_24 (by assumption) | exact ML_30 (by assumption) | exact ML_31 (by assumption) | exact ML_32 (by assumption) | exact ML_33 (by assumption) | exact ML_35 (by assumption) | exact ML_36 (by assumption) | exact ML_37 (by assumption) | exact ML_38 (by assumption) | exact ML_41 (by assumption) | exact ML_42 (by assumption) | exact ML_43 (by assumption) | exact ML_44 (by assumption) | exact ML_45 (by assumption) | rfl) ?_
              refine V_iloadn1 dX10_looks_48 ?_
              first | refine U_icmp_ne (tgt := 62) dX10_looks_49 (by decide) (by with_reducible rfl) (by with_reducible rfl) (by omega) (by omega) (fun c49 => ?_) (fun c49 => ?_) | refine V_icmp_ne (tgt := 62) dX10_looks_49 (by decide) (fun c49 => ?_) (fun c49 => ?_)
              · skip
                exact absurd e2 c49
              · skip
                refine V_iloadn2 dX10_looks_52 ?_
                first | refine U_if_le (tgt := 62) dX10_looks_53 (by decide) (by with_reducible rfl) (by omega) (fun c53 => ?_) (fun c53 => ?_) | refine V_if_le (tgt := 62) dX10_looks_53 (by decide) (fun c53 => ?_) (fun c53 => ?_)
                · skip
                  refine V_aloadn0 dX10_looks_62 ?_
                  refine V_getR dX10_looks_63 fX10_47 (by first | assumption | rfl) (by first | decide | omega) (by first | assumption | exact ML_4 (by assumption) | exact ML_5 (by assumption) | exact ML_6 (by assumption) | exact ML_7 (by assumption) | exact ML_8 (by assumption) | exact ML_9 (by assumption) | exact ML_10 (by assumption) | exact ML_11 (by assumption) | exact ML_12 (by assumption) | exact ML_13 (by assumption) | exact ML_15 (by assumption) | exact ML_16 (by assumption) | exact ML_17 (by assumption) | exact ML_20 (by assumption) | exact ML_23 (by assumption) | exact ML_24 (by assumption) | exact ML_30 (by assumption) | exact ML_31 (by assumption) | exact ML_32 (by assumption) | exact ML_33 (by assumption) | exact ML_35 (by assumption) | exact ML_36 (by assumption) | exact ML_37 (by assumption) | exact ML_38 (by assumption) | exact ML_41 (by assumption) | exact ML_42 (by assumption) | exact ML_43 (by assumption) | exact ML_44 (by assumption) | exact ML_45 (by assumption) | rfl) ?_
                  refine V_iloadn3 dX10_looks_66 ?_
                  refine U_iald dX10_looks_67 (by with_reducible rfl) (by first | assumption | rfl) (by first | decide | omega) (by omega) (by first | assumption | exact ML_4 (by assumption) | exact ML_5 (by assumption) | exact ML_6 (by assumption) | exact ML_7 (by assumption) | exact ML_8 (by assumption) | exact ML_9 (by assumption) | exact ML_10 (by assumption) | exact ML_11 (by assumption) | exact ML_12 (by assumption) | exact ML_13 (by assumption) | exact ML_15 (by assumption) | exact ML_16 (by assumption) | exact ML_17 (by assumption) | exact ML_20 (by assumption) | exact ML_23 (by assumption) | exact ML_24 (by assumption) | exact ML_30 (by assumption) | exact ML_31 (by assumption) | exact ML_32 (by assumption) | exact ML_33 (by assumption) | exact ML_35 (by assumption) | exact ML_36 (by assumption) | exact ML_37 (by assumption) | exact ML_38 (by assumption) | exact ML_41 (by assumption) | exact ML_42 (by assumption) | exact ML_43 (by assumption) | exact ML_44 (by assumption) | exact ML_45 (by assumption) | rfl) ?_
                  refine V_iloadn1 dX10_looks_68 ?_
                  first | refine U_icmp_ne (tgt := 87) dX10_looks_69 (by decide) (by with_reducible rfl) (by with_reducible rfl) (by omega) (by omega) (fun c69 => ?_) (fun c69 => ?_) | refine V_icmp_ne (tgt := 87) dX10_looks_69 (by decide) (fun c69 => ?_) (fun c69 => ?_)
                  · skip
                    exact absurd e2 c69
                  · skip
                    refine V_aloadn0 dX10_looks_72 ?_
                    first | refine V_dupa dX10_looks_73 ?_ | refine V_dupi dX10_looks_73 ?_
                    refine V_getI dX10_looks_74 fX10_158 (Or.inl rfl) (by first | assumption | rfl) (by first | decide | omega) (by first | assumption | exact ML_4 (by assumption) | exact ML_5 (by assumption) | exact ML_6 (by assumption) | exact ML_7 (by assumption) | exact ML_8 (by assumption) | exact ML_9 (by assumption) | exact ML_10 (by assumption) | exact ML_11 (by assumption) | exact ML_12 (by assumption) | exact ML_13 (by assumption) | exact ML_15 (by assumption) | exact ML_16 (by assumption) | exact ML_17 (by assumption) | exact ML_20 (by assumption) | exact ML_23 (by assumption) | exact ML_24 (by assumption) | exact ML_30 (by assumption) | exact ML_31 (by assumption) | exact ML_32 (by assumption) | exact ML_33 (by assumption) | exact ML_35 (by assumption) | exact ML_36 (by assumption) | exact ML_37 (by assumption) | exact ML_38 (by assumption) | exact ML_41 (by assumption) | exact ML_42 (by assumption) | exact ML_43 (by assumption) | exact ML_44 (by assumption) | exact ML_45 (by assumption) | rfl) ?_
                    refine V_iconst (v := nI 1) dX10_looks_77 (by decide) ?_
                    first | refine U_iadd dX10_looks_78 (by with_reducible rfl) (by with_reducible rfl) ?_ | refine V_iadd dX10_looks_78 ?_
                    refine V_putI dX10_looks_79 fX10_158 (by first | assumption | rfl) (by first | decide | omega) ?_
                    refine V_aloadn0 dX10_looks_82 ?_
                    refine V_iloadn3 dX10_looks_83 ?_
                    refine V_putI dX10_looks_84 fX10_161 (by first | assumption | rfl) (by first | decide | omega) ?_
                    refine nxt _ o (by show (lkF w i k).1 = o; omega) (fun j hj => by omega) ?_ (fun q => ?_) ?_ (frk_sI (frk_sI hF (by omega)) (by omega))
                    · rw [gI_sI, if_neg (by omega), gI_sI, if_pos ⟨rfl, rfl⟩]
                    · rw [gI_sI, if_pos ⟨rfl, rfl⟩]; rfl
                    · funext b
                      rw [gI_sI, if_neg (by omega), gI_sI, if_neg (by omega), h105]
                · skip
                  omega
            · skip
              exact absurd c26 e1
      · rw [s4 e1 e2, t3 e1 e2] at nxt
        refine V_iloadn3 dX10_looks_9 ?_
        refine V_aloadn0 dX10_looks_10 ?_
        refine V_getI dX10_looks_11 fX10_111 (Or.inl rfl) (by first | assumption | rfl) (by first | decide | omega) (by first | assumption | exact ML_4 (by assumption) | exact ML_5 (by assumption) | exact ML_6 (by assumption) | exact ML_7 (by assumption) | exact ML_8 (by assumption) | exact ML_9 (by assumption) | exact ML_10 (by assumption) | exact ML_11 (by assumption) | exact ML_12 (by assumption) | exact ML_13 (by assumption) | exact ML_15 (by assumption) | exact ML_16 (by assumption) | exact ML_17 (by assumption) | exact ML_20 (by assumption) | exact ML_23 (by assumption) | exact ML_24 (by assumption) | exact ML_30 (by assumption) | exact ML_31 (by assumption) | exact ML_32 (by assumption) | exact ML_33 (by assumption) | exact ML_35 (by assumption) | exact ML_36 (by assumption) | exact ML_37 (by assumption) | exact ML_38 (by assumption) | exact ML_41 (by assumption) | exact ML_42 (by assumption) | exact ML_43 (by assumption) | exact ML_44 (by assumption) | exact ML_45 (by assumption) | rfl) ?_
        first | refine U_icmp_ge (tgt := 93) dX10_looks_14 (by decide) (by with_reducible rfl) (by with_reducible rfl) (by omega) (by omega) (fun c14 => ?_) (fun c14 => ?_) | refine V_icmp_ge (tgt := 93) dX10_looks_14 (by decide) (fun c14 => ?_) (fun c14 => ?_)
        · skip
          omega
        · skip
          refine V_aloadn0 dX10_looks_17 ?_
          refine V_getR dX10_looks_18 fX10_47 (by first | assumption | rfl) (by first | decide | omega) (by first | assumption | exact ML_4 (by assumption) | exact ML_5 (by assumption) | exact ML_6 (by assumption) | exact ML_7 (by assumption) | exact ML_8 (by assumption) | exact ML_9 (by assumption) | exact ML_10 (by assumption) | exact ML_11 (by assumption) | exact ML_12 (by assumption) | exact ML_13 (by assumption) | exact ML_15 (by assumption) | exact ML_16 (by assumption) | exact ML_17 (by assumption) | exact ML_20 (by assumption) | exact ML_23 (by assumption) | exact ML_24 (by assumption) | exact ML_30 (by assumption) | exact ML_31 (by assumption) | exact ML_32 (by assumption) | exact ML_33 (by assumption) | exact ML_35 (by assumption) | exact ML_36 (by assumption) | exact ML_37 (by assumption) | exact ML_38 (by assumption) | exact ML_41 (by assumption) | exact ML_42 (by assumption) | exact ML_43 (by assumption) | exact ML_44 (by assumption) | exact ML_45 (by assumption) | rfl) ?_
          refine V_iloadn3 dX10_looks_21 ?_
          refine U_iald dX10_looks_22 (by with_reducible rfl) (by first | assumption | rfl) (by first | decide | omega) (by omega) (by first | assumption | exact ML_4 (by assumption) | exact ML_5 (by assumption) | exact ML_6 (by assumption) | exact ML_7 (by assumption) | exact ML_8 (by assumption) | exact ML_9 (by assumption) | exact ML_10 (by assumption) | exact ML_11 (by assumption) | exact ML_12 (by assumption) | exact ML_13 (by assumption) | exact ML_15 (by assumption) | exact ML_16 (by assumption) | exact ML_17 (by assumption) | exact ML_20 (by assumption) | exact ML_23 (by assumption) | exact ML_24 (by assumption) | exact ML_30 (by assumption) | exact ML_31 (by assumption) | exact ML_32 (by assumption) | exact ML_33 (by assumption) | exact ML_35 (by assumption) | exact ML_36 (by assumption) | exact ML_37 (by assumption) | exact ML_38 (by assumption) | exact ML_41 (by assumption) | exact ML_42 (by assumption) | exact ML_43 (by assumption) | exact ML_44 (by assumption) | exact ML_45 (by assumption) | rfl) ?_
          refine V_iloadn1 dX10_looks_23 ?_
          refine V_iconst (v := nI 1) dX10_looks_24 (by decide) ?_
          first | refine U_iadd dX10_looks_25 (by with_reducible rfl) (by with_reducible rfl) ?_ | refine V_iadd dX10_looks_25 ?_
          first | refine U_icmp_ne (tgt := 42) dX10_looks_26 (by decide) (by with_reducible rfl) (by with_reducible rfl) (by omega) (by omega) (fun c26 => ?_) (fun c26 => ?_) | refine V_icmp_ne (tgt := 42) dX10_looks_26 (by decide) (fun c26 => ?_) (fun c26 => ?_)
          · skip
            refine V_aloadn0 dX10_looks_42 ?_
            refine V_getR dX10_looks_43 fX10_47 (by first | assumption | rfl) (by first | decide | omega) (by first | assumption | exact ML_4 (by assumption) | exact ML_5 (by assumption) | exact ML_6 (by assumption) | exact ML_7 (by assumption) | exact ML_8 (by assumption) | exact ML_9 (by assumption) | exact ML_10 (by assumption) | exact ML_11 (by assumption) | exact ML_12 (by assumption) | exact ML_13 (by assumption) | exact ML_15 (by assumption) | exact ML_16 (by assumption) | exact ML_17 (by assumption) | exact ML_20 (by assumption) | exact ML_23 (by assumption) | exact ML_24 (by assumption) | exact ML_30 (by assumption) | exact ML_31 (by assumption) | exact ML_32 (by assumption) | exact ML_33 (by assumption) | exact ML_35 (by assumption) | exact ML_36 (by assumption) | exact ML_37 (by assumption) | exact ML_38 (by assumption) | exact ML_41 (by assumption) | exact ML_42 (by assumption) | exact ML_43 (by assumption) | exact ML_44 (by assumption) | exact ML_45 (by assumption) | rfl) ?_
            refine V_iloadn3 dX10_looks_46 ?_
            refine U_iald dX10_looks_47 (by with_reducible rfl) (by first | assumption | rfl) (by first | decide | omega) (by omega) (by first | assumption | exact ML_4 (by assumption) | exact ML_5 (by assumption) | exact ML_6 (by assumption) | exact ML_7 (by assumption) | exact ML_8 (by assumption) | exact ML_9 (by assumption) | exact ML_10 (by assumption) | exact ML_11 (by assumption) | exact ML_12 (by assumption) | exact ML_13 (by assumption) | exact ML_15 (by assumption) | exact ML_16 (by assumption) | exact ML_17 (by assumption) | exact ML_20 (by assumption) | exact ML_23 (by assumption) | exact ML_24 (by assumption) | exact ML_30 (by assumption) | exact ML_31 (by assumption) | exact ML_32 (by assumption) | exact ML_33 (by assumption) | exact ML_35 (by assumption) | exact ML_36 (by assumption) | exact ML_37 (by assumption) | exact ML_38 (by assumption) | exact ML_41 (by assumption) | exact ML_42 (by assumption) | exact ML_43 (by assumption) | exact ML_44 (by assumption) | exact ML_45 (by assumption) | rfl) ?_
            refine V_iloadn1 dX10_looks_48 ?_
            first | refine U_icmp_ne (tgt := 62) dX10_looks_49 (by decide) (by with_reducible rfl) (by with_reducible rfl) (by omega) (by omega) (fun c49 => ?_) (fun c49 => ?_) | refine V_icmp_ne (tgt := 62) dX10_looks_49 (by decide) (fun c49 => ?_) (fun c49 => ?_)
            · skip
              refine V_aloadn0 dX10_looks_62 ?_
              refine V_getR dX10_looks_63 fX10_47 (by first | assumption | rfl) (by first | decide | omega) (by first | assumption | exact ML_4 (by assumption) | exact ML_5 (by assumption) | exact ML_6 (by assumption) | exact ML_7 (by assumption) | exact ML_8 (by assumption) | exact ML_9 (by assumption) | exact ML_10 (by assumption) | exact ML_11 (by assumption) | exact ML_12 (by assumption) | exact ML_13 (by assumption) | exact ML_15 (by assumption) | exact ML_16 (by assumption) | exact ML_17 (by assumption) | exact ML_20 (by assumption) | exact ML_23 (by assumption) | exact ML_24 (by assumption) | exact ML_30 (by assumption) | exact ML_31 (by assumption) | exact ML_32 (by assumption) | exact ML_33 (by assumption) | exact ML_35 (by assumption) | exact ML_36 (by assumption) | exact ML_37 (by assumption) | exact ML_38 (by assumption) | exact ML_41 (by assumption) | exact ML_42 (by assumption) | exact ML_43 (by assumption) | exact ML_44 (by assumption) | exact ML_45 (by assumption) | rfl) ?_
              refine V_iloadn3 dX10_looks_66 ?_
              refine U_iald dX10_looks_67 (by with_reducible rfl) (by first | assumption | rfl) (by first | decide | omega) (by omega) (by first | assumption | exact ML_4 (by assumption) | exact ML_5 (by assumption) | exact ML_6 (by assumption) | exact ML_7 (by assumption) | exact ML_8 (by assumption) | exact ML_9 (by assumption) | exact ML_10 (by assumption) | exact ML_11 (by assumption) | exact ML_12 (by assumption) | exact ML_13 (by assumption) | exact ML_15 (by assumption) | exact ML_16 (by assumption) | exact ML_17 (by assumption) | exact ML_20 (by assumption) | exact ML_23 (by assumption) | exact ML_24 (by assumption) | exact ML_30 (by assumption) | exact ML_31 (by assumption) | exact ML_32 (by assumption) | exact ML_33 (by assumption) | exact ML_35 (by assumption) | exact ML_36 (by assumption) | exact ML_37 (by assumption) | exact ML_38 (by assumption) | exact ML_41 (by assumption) | exact ML_42 (by assumption) | exact ML_43 (by assumption) | exact ML_44 (by assumption) | exact ML_45 (by assumption) | rfl) ?_
              refine V_iloadn1 dX10_looks_68 ?_
              first | refine U_icmp_ne (tgt := 87) dX10_looks_69 (by decide) (by with_reducible rfl) (by with_reducible rfl) (by omega) (by omega) (fun c69 => ?_) (fun c69 => ?_) | refine V_icmp_ne (tgt := 87) dX10_looks_69 (by decide) (fun c69 => ?_) (fun c69 => ?_)
              · skip
                exact nxt h1 o ho hst hlow hll h105 hF
              · skip
                exact absurd c69 e2
            · skip
              exact absurd c49 e2
          · skip
            exact absurd c26 e1
  refine V_iconst (v := nI 0) dX10_looks_0 (by decide) ?_
  refine V_istoren2 dX10_looks_1 (by decide) rfl ?_
  refine V_aloadn0 dX10_looks_2 ?_
  refine V_iconst (v := nI 0) dX10_looks_3 (by decide) ?_
  refine V_putI dX10_looks_4 fX10_158 (by first | assumption | rfl) (by first | decide | omega) ?_
  refine V_iconst (v := nI 0) dX10_looks_7 (by decide) ?_
  refine V_istoren3 dX10_looks_8 (by decide) rfl ?_
  exact loop _ 0 0 _ (Nat.zero_add _) rfl (fun j hj => absurd hj (Nat.not_lt_zero _)) (by rw [gI_sI, if_pos ⟨rfl, rfl⟩]; rfl) (fun q => absurd rfl q) (by funext b; rw [gI_sI, if_neg (by omega)]) (frk_sI FrK.rf (by omega))
theorem WW_set {h h1 : gH} {w : List Nat} {p x : Nat} (hW : WW h w) (e18 : gI h1 94 18 = gI h 94 18) (e105 : gI h1 105 = gI h 105) (hp : p < w.length) (hx : x ≤ 9) : WW (sI h1 105 p (nI x)) (w.set p x) := by
  obtain ⟨w0, w1, w6, w9⟩ := hW
  refine ⟨by rw [gI_sI, if_neg (by omega), e18, List.length_set]; exact w0, fun k hk => ?_, by rw [List.length_set]; exact w6, fun k => ?_⟩
  · rw [List.length_set] at hk
    rw [gI_sI, getD_set_nat hp]
    by_cases e : k = p
    · rw [if_pos ⟨rfl, e⟩, if_pos e]
    · rw [if_neg (fun q => e q.2), if_neg e, e105]; exact w1 k hk
  · rw [getD_set_nat hp]
    split
    · exact hx
    · exact w9 k
theorem WW_cg {h h1 : gH} {w : List Nat} (hW : WW h w) (e18 : gI h1 94 18 = gI h 94 18) (e105 : gI h1 105 = gI h 105) : WW h1 w := ⟨by rw [e18]; exact hW.1, fun k hk => by rw [e105]; exact hW.2.1 k hk, hW.2.2⟩
set_option maxRecDepth 100000 in
set_option maxHeartbeats 4000000 in
theorem m_raises {i : Nat} {w : List Nat} (hd : 1 ≤ d) (hM : MLay h) (hW : WW h w) (hi : 1 ≤ i) (hi8 : i ≤ 8) (hQ : ∀ h', WW h' (raiseW w i) → FrK h h' → Q (some (.int (gBo (decide (fhC w i ≠ 0))))) h') : V Γ mX10_raises d 124 124 h 0 [some (.ref 94), some (.int (nI i))] [] Q := by
  have hfz := fhC_z w i
  have hle := fhC_le w i
  have hhl := highC_le w i
  have w6 := hW.2.2.1
  by_cases hz : fhC w i = 0
  · have e : raiseW w i = w := by unfold raiseW; rw [if_pos hz]
    rw [e, decide_eq_false (fun q => q hz)] at hQ
    have hh0 := hfz.mpr hz
    refine V_aloadn0 dX10_raises_0 ?_
    refine V_iloadn1 dX10_raises_1 ?_
    refine V_callV1 (μ' := mX10_looks) dX10_raises_2 okX10_looks lX10_170 rfl (by first | assumption | rfl) (by first | decide | omega) (Nat.le_of_ble_eq_true rfl) (Nat.le_of_ble_eq_true rfl) (by omega) ?_
    refine m_looks hM hW hi hi8 (fun h1 z25 z26 z27 z28 z105 hF1 => ?_)
    have hM1 := MLay_eq hM hF1.2.2.2
    have hQ9 := hQ h1 (WW_cg hW (hF1.2.1 18 (by omega)) z105) hF1
    dsimp only [gPush]
    refine V_aloadn0 dX10_raises_5 ?_
    refine V_getI dX10_raises_6 fX10_164 (Or.inl rfl) (by first | assumption | rfl) (by first | decide | omega) (by first | assumption | exact ML_4 (by assumption) | exact ML_5 (by assumption) | exact ML_6 (by assumption) | exact ML_7 (by assumption) | exact ML_8 (by assumption) | exact ML_9 (by assumption) | exact ML_10 (by assumption) | exact ML_11 (by assumption) | exact ML_12 (by assumption) | exact ML_13 (by assumption) | exact ML_15 (by assumption) | exact ML_16 (by assumption) | exact ML_17 (by assumption) | exact ML_20 (by assumption) | exact ML_23 (by assumption) | exact ML_24 (by assumption) | exact ML_30 (by assumption) | exact ML_31 (by assumption) | exact ML_32 (by assumption) | exact ML_33 (by assumption) | exact ML_35 (by assumption) | exact ML_36 (by assumption) | exact ML_37 (by assumption) | exact ML_38 (by assumption) | exact ML_41 (by assumption) | exact ML_42 (by assumption) | exact ML_43 (by assumption) | exact ML_44 (by assumption) | exact ML_45 (by assumption) | rfl) ?_
    first | refine U_if_le (tgt := 22) dX10_raises_9 (by decide) (by with_reducible rfl) (by omega) (fun c9 => ?_) (fun c9 => ?_) | refine V_if_le (tgt := 22) dX10_raises_9 (by decide) (fun c9 => ?_) (fun c9 => ?_)
    · skip
      refine V_aloadn0 dX10_raises_22 ?_
      refine V_getI dX10_raises_23 fX10_164 (Or.inl rfl) (by first | assumption | rfl) (by first | decide | omega) (by first | assumption | exact ML_4 (by assumption) | exact ML_5 (by assumption) | exact ML_6 (by assumption) | exact ML_7 (by assumption) | exact ML_8 (by assumption) | exact ML_9 (by assumption) | exact ML_10 (by assumption) | exact ML_11 (by assumption) | exact ML_12 (by assumption) | exact ML_13 (by assumption) | exact ML_15 (by assumption) | exact ML_16 (by assumption) | exact ML_17 (by assumption) | exact ML_20 (by assumption) | exact ML_23 (by assumption) | exact ML_24 (by assumption) | exact ML_30 (by assumption) | exact ML_31 (by assumption) | exact ML_32 (by assumption) | exact ML_33 (by assumption) | exact ML_35 (by assumption) | exact ML_36 (by assumption) | exact ML_37 (by assumption) | exact ML_38 (by assumption) | exact ML_41 (by assumption) | exact ML_42 (by assumption) | exact ML_43 (by assumption) | exact ML_44 (by assumption) | exact ML_45 (by assumption) | rfl) ?_
      first | refine U_if_le (tgt := 33) dX10_raises_26 (by decide) (by with_reducible rfl) (by omega) (fun c26 => ?_) (fun c26 => ?_) | refine V_if_le (tgt := 33) dX10_raises_26 (by decide) (fun c26 => ?_) (fun c26 => ?_)
      · skip
        refine V_iconst (v := nI 0) dX10_raises_33 (by decide) ?_
        refine V_iret dX10_raises_34 rfl (by first | exact gBo_nar _ | rfl | decide) ?_
        exact hQ9
      · skip
        omega
    · skip
      omega
  · have e : raiseW w i = w.set (fhC w i - 1) (i) := by unfold raiseW; rw [if_neg hz]
    rw [e, decide_eq_true hz] at hQ
    have hh0 : highC w i ≠ 0 := fun q => hz (hfz.mp q)
    refine V_aloadn0 dX10_raises_0 ?_
    refine V_iloadn1 dX10_raises_1 ?_
    refine V_callV1 (μ' := mX10_looks) dX10_raises_2 okX10_looks lX10_170 rfl (by first | assumption | rfl) (by first | decide | omega) (Nat.le_of_ble_eq_true rfl) (Nat.le_of_ble_eq_true rfl) (by omega) ?_
    refine m_looks hM hW hi hi8 (fun h1 z25 z26 z27 z28 z105 hF1 => ?_)
    have hM1 := MLay_eq hM hF1.2.2.2
    have f28 := z28 hz
    have hQ9 := hQ _ (WW_set hW (hF1.2.1 18 (by omega)) z105 (p := fhC w i - 1) (x := i) (by omega) (by omega)) (frk_sI hF1 (by omega))
    have g26 : gI (sI h1 105 (fhC w i - 1) (nI (i))) 94 26 = nI (highC w i) := by rw [gI_sI, if_neg (by omega)]; exact z26
    dsimp only [gPush]
    refine V_aloadn0 dX10_raises_5 ?_
    refine V_getI dX10_raises_6 fX10_164 (Or.inl rfl) (by first | assumption | rfl) (by first | decide | omega) (by first | assumption | exact ML_4 (by assumption) | exact ML_5 (by assumption) | exact ML_6 (by assumption) | exact ML_7 (by assumption) | exact ML_8 (by assumption) | exact ML_9 (by assumption) | exact ML_10 (by assumption) | exact ML_11 (by assumption) | exact ML_12 (by assumption) | exact ML_13 (by assumption) | exact ML_15 (by assumption) | exact ML_16 (by assumption) | exact ML_17 (by assumption) | exact ML_20 (by assumption) | exact ML_23 (by assumption) | exact ML_24 (by assumption) | exact ML_30 (by assumption) | exact ML_31 (by assumption) | exact ML_32 (by assumption) | exact ML_33 (by assumption) | exact ML_35 (by assumption) | exact ML_36 (by assumption) | exact ML_37 (by assumption) | exact ML_38 (by assumption) | exact ML_41 (by assumption) | exact ML_42 (by assumption) | exact ML_43 (by assumption) | exact ML_44 (by assumption) | exact ML_45 (by assumption) | rfl) ?_
    first | refine U_if_le (tgt := 22) dX10_raises_9 (by decide) (by with_reducible rfl) (by omega) (fun c9 => ?_) (fun c9 => ?_) | refine V_if_le (tgt := 22) dX10_raises_9 (by decide) (fun c9 => ?_) (fun c9 => ?_)
    · skip
      omega
    · skip
      refine V_aloadn0 dX10_raises_12 ?_
      refine V_getR dX10_raises_13 fX10_47 (by first | assumption | rfl) (by first | decide | omega) (by first | assumption | exact ML_4 (by assumption) | exact ML_5 (by assumption) | exact ML_6 (by assumption) | exact ML_7 (by assumption) | exact ML_8 (by assumption) | exact ML_9 (by assumption) | exact ML_10 (by assumption) | exact ML_11 (by assumption) | exact ML_12 (by assumption) | exact ML_13 (by assumption) | exact ML_15 (by assumption) | exact ML_16 (by assumption) | exact ML_17 (by assumption) | exact ML_20 (by assumption) | exact ML_23 (by assumption) | exact ML_24 (by assumption) | exact ML_30 (by assumption) | exact ML_31 (by assumption) | exact ML_32 (by assumption) | exact ML_33 (by assumption) | exact ML_35 (by assumption) | exact ML_36 (by assumption) | exact ML_37 (by assumption) | exact ML_38 (by assumption) | exact ML_41 (by assumption) | exact ML_42 (by assumption) | exact ML_43 (by assumption) | exact ML_44 (by assumption) | exact ML_45 (by assumption) | rfl) ?_
      refine V_aloadn0 dX10_raises_16 ?_
      refine V_getI dX10_raises_17 fX10_167 (Or.inl rfl) (by first | assumption | rfl) (by first | decide | omega) (by first | assumption | exact ML_4 (by assumption) | exact ML_5 (by assumption) | exact ML_6 (by assumption) | exact ML_7 (by assumption) | exact ML_8 (by assumption) | exact ML_9 (by assumption) | exact ML_10 (by assumption) | exact ML_11 (by assumption) | exact ML_12 (by assumption) | exact ML_13 (by assumption) | exact ML_15 (by assumption) | exact ML_16 (by assumption) | exact ML_17 (by assumption) | exact ML_20 (by assumption) | exact ML_23 (by assumption) | exact ML_24 (by assumption) | exact ML_30 (by assumption) | exact ML_31 (by assumption) | exact ML_32 (by assumption) | exact ML_33 (by assumption) | exact ML_35 (by assumption) | exact ML_36 (by assumption) | exact ML_37 (by assumption) | exact ML_38 (by assumption) | exact ML_41 (by assumption) | exact ML_42 (by assumption) | exact ML_43 (by assumption) | exact ML_44 (by assumption) | exact ML_45 (by assumption) | rfl) ?_
      refine V_iloadn1 dX10_raises_20 ?_
      refine U_iast dX10_raises_21 (by with_reducible rfl) (by first | assumption | rfl) (by first | decide | omega) (by omega) ?_
      refine V_aloadn0 dX10_raises_22 ?_
      refine V_getI dX10_raises_23 fX10_164 (Or.inl rfl) (by first | assumption | rfl) (by first | decide | omega) (by first | assumption | exact ML_4 (by assumption) | exact ML_5 (by assumption) | exact ML_6 (by assumption) | exact ML_7 (by assumption) | exact ML_8 (by assumption) | exact ML_9 (by assumption) | exact ML_10 (by assumption) | exact ML_11 (by assumption) | exact ML_12 (by assumption) | exact ML_13 (by assumption) | exact ML_15 (by assumption) | exact ML_16 (by assumption) | exact ML_17 (by assumption) | exact ML_20 (by assumption) | exact ML_23 (by assumption) | exact ML_24 (by assumption) | exact ML_30 (by assumption) | exact ML_31 (by assumption) | exact ML_32 (by assumption) | exact ML_33 (by assumption) | exact ML_35 (by assumption) | exact ML_36 (by assumption) | exact ML_37 (by assumption) | exact ML_38 (by assumption) | exact ML_41 (by assumption) | exact ML_42 (by assumption) | exact ML_43 (by assumption) | exact ML_44 (by assumption) | exact ML_45 (by assumption) | rfl) ?_
      first | refine U_if_le (tgt := 33) dX10_raises_26 (by decide) (by with_reducible rfl) (by omega) (fun c26 => ?_) (fun c26 => ?_) | refine V_if_le (tgt := 33) dX10_raises_26 (by decide) (fun c26 => ?_) (fun c26 => ?_)
      · skip
        omega
      · skip
        refine V_iconst (v := nI 1) dX10_raises_29 (by decide) ?_
        refine V_goto (tgt := 34) dX10_raises_30 (by decide) ?_
        refine V_iret dX10_raises_34 rfl (by first | exact gBo_nar _ | rfl | decide) ?_
        exact hQ9
set_option maxRecDepth 100000 in
set_option maxHeartbeats 4000000 in
theorem m_lowers {i : Nat} {w : List Nat} (hd : 1 ≤ d) (hM : MLay h) (hW : WW h w) (hi : 1 ≤ i) (hi8 : i ≤ 8) (hQ : ∀ h', WW h' (lowerW w i) → FrK h h' → Q (some (.int (gBo (decide (llC w i ≠ 0))))) h') : V Γ mX10_lowers d 124 124 h 0 [some (.ref 94), some (.int (nI i))] [] Q := by
  have hfz := llC_z w i
  have hle := llC_le w i
  have hhl := lowC_le w i
  have w6 := hW.2.2.1
  by_cases hz : llC w i = 0
  · have e : lowerW w i = w := by unfold lowerW; rw [if_pos hz]
    rw [e, decide_eq_false (fun q => q hz)] at hQ
    have hh0 := hfz.mpr hz
    refine V_aloadn0 dX10_lowers_0 ?_
    refine V_iloadn1 dX10_lowers_1 ?_
    refine V_callV1 (μ' := mX10_looks) dX10_lowers_2 okX10_looks lX10_170 rfl (by first | assumption | rfl) (by first | decide | omega) (Nat.le_of_ble_eq_true rfl) (Nat.le_of_ble_eq_true rfl) (by omega) ?_
    refine m_looks hM hW hi hi8 (fun h1 z25 z26 z27 z28 z105 hF1 => ?_)
    have hM1 := MLay_eq hM hF1.2.2.2
    have hQ9 := hQ h1 (WW_cg hW (hF1.2.1 18 (by omega)) z105) hF1
    dsimp only [gPush]
    refine V_aloadn0 dX10_lowers_5 ?_
    refine V_getI dX10_lowers_6 fX10_158 (Or.inl rfl) (by first | assumption | rfl) (by first | decide | omega) (by first | assumption | exact ML_4 (by assumption) | exact ML_5 (by assumption) | exact ML_6 (by assumption) | exact ML_7 (by assumption) | exact ML_8 (by assumption) | exact ML_9 (by assumption) | exact ML_10 (by assumption) | exact ML_11 (by assumption) | exact ML_12 (by assumption) | exact ML_13 (by assumption) | exact ML_15 (by assumption) | exact ML_16 (by assumption) | exact ML_17 (by assumption) | exact ML_20 (by assumption) | exact ML_23 (by assumption) | exact ML_24 (by assumption) | exact ML_30 (by assumption) | exact ML_31 (by assumption) | exact ML_32 (by assumption) | exact ML_33 (by assumption) | exact ML_35 (by assumption) | exact ML_36 (by assumption) | exact ML_37 (by assumption) | exact ML_38 (by assumption) | exact ML_41 (by assumption) | exact ML_42 (by assumption) | exact ML_43 (by assumption) | exact ML_44 (by assumption) | exact ML_45 (by assumption) | rfl) ?_
    first | refine U_if_le (tgt := 24) dX10_lowers_9 (by decide) (by with_reducible rfl) (by omega) (fun c9 => ?_) (fun c9 => ?_) | refine V_if_le (tgt := 24) dX10_lowers_9 (by decide) (fun c9 => ?_) (fun c9 => ?_)
    · skip
      refine V_aloadn0 dX10_lowers_24 ?_
      refine V_getI dX10_lowers_25 fX10_158 (Or.inl rfl) (by first | assumption | rfl) (by first | decide | omega) (by first | assumption | exact ML_4 (by assumption) | exact ML_5 (by assumption) | exact ML_6 (by assumption) | exact ML_7 (by assumption) | exact ML_8 (by assumption) | exact ML_9 (by assumption) | exact ML_10 (by assumption) | exact ML_11 (by assumption) | exact ML_12 (by assumption) | exact ML_13 (by assumption) | exact ML_15 (by assumption) | exact ML_16 (by assumption) | exact ML_17 (by assumption) | exact ML_20 (by assumption) | exact ML_23 (by assumption) | exact ML_24 (by assumption) | exact ML_30 (by assumption) | exact ML_31 (by assumption) | exact ML_32 (by assumption) | exact ML_33 (by assumption) | exact ML_35 (by assumption) | exact ML_36 (by assumption) | exact ML_37 (by assumption) | exact ML_38 (by assumption) | exact ML_41 (by assumption) | exact ML_42 (by assumption) | exact ML_43 (by assumption) | exact ML_44 (by assumption) | exact ML_45 (by assumption) | rfl) ?_
      first | refine U_if_le (tgt := 35) dX10_lowers_28 (by decide) (by with_reducible rfl) (by omega) (fun c28 => ?_) (fun c28 => ?_) | refine V_if_le (tgt := 35) dX10_lowers_28 (by decide) (fun c28 => ?_) (fun c28 => ?_)
      · skip
        refine V_iconst (v := nI 0) dX10_lowers_35 (by decide) ?_
        refine V_iret dX10_lowers_36 rfl (by first | exact gBo_nar _ | rfl | decide) ?_
        exact hQ9
      · skip
        omega
    · skip
      omega
  · have e : lowerW w i = w.set (llC w i - 1) (i + 1) := by unfold lowerW; rw [if_neg hz]
    rw [e, decide_eq_true hz] at hQ
    have hh0 : lowC w i ≠ 0 := fun q => hz (hfz.mp q)
    refine V_aloadn0 dX10_lowers_0 ?_
    refine V_iloadn1 dX10_lowers_1 ?_
    refine V_callV1 (μ' := mX10_looks) dX10_lowers_2 okX10_looks lX10_170 rfl (by first | assumption | rfl) (by first | decide | omega) (Nat.le_of_ble_eq_true rfl) (Nat.le_of_ble_eq_true rfl) (by omega) ?_
    refine m_looks hM hW hi hi8 (fun h1 z25 z26 z27 z28 z105 hF1 => ?_)
    have hM1 := MLay_eq hM hF1.2.2.2
    have f28 := z27 hz
    have hQ9 := hQ _ (WW_set hW (hF1.2.1 18 (by omega)) z105 (p := llC w i - 1) (x := i + 1) (by omega) (by omega)) (frk_sI hF1 (by omega))
    have g26 : gI (sI h1 105 (llC w i - 1) (nI (i + 1))) 94 25 = nI (lowC w i) := by rw [gI_sI, if_neg (by omega)]; exact z25
    dsimp only [gPush]
    refine V_aloadn0 dX10_lowers_5 ?_
    refine V_getI dX10_lowers_6 fX10_158 (Or.inl rfl) (by first | assumption | rfl) (by first | decide | omega) (by first | assumption | exact ML_4 (by assumption) | exact ML_5 (by assumption) | exact ML_6 (by assumption) | exact ML_7 (by assumption) | exact ML_8 (by assumption) | exact ML_9 (by assumption) | exact ML_10 (by assumption) | exact ML_11 (by assumption) | exact ML_12 (by assumption) | exact ML_13 (by assumption) | exact ML_15 (by assumption) | exact ML_16 (by assumption) | exact ML_17 (by assumption) | exact ML_20 (by assumption) | exact ML_23 (by assumption) | exact ML_24 (by assumption) | exact ML_30 (by assumption) | exact ML_31 (by assumption) | exact ML_32 (by assumption) | exact ML_33 (by assumption) | exact ML_35 (by assumption) | exact ML_36 (by assumption) | exact ML_37 (by assumption) | exact ML_38 (by assumption) | exact ML_41 (by assumption) | exact ML_42 (by assumption) | exact ML_43 (by assumption) | exact ML_44 (by assumption) | exact ML_45 (by assumption) | rfl) ?_
    first | refine U_if_le (tgt := 24) dX10_lowers_9 (by decide) (by with_reducible rfl) (by omega) (fun c9 => ?_) (fun c9 => ?_) | refine V_if_le (tgt := 24) dX10_lowers_9 (by decide) (fun c9 => ?_) (fun c9 => ?_)
    · skip
      omega
    · skip
      refine V_aloadn0 dX10_lowers_12 ?_
      refine V_getR dX10_lowers_13 fX10_47 (by first | assumption | rfl) (by first | decide | omega) (by first | assumption | exact ML_4 (by assumption) | exact ML_5 (by assumption) | exact ML_6 (by assumption) | exact ML_7 (by assumption) | exact ML_8 (by assumption) | exact ML_9 (by assumption) | exact ML_10 (by assumption) | exact ML_11 (by assumption) | exact ML_12 (by assumption) | exact ML_13 (by assumption) | exact ML_15 (by assumption) | exact ML_16 (by assumption) | exact ML_17 (by assumption) | exact ML_20 (by assumption) | exact ML_23 (by assumption) | exact ML_24 (by assumption) | exact ML_30 (by assumption) | exact ML_31 (by assumption) | exact ML_32 (by assumption) | exact ML_33 (by assumption) | exact ML_35 (by assumption) | exact ML_36 (by assumption) | exact ML_37 (by assumption) | exact ML_38 (by assumption) | exact ML_41 (by assumption) | exact ML_42 (by assumption) | exact ML_43 (by assumption) | exact ML_44 (by assumption) | exact ML_45 (by assumption) | rfl) ?_
      refine V_aloadn0 dX10_lowers_16 ?_
      refine V_getI dX10_lowers_17 fX10_161 (Or.inl rfl) (by first | assumption | rfl) (by first | decide | omega) (by first | assumption | exact ML_4 (by assumption) | exact ML_5 (by assumption) | exact ML_6 (by assumption) | exact ML_7 (by assumption) | exact ML_8 (by assumption) | exact ML_9 (by assumption) | exact ML_10 (by assumption) | exact ML_11 (by assumption) | exact ML_12 (by assumption) | exact ML_13 (by assumption) | exact ML_15 (by assumption) | exact ML_16 (by assumption) | exact ML_17 (by assumption) | exact ML_20 (by assumption) | exact ML_23 (by assumption) | exact ML_24 (by assumption) | exact ML_30 (by assumption) | exact ML_31 (by assumption) | exact ML_32 (by assumption) | exact ML_33 (by assumption) | exact ML_35 (by assumption) | exact ML_36 (by assumption) | exact ML_37 (by assumption) | exact ML_38 (by assumption) | exact ML_41 (by assumption) | exact ML_42 (by assumption) | exact ML_43 (by assumption) | exact ML_44 (by assumption) | exact ML_45 (by assumption) | rfl) ?_
      refine V_iloadn1 dX10_lowers_20 ?_
      refine V_iconst (v := nI 1) dX10_lowers_21 (by decide) ?_
      first | refine U_iadd dX10_lowers_22 (by with_reducible rfl) (by with_reducible rfl) ?_ | refine V_iadd dX10_lowers_22 ?_
      refine U_iast dX10_lowers_23 (by with_reducible rfl) (by first | assumption | rfl) (by first | decide | omega) (by omega) ?_
      refine V_aloadn0 dX10_lowers_24 ?_
      refine V_getI dX10_lowers_25 fX10_158 (Or.inl rfl) (by first | assumption | rfl) (by first | decide | omega) (by first | assumption | exact ML_4 (by assumption) | exact ML_5 (by assumption) | exact ML_6 (by assumption) | exact ML_7 (by assumption) | exact ML_8 (by assumption) | exact ML_9 (by assumption) | exact ML_10 (by assumption) | exact ML_11 (by assumption) | exact ML_12 (by assumption) | exact ML_13 (by assumption) | exact ML_15 (by assumption) | exact ML_16 (by assumption) | exact ML_17 (by assumption) | exact ML_20 (by assumption) | exact ML_23 (by assumption) | exact ML_24 (by assumption) | exact ML_30 (by assumption) | exact ML_31 (by assumption) | exact ML_32 (by assumption) | exact ML_33 (by assumption) | exact ML_35 (by assumption) | exact ML_36 (by assumption) | exact ML_37 (by assumption) | exact ML_38 (by assumption) | exact ML_41 (by assumption) | exact ML_42 (by assumption) | exact ML_43 (by assumption) | exact ML_44 (by assumption) | exact ML_45 (by assumption) | rfl) ?_
      first | refine U_if_le (tgt := 35) dX10_lowers_28 (by decide) (by with_reducible rfl) (by omega) (fun c28 => ?_) (fun c28 => ?_) | refine V_if_le (tgt := 35) dX10_lowers_28 (by decide) (fun c28 => ?_) (fun c28 => ?_)
      · skip
        omega
      · skip
        refine V_iconst (v := nI 1) dX10_lowers_31 (by decide) ?_
        refine V_goto (tgt := 36) dX10_lowers_32 (by decide) ?_
        refine V_iret dX10_lowers_36 rfl (by first | exact gBo_nar _ | rfl | decide) ?_
        exact hQ9

set_option maxRecDepth 100000 in
set_option maxHeartbeats 4000000 in
theorem m_signs {x i y : Int32} (hd : 2 ≤ d) (hR : RM h S) (hWG : WG S) (hQ : ∀ h', RM h' S → FrD h h' → Q (some (.int (g_signs S x i y))) h') : V Γ mX10_signs d 124 124 h 0 [some (.ref 94), some (.int x), some (.int i), some (.int y)] [] Q := by
  obtain ⟨hM, ⟨r0, r1, rT, rW⟩, rK, rK2, rB, rS⟩ := id hR
  obtain ⟨hWS, hWK, hWB, hWX⟩ := id hWG
  have hn2 := hWS.1
  have hn5 := hWS.2.1
  by_cases hg : (inB x 6 && (inS i S.1.1 && inR y 0 1)) = true
  · have hg2 := hg
    rw [Bool.and_eq_true, Bool.and_eq_true] at hg2
    obtain ⟨s, hs, rfl⟩ := inB_t (by decide) hg2.1
    obtain ⟨i', i1, i2, rfl⟩ := inS_t (by omega) hg2.2.1
    obtain ⟨k, k0, k4, rfl⟩ := inR_t (by decide) (by decide) hg2.2.2
    have hWT := hWS.2.2.1 s hs
    obtain ⟨t0, tz⟩ := rT s hs
    have kd2 := hWT.1
    have eS : tS S (nI s) = S.1.2.2.1 s := by unfold tS; rw [cN_nI (by omega)]
    have eq0 : g_signs S (nI s) (nI i') (nI k) = _ := if_t hg
    rw [eq0, eS, cN_nI (by omega)] at hQ
    refine V_iloadn1 dX10_signs_0 ?_
    refine V_callS1 (μ' := mX10_isSlot) dX10_signs_1 okX10_isSlot lX10_114 (Nat.le_of_ble_eq_true rfl) (Nat.le_of_ble_eq_true rfl) (by omega) ?_
    refine m_isSlot (by omega) ?_
    rw [hg2.1]
    dsimp only [gPush]
    first | refine U_ifB_eq (tgt := 24) dX10_signs_4 (by decide) (by with_reducible rfl) (fun c4 => ?_) (fun c4 => ?_) | refine U_if_eq (tgt := 24) dX10_signs_4 (by decide) (by with_reducible rfl) (by omega) (fun c4 => ?_) (fun c4 => ?_) | refine V_if_eq (tgt := 24) dX10_signs_4 (by decide) (fun c4 => ?_) (fun c4 => ?_)
    · skip
      cases c4
    · skip
      refine V_aloadn0 dX10_signs_7 ?_
      refine V_iloadn2 dX10_signs_8 ?_
      refine V_callV1 (μ' := mX10_isSign) dX10_signs_9 okX10_isSign lX10_173 rfl (by first | assumption | rfl) (by first | decide | omega) (Nat.le_of_ble_eq_true rfl) (Nat.le_of_ble_eq_true rfl) (by omega) ?_
      refine m_isSign (by omega) (by omega) hn5 r0 ?_
      rw [hg2.2.1]
      dsimp only [gPush]
      first | refine U_ifB_eq (tgt := 24) dX10_signs_12 (by decide) (by with_reducible rfl) (fun c12 => ?_) (fun c12 => ?_) | refine U_if_eq (tgt := 24) dX10_signs_12 (by decide) (by with_reducible rfl) (by omega) (fun c12 => ?_) (fun c12 => ?_) | refine V_if_eq (tgt := 24) dX10_signs_12 (by decide) (fun c12 => ?_) (fun c12 => ?_)
      · skip
        cases c12
      · skip
        refine V_iloadn3 dX10_signs_15 ?_
        refine V_iconst (v := nI 0) dX10_signs_16 (by decide) ?_
        refine V_iconst (v := nI 1) dX10_signs_17 (by decide) ?_
        refine V_callS3 (μ' := mX10_in) dX10_signs_18 okX10_in lX10_104 (Nat.le_of_ble_eq_true rfl) (Nat.le_of_ble_eq_true rfl) (by omega) ?_
        refine m_inR ?_
        rw [hg2.2.2]
        dsimp only [gPush]
        first | refine U_ifB_ne (tgt := 26) dX10_signs_21 (by decide) (by with_reducible rfl) (fun c21 => ?_) (fun c21 => ?_) | refine U_if_ne (tgt := 26) dX10_signs_21 (by decide) (by with_reducible rfl) (by omega) (fun c21 => ?_) (fun c21 => ?_) | refine V_if_ne (tgt := 26) dX10_signs_21 (by decide) (fun c21 => ?_) (fun c21 => ?_)
        · skip
          refine V_aloadn0 dX10_signs_26 ?_
          refine V_getR dX10_signs_27 fX10_16 (by first | assumption | rfl) (by first | decide | omega) (by first | assumption | exact ML_4 (by assumption) | exact ML_5 (by assumption) | exact ML_6 (by assumption) | exact ML_7 (by assumption) | exact ML_8 (by assumption) | exact ML_9 (by assumption) | exact ML_10 (by assumption) | exact ML_11 (by assumption) | exact ML_12 (by assumption) | exact ML_13 (by assumption) | exact ML_15 (by assumption) | exact ML_16 (by assumption) | exact ML_17 (by assumption) | exact ML_20 (by assumption) | exact ML_23 (by assumption) | exact ML_24 (by assumption) | exact ML_30 (by assumption) | exact ML_31 (by assumption) | exact ML_32 (by assumption) | exact ML_33 (by assumption) | exact ML_35 (by assumption) | exact ML_36 (by assumption) | exact ML_37 (by assumption) | exact ML_38 (by assumption) | exact ML_41 (by assumption) | exact ML_42 (by assumption) | exact ML_43 (by assumption) | exact ML_44 (by assumption) | exact ML_45 (by assumption) | rfl) ?_
          refine V_iloadn1 dX10_signs_30 ?_
          refine U_iald dX10_signs_31 (by with_reducible rfl) (by first | assumption | rfl) (by first | decide | omega) (by omega) (by first | assumption | exact ML_4 (by assumption) | exact ML_5 (by assumption) | exact ML_6 (by assumption) | exact ML_7 (by assumption) | exact ML_8 (by assumption) | exact ML_9 (by assumption) | exact ML_10 (by assumption) | exact ML_11 (by assumption) | exact ML_12 (by assumption) | exact ML_13 (by assumption) | exact ML_15 (by assumption) | exact ML_16 (by assumption) | exact ML_17 (by assumption) | exact ML_20 (by assumption) | exact ML_23 (by assumption) | exact ML_24 (by assumption) | exact ML_30 (by assumption) | exact ML_31 (by assumption) | exact ML_32 (by assumption) | exact ML_33 (by assumption) | exact ML_35 (by assumption) | exact ML_36 (by assumption) | exact ML_37 (by assumption) | exact ML_38 (by assumption) | exact ML_41 (by assumption) | exact ML_42 (by assumption) | exact ML_43 (by assumption) | exact ML_44 (by assumption) | exact ML_45 (by assumption) | rfl) ?_
          first | refine U_ifB_ne (tgt := 38) dX10_signs_32 (by decide) (by with_reducible rfl) (fun c32 => ?_) (fun c32 => ?_) | refine U_if_ne (tgt := 38) dX10_signs_32 (by decide) (by with_reducible rfl) (by omega) (fun c32 => ?_) (fun c32 => ?_) | refine V_if_ne (tgt := 38) dX10_signs_32 (by decide) (fun c32 => ?_) (fun c32 => ?_)
          · skip
            rw [if_neg c32] at hQ
            refine V_aloadn0 dX10_signs_38 ?_
            refine V_iloadn1 dX10_signs_39 ?_
            refine V_callV1 (μ' := mX10_takes) dX10_signs_40 okX10_takes lX10_146 rfl (by first | assumption | rfl) (by first | decide | omega) (Nat.le_of_ble_eq_true rfl) (Nat.le_of_ble_eq_true rfl) (by omega) ?_
            refine m_takes hs hR hWT hn5 c32 (fun h1 hk1 hW1 hL1 hR1 hF1 => ?_)
            have hM1 := hR1.1
            dsimp only [gPush]
            refine V_aloadn0 dX10_signs_43 ?_
            refine V_iloadn2 dX10_signs_44 ?_
            refine V_callV1 (μ' := mX10_looks) dX10_signs_45 okX10_looks lX10_170 rfl (by first | assumption | rfl) (by first | decide | omega) (Nat.le_of_ble_eq_true rfl) (Nat.le_of_ble_eq_true rfl) (by omega) ?_
            refine m_looks hM1 hW1 i1 (by omega) (fun h2 z25 z26 z27 z28 z105 hF2 => ?_)
            have hQ' := hQ h2 (RM_X hR1 hF2.X) (hF1.tr hF2.X).D
            dsimp only [gPush]
            refine V_iloadn3 dX10_signs_48 ?_
            first | refine U_ifB_ne (tgt := 59) dX10_signs_49 (by decide) (by with_reducible rfl) (fun c49 => ?_) (fun c49 => ?_) | refine U_if_ne (tgt := 59) dX10_signs_49 (by decide) (by with_reducible rfl) (by omega) (fun c49 => ?_) (fun c49 => ?_) | refine V_if_ne (tgt := 59) dX10_signs_49 (by decide) (fun c49 => ?_) (fun c49 => ?_)
            · skip
              rw [if_neg (fun q => c49 ((nI_eq (by omega) (by omega)).mp q))] at hQ'
              refine V_aloadn0 dX10_signs_59 ?_
              refine V_getI dX10_signs_60 fX10_164 (Or.inl rfl) (by first | assumption | rfl) (by first | decide | omega) (by first | assumption | exact ML_4 (by assumption) | exact ML_5 (by assumption) | exact ML_6 (by assumption) | exact ML_7 (by assumption) | exact ML_8 (by assumption) | exact ML_9 (by assumption) | exact ML_10 (by assumption) | exact ML_11 (by assumption) | exact ML_12 (by assumption) | exact ML_13 (by assumption) | exact ML_15 (by assumption) | exact ML_16 (by assumption) | exact ML_17 (by assumption) | exact ML_20 (by assumption) | exact ML_23 (by assumption) | exact ML_24 (by assumption) | exact ML_30 (by assumption) | exact ML_31 (by assumption) | exact ML_32 (by assumption) | exact ML_33 (by assumption) | exact ML_35 (by assumption) | exact ML_36 (by assumption) | exact ML_37 (by assumption) | exact ML_38 (by assumption) | exact ML_41 (by assumption) | exact ML_42 (by assumption) | exact ML_43 (by assumption) | exact ML_44 (by assumption) | exact ML_45 (by assumption) | rfl) ?_
              refine V_iret dX10_signs_63 rfl rfl ?_
              exact hQ'
            · skip
              rw [if_pos (by rw [c49])] at hQ'
              refine V_aloadn0 dX10_signs_52 ?_
              refine V_getI dX10_signs_53 fX10_158 (Or.inl rfl) (by first | assumption | rfl) (by first | decide | omega) (by first | assumption | exact ML_4 (by assumption) | exact ML_5 (by assumption) | exact ML_6 (by assumption) | exact ML_7 (by assumption) | exact ML_8 (by assumption) | exact ML_9 (by assumption) | exact ML_10 (by assumption) | exact ML_11 (by assumption) | exact ML_12 (by assumption) | exact ML_13 (by assumption) | exact ML_15 (by assumption) | exact ML_16 (by assumption) | exact ML_17 (by assumption) | exact ML_20 (by assumption) | exact ML_23 (by assumption) | exact ML_24 (by assumption) | exact ML_30 (by assumption) | exact ML_31 (by assumption) | exact ML_32 (by assumption) | exact ML_33 (by assumption) | exact ML_35 (by assumption) | exact ML_36 (by assumption) | exact ML_37 (by assumption) | exact ML_38 (by assumption) | exact ML_41 (by assumption) | exact ML_42 (by assumption) | exact ML_43 (by assumption) | exact ML_44 (by assumption) | exact ML_45 (by assumption) | rfl) ?_
              refine V_goto (tgt := 63) dX10_signs_56 (by decide) ?_
              refine V_iret dX10_signs_63 rfl rfl ?_
              exact hQ'
          · skip
            rw [if_pos c32] at hQ
            have hQ' := hQ h hR FrD.rf
            refine V_bipush (v := -11) dX10_signs_35 (by decide) ?_
            refine V_iret dX10_signs_37 rfl rfl ?_
            exact hQ'
        · skip
          cases c21
  · have hQ9 := hQ h hR FrD.rf
    have eq0 : g_signs S x i y = -1 := if_neg hg
    rw [eq0] at hQ9
    refine V_iloadn1 dX10_signs_0 ?_
    refine V_callS1 (μ' := mX10_isSlot) dX10_signs_1 okX10_isSlot lX10_114 (Nat.le_of_ble_eq_true rfl) (Nat.le_of_ble_eq_true rfl) (by omega) ?_
    refine m_isSlot (by omega) ?_
    dsimp only [gPush]
    first | refine U_ifB_eq (tgt := 24) dX10_signs_4 (by decide) (by with_reducible rfl) (fun c4 => ?_) (fun c4 => ?_) | refine U_if_eq (tgt := 24) dX10_signs_4 (by decide) (by with_reducible rfl) (by omega) (fun c4 => ?_) (fun c4 => ?_) | refine V_if_eq (tgt := 24) dX10_signs_4 (by decide) (fun c4 => ?_) (fun c4 => ?_)
    · skip
      refine V_iconst (v := -1) dX10_signs_24 (by decide) ?_
      refine V_iret dX10_signs_25 rfl rfl ?_
      exact hQ9
    · skip
      refine V_aloadn0 dX10_signs_7 ?_
      refine V_iloadn2 dX10_signs_8 ?_
      refine V_callV1 (μ' := mX10_isSign) dX10_signs_9 okX10_isSign lX10_173 rfl (by first | assumption | rfl) (by first | decide | omega) (Nat.le_of_ble_eq_true rfl) (Nat.le_of_ble_eq_true rfl) (by omega) ?_
      refine m_isSign (by omega) (by omega) hn5 r0 ?_
      dsimp only [gPush]
      first | refine U_ifB_eq (tgt := 24) dX10_signs_12 (by decide) (by with_reducible rfl) (fun c12 => ?_) (fun c12 => ?_) | refine U_if_eq (tgt := 24) dX10_signs_12 (by decide) (by with_reducible rfl) (by omega) (fun c12 => ?_) (fun c12 => ?_) | refine V_if_eq (tgt := 24) dX10_signs_12 (by decide) (fun c12 => ?_) (fun c12 => ?_)
      · skip
        refine V_iconst (v := -1) dX10_signs_24 (by decide) ?_
        refine V_iret dX10_signs_25 rfl rfl ?_
        exact hQ9
      · skip
        refine V_iloadn3 dX10_signs_15 ?_
        refine V_iconst (v := nI 0) dX10_signs_16 (by decide) ?_
        refine V_iconst (v := nI 1) dX10_signs_17 (by decide) ?_
        refine V_callS3 (μ' := mX10_in) dX10_signs_18 okX10_in lX10_104 (Nat.le_of_ble_eq_true rfl) (Nat.le_of_ble_eq_true rfl) (by omega) ?_
        refine m_inR ?_
        dsimp only [gPush]
        first | refine U_ifB_ne (tgt := 26) dX10_signs_21 (by decide) (by with_reducible rfl) (fun c21 => ?_) (fun c21 => ?_) | refine U_if_ne (tgt := 26) dX10_signs_21 (by decide) (by with_reducible rfl) (by omega) (fun c21 => ?_) (fun c21 => ?_) | refine V_if_ne (tgt := 26) dX10_signs_21 (by decide) (fun c21 => ?_) (fun c21 => ?_)
        · skip
          exact absurd (by rw [c4, c12, c21]; rfl) hg
        · skip
          refine V_iconst (v := -1) dX10_signs_24 (by decide) ?_
          refine V_iret dX10_signs_25 rfl rfl ?_
          exact hQ9

end C64
