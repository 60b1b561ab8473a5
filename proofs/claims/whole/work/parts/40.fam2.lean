/-! ===== the class: ALL OF a thing ===== -/
theorem TI_cg {h h' : gH} {t kd : Nat} {w L : List Nat} (hI : TI h t kd w L) (e : ∀ a, t ≤ a → a < t + 3 → gI h' a = gI h a) : TI h' t kd w L := by
  obtain ⟨i0, i1, i3, iw, iL, r⟩ := hI
  have e0 := e t (by omega) (by omega)
  have e1 := e (t + 1) (by omega) (by omega)
  have e2 := e (t + 2) (by omega) (by omega)
  exact ⟨by rw [e0]; exact i0, by rw [e0]; exact i1, by rw [e0]; exact i3, fun p hp => by rw [e1]; exact iw p hp, fun p hp => by rw [e2]; exact iL p hp, r⟩
theorem FaJ_cg {h h' : gH} {n : Nat} {w Cs : List Nat} (hJ : FaJ h n w Cs) (e1 : gL h' 59 = gL h 59) (e2 : gI h' 58 0 = gI h 58 0) (e3 : gI h' 60 = gI h 60) : FaJ h' n w Cs := by
  obtain ⟨⟨a, b, c⟩, r⟩ := hJ
  exact ⟨⟨MkI_fr a e1, by rw [e2]; exact b, fun j hj => by rw [e3]; exact c j hj⟩, r⟩
def cF (M : Nat → Bool) : Nat → Nat
  | 0 => 0
  | k + 1 => cF M k + (if M k then 1 else 0)
theorem cF_len (M : Nat → Bool) : ∀ k, cF M k = ((List.range k).filter M).length
  | 0 => rfl
  | k + 1 => by
    unfold cF
    rw [cF_len M k, List.range_succ, List.filter_append, List.length_append]
    congr 1
    by_cases h : M k = true
    · simp [h]
    · simp [h]
theorem cF_le (M : Nat → Bool) : ∀ k, cF M k ≤ k
  | 0 => Nat.le_refl _
  | k + 1 => by
    have := cF_le M k
    unfold cF
    split <;> omega
theorem cF_mono (M : Nat → Bool) {a : Nat} : ∀ b, a ≤ b → cF M a ≤ cF M b
  | 0, h => by rw [show a = 0 by omega]; exact Nat.le_refl _
  | b + 1, h => by
    by_cases e : a = b + 1
    · rw [e]; exact Nat.le_refl _
    · have := cF_mono M b (a := a) (by omega)
      have h2 : cF M b ≤ cF M (b + 1) := by
        show cF M b ≤ cF M b + _
        omega
      omega
theorem cF_cnt {M : Nat → Bool} {v k : Nat} (hb : ∀ b, b < 64 → v.testBit b = M (64 * k + b)) : ∀ t, t ≤ 64 → cF M (64 * k + t) = cF M (64 * k) + cntN v t
  | 0, _ => rfl
  | t + 1, ht => by
    have ih := cF_cnt hb t (by omega)
    show cF M (64 * k + t) + (if M (64 * k + t) then 1 else 0) = cF M (64 * k) + (cntN v (t + 1))
    rw [ih, ← hb t (by omega), cntN]
    by_cases h : v.testBit t = true
    · rw [h]; rfl
    · have h2 : v.testBit t = false := by simpa using h
      rw [h2]; rfl
theorem cF_congr {M M' : Nat → Bool} : ∀ k, (∀ x, x < k → M x = M' x) → cF M k = cF M' k
  | 0, _ => rfl
  | k + 1, h => by
    unfold cF
    rw [cF_congr k (fun x hx => h x (by omega)), h k (by omega)]
theorem cF_uniq {M : Nat → Bool} {a b : Nat} (ha : M a = true) (hb : M b = true) (e : cF M a = cF M b) : a = b := by
  have key : ∀ x y, M x = true → x < y → cF M x < cF M y := fun x y hx hxy => by
    have h1 : cF M (x + 1) = cF M x + 1 := by
      show cF M x + _ = _
      rw [if_pos hx]
    have h2 := cF_mono M y (a := x + 1) hxy
    omega
  rcases Nat.lt_trichotomy a b with h | h | h
  · have := key a b ha h; omega
  · exact h
  · have := key b a hb h; omega
/-- the family as it is held -/
def FamOf (h : gH) (n : Nat) (w : List Nat) : Prop := MkI h (famB n w) ∧ gI h 58 0 = nI (cF (famB n w) 15680) ∧ gI h 58 1 = nI n ∧ gI h 58 2 = nI w.length
def FamI (h : gH) : Prop := gI h 58 0 = nI 0 ∨ ∃ n w, n ≤ 5 ∧ w.length ≤ 6 ∧ FamOf h n w
def FrGa (h h' : gH) : Prop := (∀ a, a ≠ 46 → a < 58 ∨ a = 59 ∨ 67 ≤ a → gI h' a = gI h a) ∧ (∀ a, a ≠ 59 → gL h' a = gL h a) ∧ gR h' = gR h
theorem FrGa.rf {h : gH} : FrGa h h := ⟨fun _ _ _ => rfl, fun _ _ => rfl, rfl⟩
theorem FrGa.tr {h h' h'' : gH} (a : FrGa h h') (b : FrGa h' h'') : FrGa h h'' := ⟨fun q h1 h2 => (b.1 q h1 h2).trans (a.1 q h1 h2), fun q hq => (b.2.1 q hq).trans (a.2.1 q hq), b.2.2.trans a.2.2⟩
theorem FrB.toGa {h h' : gH} (a : FrB h h') : FrGa h h' := ⟨fun q h1 h2 => a.1 q h1 (by omega) (by omega) (by omega), a.2.2.1, a.2.2.2⟩
theorem Fr1.toGa {h h' : gH} {lo hi : Nat} (a : Fr1 h h' lo hi) (h1 : 60 ≤ lo) (h2 : hi ≤ 67) : FrGa h h' := ⟨fun q _ h4 => a.1 q (by omega), fun q _ => by rw [a.2.1], a.2.2⟩
theorem famB_same {n : Nat} {w w' : List Nat} (hl : w.length = w'.length) (hc : clW w = clW w') : famB n w = famB n w' := by
  funext c
  unfold famB
  rw [hl, hc]
section C40
variable {Γ : gM} {d : Nat} {h : gH} {Q : Option Value → gH → Prop} {t : Nat}
set_option maxRecDepth 100000 in
set_option maxHeartbeats 4000000 in
theorem c_admitLowered {n : Nat} {w u Cs : List Nat} (hd : 2 ≤ d) (hn : 2 ≤ n) (hn5 : n ≤ 5) (hw : w.length ≤ 6) (hL : FmL h) (i1 : gI h 58 1 = nI n) (hU : TI h 61 1 u []) (hul : u.length = w.length) (hu : LtW n u) (hcl : clW u = clW w) (hJ : FaJ h n w Cs) (hQ : ∀ h' Cs', FaJ h' n w Cs' → (∃ E, Cs' = Cs ++ E) → (∀ i, 1 ≤ i → i < n → llC u i ≠ 0 → cdF n (lowerW u i) w.length ∈ Cs') → FrB h h' → Q none h') : V Γ mX0_admitLowered d 124 124 h 0 [some (.ref 58), some (.ref 46), none] [] Q := by
  obtain ⟨f3, f4, f5, f6, hT, hT2⟩ := id hL
  have loop : ∀ k i h1 Cs1, n - i = k → 1 ≤ i → i ≤ n → FaJ h1 n w Cs1 → (∃ E, Cs1 = Cs ++ E) → (∀ j, 1 ≤ j → j < i → llC u j ≠ 0 → cdF n (lowerW u j) w.length ∈ Cs1) → FrB h h1 → V Γ mX0_admitLowered d 124 124 h1 2 [some (.ref 58), some (.ref 46), some (.int (nI i))] [] Q := by
    intro k
    induction k using Nat.strongRecOn with
    | _ k ih =>
      intro i h1 Cs1 hk hi1 hi hJ1 hE1 hS1 hF1
      have hL1 := FmL_fr hL hF1.2.2.2
      obtain ⟨g3, g4, g5, g6, kT, kT2⟩ := id hL1
      have j1 : gI h1 58 1 = nI n := by rw [hF1.2.1 1 (by decide)]; exact i1
      have hU1 : TI h1 61 1 u [] := TI_cg hU (fun a a1 a2 => hF1.1 a (by omega) (by omega) (by omega) (by omega))
      refine V_iloadn2 dX0_admitLowered_2 ?_
      refine V_aloadn0 dX0_admitLowered_3 ?_
      refine V_getI dX0_admitLowered_4 fX0_9 (Or.inl rfl) (by first | assumption | rfl) (by first | decide | omega) (by first | assumption | rfl) ?_
      first | refine U_icmp_ge (tgt := 51) dX0_admitLowered_7 (by decide) (by with_reducible rfl) (by with_reducible rfl) (by omega) (by omega) (fun c7 => ?_) (fun c7 => ?_) | refine V_icmp_ge (tgt := 51) dX0_admitLowered_7 (by decide) (fun c7 => ?_) (fun c7 => ?_)
      · skip
        refine V_ret dX0_admitLowered_51 rfl ?_
        exact hQ h1 Cs1 hJ1 hE1 (fun j j1 j2 j3 => hS1 j j1 (by omega) j3) hF1
      · skip
        refine V_aloadn0 dX0_admitLowered_10 ?_
        refine V_getR dX0_admitLowered_11 fX0_30 (by first | assumption | rfl) (by first | decide | omega) (by first | assumption | rfl) ?_
        refine V_aloadn0 dX0_admitLowered_14 ?_
        refine V_getR dX0_admitLowered_15 fX0_26 (by first | assumption | rfl) (by first | decide | omega) (by first | assumption | rfl) ?_
        refine V_callV1 (μ' := mX8_becomeLike) dX0_admitLowered_18 okX8_becomeLike lX0_54 rfl (by first | assumption | rfl) (by first | decide | omega) (Nat.le_of_ble_eq_true rfl) (Nat.le_of_ble_eq_true rfl) (by omega) ?_
        refine c_becomeLike (by omega) kT2 kT hU1 (by omega) (fun h2 hT2 hF2 => ?_)
        have hF12 := hF1.tr hF2.toB
        have g62 : gR h2 58 6 = some 64 := by rw [hF2.2.2]; exact g6
        dsimp only [gPush]
        refine V_aloadn1 dX0_admitLowered_21 ?_
        refine V_aloadn0 dX0_admitLowered_22 ?_
        refine V_getR dX0_admitLowered_23 fX0_30 (by first | assumption | rfl) (by first | decide | omega) (by first | assumption | rfl) ?_
        refine V_iloadn2 dX0_admitLowered_26 ?_
        refine V_callV2 (μ' := mX3_lowerOnce) dX0_admitLowered_27 okX3_lowerOnce lX0_75 rfl (by first | assumption | rfl) (by first | decide | omega) (Nat.le_of_ble_eq_true rfl) (Nat.le_of_ble_eq_true rfl) (by omega) ?_
        refine c_lowerOnce (by omega) (TL_fr kT2 hF2.2.2) hT2 (by omega) (by omega) (fun h3 hT3 hF3 => ?_)
        have hF13 := hF12.tr hF3.toB
        have hL3 := FmL_fr hL hF13.2.2.2
        have hJ3 : FaJ h3 n w Cs1 := FaJ_cg hJ1 (by rw [hF3.2.1, hF2.2.1]) (by rw [hF3.1 58 (by omega) (by omega), hF2.1 58 (by omega)]) (by rw [hF3.1 60 (by omega) (by omega), hF2.1 60 (by omega)])
        dsimp only [gPush]
        first | refine U_ifB_eq (tgt := 45) dX0_admitLowered_30 (by decide) (by with_reducible rfl) (fun c30 => ?_) (fun c30 => ?_) | refine U_if_eq (tgt := 45) dX0_admitLowered_30 (by decide) (by with_reducible rfl) (by omega) (fun c30 => ?_) (fun c30 => ?_) | refine V_if_eq (tgt := 45) dX0_admitLowered_30 (by decide) (fun c30 => ?_) (fun c30 => ?_)
        · skip
          have hz : llC u i = 0 := by simpa using c30
          skip
          first
          | (refine V_iinc2 dX0_admitLowered_45 (by exact ginc1 _) (by decide) rfl ?_
             refine V_goto (tgt := 2) dX0_admitLowered_48 (by decide) ?_
             refine ih (n - (i + 1)) (by omega) (i + 1) h3 Cs1 rfl (by omega) (by omega) hJ3 hE1 (fun j j1 j2 j3 => ?_) hF13
             by_cases e : j = i
             · subst e; exact absurd hz j3
             · exact hS1 j j1 (by omega) j3)
          | (refine V_iinc2 dX0_admitLowered_45 (by exact ginc1 _) (by decide) rfl ?_
             refine V_goto (tgt := 2) dX0_admitLowered_48 (by decide) ?_
             obtain ⟨E1, e1⟩ := hE1
             obtain ⟨E4, e4⟩ := hE4
             refine ih (n - (i + 1)) (by omega) (i + 1) h4 Cs4 rfl (by omega) (by omega) hJ4 ⟨E1 ++ E4, by rw [e4, e1, List.append_assoc]⟩ (fun j j1 j2 j3 => ?_) (hF13.tr hF4.toB)
             by_cases e : j = i
             · subst e; rw [lowerW_len, hul] at hin; exact hin
             · rw [e4]; exact List.mem_append_left _ (hS1 j j1 (by omega) j3))
        · skip
          have hz : llC u i ≠ 0 := by simpa using c30
          obtain ⟨q3, q4, q5, q6, qT, qT2⟩ := id hL3
          refine V_aloadn0 dX0_admitLowered_33 ?_
          refine V_aloadn0 dX0_admitLowered_34 ?_
          refine V_aloadn0 dX0_admitLowered_35 ?_
          refine V_getR dX0_admitLowered_36 fX0_30 (by first | assumption | rfl) (by first | decide | omega) (by first | assumption | rfl) ?_
          refine V_callV1 (μ' := mX0_codeOf) dX0_admitLowered_39 okX0_codeOf lX0_40 rfl (by first | assumption | rfl) (by first | decide | omega) (Nat.le_of_ble_eq_true rfl) (Nat.le_of_ble_eq_true rfl) (by omega) ?_
          refine c_codeOf qT2 hT3 (fun p hp => (LtW_lower hu (by omega) p hp).1) (by rw [hF13.2.1 1 (by decide)]; exact i1) ?_
          dsimp only [gPush]
          refine V_callV1 (μ' := mX0_admit) dX0_admitLowered_42 okX0_admit lX0_64 rfl (by first | assumption | rfl) (by first | decide | omega) (Nat.le_of_ble_eq_true rfl) (Nat.le_of_ble_eq_true rfl) (by omega) ?_
          refine c_admit (by omega) hn hn5 hw hL3 hJ3 ?_ (fun h4 Cs4 hJ4 hE4 hin hF4 => ?_)
          · rw [lowerW_len, hul, famB_cd (by omega) (LtW_lower hu (by omega)) (by rw [lowerW_len]; exact hul)]
            exact decide_eq_true (by rw [cl_lower (by omega) (hu.mono hn5) hi1 (by omega)]; exact hcl)
          dsimp only [gPush]
          skip
          first
          | (refine V_iinc2 dX0_admitLowered_45 (by exact ginc1 _) (by decide) rfl ?_
             refine V_goto (tgt := 2) dX0_admitLowered_48 (by decide) ?_
             refine ih (n - (i + 1)) (by omega) (i + 1) h3 Cs1 rfl (by omega) (by omega) hJ3 hE1 (fun j j1 j2 j3 => ?_) hF13
             by_cases e : j = i
             · subst e; exact absurd hz j3
             · exact hS1 j j1 (by omega) j3)
          | (refine V_iinc2 dX0_admitLowered_45 (by exact ginc1 _) (by decide) rfl ?_
             refine V_goto (tgt := 2) dX0_admitLowered_48 (by decide) ?_
             obtain ⟨E1, e1⟩ := hE1
             obtain ⟨E4, e4⟩ := hE4
             refine ih (n - (i + 1)) (by omega) (i + 1) h4 Cs4 rfl (by omega) (by omega) hJ4 ⟨E1 ++ E4, by rw [e4, e1, List.append_assoc]⟩ (fun j j1 j2 j3 => ?_) (hF13.tr hF4.toB)
             by_cases e : j = i
             · subst e; rw [lowerW_len, hul] at hin; exact hin
             · rw [e4]; exact List.mem_append_left _ (hS1 j j1 (by omega) j3))
  refine V_iconst (v := nI 1) dX0_admitLowered_0 (by decide) ?_
  refine V_istoren2 dX0_admitLowered_1 (by decide) rfl ?_
  exact loop _ 1 h Cs rfl (by omega) (by omega) hJ ⟨[], by simp⟩ (fun j j1 j2 => by omega) FrB.rf
set_option maxRecDepth 100000 in
set_option maxHeartbeats 4000000 in
theorem c_gather {n kd : Nat} {w L : List Nat} (hd : 4 ≤ d) (hn : 2 ≤ n) (hn5 : n ≤ 5) (hL : FmL h) (hT : TL h t) (hI : TI h t kd w L) (hw : LtW n w) (ht : t + 3 ≤ 46 ∨ 67 ≤ t) (hF : FamI h) (hQ : ∀ h', FamOf h' n w → FrGa h h' → Q none h') : V Γ mX0_gather d 124 124 h 0 [some (.ref 58), some (.ref t), some (.int (nI n)), some (.ref 46), none] [] Q := by
  obtain ⟨f3, f4, f5, f6, hT5, hT6⟩ := id hL
  obtain ⟨l0, l1, l2, lt, r2, r4⟩ := id hT
  have hwl : w.length ≤ 6 := hI.2.2.2.2.2.1
  obtain ⟨j0, j1, j3, -⟩ := id hI
  have hsum : w.sum ≤ 30 := Nat.le_trans (sum_le w hw) (by
    have := Nat.mul_le_mul hn5 hwl
    omega)
  obtain ⟨tl, tw, tc, th, -, -⟩ := top_ok hn hn5 30 w hwl hw hsum
  generalize htop : (toTop n 30 w).2 = top at tl tw tc th
  have loop : ∀ k at' h1 Cs, 501 - at' = k → at' ≤ Cs.length → FaJ h1 n w Cs → cdF n top w.length ∈ Cs → (∀ j, j < at' → ∀ i, 1 ≤ i → i < n → llC (dcF n w.length (Cs.getD j 0)) i ≠ 0 → cdF n (lowerW (dcF n w.length (Cs.getD j 0)) i) w.length ∈ Cs) → gI h1 58 1 = nI n → gI h1 58 2 = nI w.length → FrGa h h1 → V Γ mX0_gather d 124 124 h1 98 [some (.ref 58), some (.ref t), some (.int (nI n)), some (.ref 46), some (.int (nI at'))] [] Q := by
    intro k
    induction k using Nat.strongRecOn with
    | _ k ih =>
      intro at' h1 Cs hk hat hJ1 hin hS1 y1 y2 hF1
      have hL1 := FmL_fr hL hF1.2.2
      obtain ⟨g3, g4, g5, g6, kT, kT2⟩ := id hL1
      obtain ⟨⟨hM, hN, hC⟩, hnd, hf⟩ := id hJ1
      have hlen : Cs.length ≤ 500 := fam_le hn hn5 hwl hnd hf
      have fin : at' = Cs.length → FamOf h1 n w := by
        intro e
        have hset : ∀ x, decide (x ∈ Cs) = famB n w x := by
          intro x
          by_cases hx : x ∈ Cs
          · rw [decide_eq_true hx, hf x hx]
          · rw [decide_eq_false hx]
            symm
            apply Bool.eq_false_iff.mpr
            intro hfx
            apply hx
            have hlt := famB_lt hfx
            have hcx : clW (dcF n w.length x) = clW w := by
              unfold famB at hfx
              simp only [Bool.and_eq_true, decide_eq_true_eq] at hfx
              exact hfx.2
            have key := fam_in (n := n) (m := w.length) (top := top) (M := fun u => cdF n u w.length ∈ Cs) hn5 hwl tl tw th hin (fun u hul hu hMu i h1 h2 h3 => by
              obtain ⟨j, hj, ej⟩ := List.getElem_of_mem hMu
              have eg : Cs.getD j 0 = cdF n u w.length := by rw [List.getD_eq_getElem?_getD, List.getElem?_eq_getElem hj]; exact ej
              have ed : dcF n w.length (Cs.getD j 0) = u := by rw [eg, ← hul]; exact dcF_cdF (by omega) hu
              have := hS1 j (by omega) i h1 h2 (by rw [ed]; exact h3)
              rw [ed] at this
              exact this) _ (dcF n w.length x) rfl (dcF_len _ _ _) (dcF_lt (by omega)) (by rw [hcx, tc])
            have key2 : cdF n (dcF n w.length x) w.length ∈ Cs := key
            rw [cdF_dcF (by omega) hlt] at key2
            exact key2
        refine ⟨fun k hk => ?_, ?_, y1, y2⟩
        · obtain ⟨v, v1, v2, v3⟩ := hM k hk
          exact ⟨v, v1, v2, fun b hb => by rw [v3 b hb]; exact hset _⟩
        · rw [hN, cF_len]
          congr 1
          apply Nat.le_antisymm
          · exact List.Nodup.length_le_of_subset hnd (fun x hx => List.mem_filter.mpr ⟨List.mem_range.mpr (lt_pow_code hn5 hwl (famB_lt (hf x hx))), hf x hx⟩)
          · refine List.Nodup.length_le_of_subset (List.Pairwise.filter _ List.nodup_range) (fun x hx => ?_)
            have h2 := (List.mem_filter.mp hx).2
            rw [← hset x] at h2
            exact of_decide_eq_true h2
      refine V_iloadw4 dX0_gather_98 ?_
      refine V_aloadn0 dX0_gather_100 ?_
      refine V_getI dX0_gather_101 fX0_33 (Or.inl rfl) (by first | assumption | rfl) (by first | decide | omega) (by first | assumption | exact hC _ (by omega) | rfl) ?_
      first | refine U_icmp_ge (tgt := 137) dX0_gather_104 (by decide) (by with_reducible rfl) (by with_reducible rfl) (by omega) (by omega) (fun c104 => ?_) (fun c104 => ?_) | refine V_icmp_ge (tgt := 137) dX0_gather_104 (by decide) (fun c104 => ?_) (fun c104 => ?_)
      · skip
        have e : at' = Cs.length := by omega
        refine V_ret dX0_gather_137 rfl ?_
        exact hQ h1 (fin e) hF1
      · skip
        refine V_iloadw4 dX0_gather_107 ?_
        refine V_sipush (v := nI 512) dX0_gather_109 (by decide) ?_
        first | refine U_icmp_ge (tgt := 137) dX0_gather_112 (by decide) (by with_reducible rfl) (by with_reducible rfl) (by omega) (by omega) (fun c112 => ?_) (fun c112 => ?_) | refine V_icmp_ge (tgt := 137) dX0_gather_112 (by decide) (fun c112 => ?_) (fun c112 => ?_)
        · skip
          omega
        · skip
          have hmem : Cs.getD at' 0 ∈ Cs := by
            rw [List.getD_eq_getElem?_getD, List.getElem?_eq_getElem (by omega : at' < Cs.length)]
            exact List.getElem_mem _
          have hfm := hf _ hmem
          have hlt := famB_lt hfm
          have hlt2 := lt_pow_code hn5 hwl hlt
          generalize hcc : Cs.getD at' 0 = c at hmem hfm hlt hlt2
          have hC2 : gI h1 60 at' = nI c := by rw [hC at' (by omega), hcc]
          refine V_aloadn0 dX0_gather_115 ?_
          refine V_aloadn0 dX0_gather_116 ?_
          refine V_getR dX0_gather_117 fX0_19 (by first | assumption | rfl) (by first | decide | omega) (by first | assumption | exact hC _ (by omega) | rfl) ?_
          refine V_iloadw4 dX0_gather_120 ?_
          refine U_iald dX0_gather_122 (by with_reducible rfl) (by first | assumption | rfl) (by first | decide | omega) (by omega) (by first | assumption | exact hC _ (by omega) | rfl) ?_
          refine V_callV1 (μ' := mX0_readCode) dX0_gather_123 okX0_readCode lX0_68 rfl (by first | assumption | rfl) (by first | decide | omega) (Nat.le_of_ble_eq_true rfl) (Nat.le_of_ble_eq_true rfl) (by omega) ?_
          refine c_readCode (by omega) (by omega) hn hn5 hwl hL1 y1 y2 (fun h2 hU hF2 => ?_)
          dsimp only [gPush]
          refine V_aloadn0 dX0_gather_126 ?_
          refine V_aloadn3 dX0_gather_127 ?_
          refine V_callV1 (μ' := mX0_admitLowered) dX0_gather_128 okX0_admitLowered lX0_71 rfl (by first | assumption | rfl) (by first | decide | omega) (Nat.le_of_ble_eq_true rfl) (Nat.le_of_ble_eq_true rfl) (by omega) ?_
          refine c_admitLowered (w := w) (by omega) hn hn5 hwl (FmL_fr hL1 hF2.2.2) (by rw [hF2.1 58 (by omega)]; exact y1) hU (dcF_len _ _ _) (dcF_lt (by omega)) ?_ (FaJ_cg hJ1 (by rw [hF2.2.1]) (by rw [hF2.1 58 (by omega)]) (by rw [hF2.1 60 (by omega)])) (fun h3 Cs3 hJ3 hE3 hS3 hF3 => ?_)
          · have hfx := hfm
            unfold famB at hfx
            simp only [Bool.and_eq_true, decide_eq_true_eq] at hfx
            exact hfx.2
          dsimp only [gPush]
          refine V_iinc4 dX0_gather_131 (by first | exact ginc1 _ | rfl) (by decide) rfl ?_
          refine V_goto (tgt := 98) dX0_gather_134 (by decide) ?_
          obtain ⟨E3, e3⟩ := hE3
          have lt3 : at' < Cs3.length := by rw [e3, List.length_append]; omega
          have gd : ∀ j, j ≤ at' → Cs3.getD j 0 = Cs.getD j 0 := fun j hj => by rw [e3, List.getD_eq_getElem?_getD, List.getD_eq_getElem?_getD, List.getElem?_append_left (by omega)]
          refine ih (501 - (at' + 1)) (by omega) (at' + 1) h3 Cs3 rfl (by omega) hJ3 (by rw [e3]; exact List.mem_append_left _ hin) (fun j hj i i1 i2 i3 => ?_) (by rw [hF3.2.1 1 (by decide), hF2.1 58 (by omega)]; exact y1) (by rw [hF3.2.1 2 (by decide), hF2.1 58 (by omega)]; exact y2) (hF1.tr ((hF2.toGa (by omega) (by omega)).tr hF3.toGa))
          rw [gd j (by omega)] at i3 ⊢
          by_cases e : j = at'
          · subst e; rw [hcc] at i3 ⊢; exact hS3 i i1 i2 i3
          · rw [e3]; exact List.mem_append_left _ (hS1 j (by omega) i i1 i2 i3)
  have build : V Γ mX0_gather d 124 124 h 39 [some (.ref 58), some (.ref t), some (.int (nI n)), some (.ref 46), none] [] Q := by
    generalize hha : sI h 58 1 (nI n) = ha
    have ja : gI ha t 1 = nI w.length := by rw [← hha, gI_sI, if_neg (by omega)]; exact j1
    generalize hhb : sI (sI ha 58 2 (nI w.length)) 58 0 (nI 0) = hb
    have fb : Fr1 h hb 58 59 := by rw [← hhb, ← hha]; exact fr_sI (fr_sI (fr_sI Fr1.rf (by omega) (by omega)) (by omega) (by omega)) (by omega) (by omega)
    have b0 : gI hb 58 0 = nI 0 := by rw [← hhb, gI_sI, if_pos ⟨rfl, rfl⟩]
    have b1 : gI hb 58 1 = nI n := by rw [← hhb, gI_sI, if_neg (by omega), gI_sI, if_neg (by omega), ← hha, gI_sI, if_pos ⟨rfl, rfl⟩]
    have b2 : gI hb 58 2 = nI w.length := by rw [← hhb, gI_sI, if_neg (by omega), gI_sI, if_pos ⟨rfl, rfl⟩]
    have rb3 : gR hb 58 3 = some 59 := by rw [fb.2.2]; exact f3
    refine V_aloadn0 dX0_gather_39 ?_
    refine V_iloadn2 dX0_gather_40 ?_
    refine V_putI dX0_gather_41 fX0_9 (by first | assumption | rfl) (by first | decide | omega) ?_
    rw [hha]
    refine V_aloadn0 dX0_gather_44 ?_
    refine V_aloadn1 dX0_gather_45 ?_
    refine V_getI dX0_gather_46 fX0_39 (Or.inl rfl) (by first | assumption | rfl) (by first | decide | omega) (by first | assumption | rfl) ?_
    refine V_putI dX0_gather_49 fX0_36 (by first | assumption | rfl) (by first | decide | omega) ?_
    refine V_aloadn0 dX0_gather_52 ?_
    refine V_iconst (v := nI 0) dX0_gather_53 (by decide) ?_
    refine V_putI dX0_gather_54 fX0_33 (by first | assumption | rfl) (by first | decide | omega) ?_
    rw [hhb]
    refine V_aloadn0 dX0_gather_57 ?_
    refine V_getR dX0_gather_58 fX0_15 (by first | assumption | rfl) (by first | decide | omega) (by first | assumption | rfl) ?_
    refine V_lconst (v := lN 0) dX0_gather_61 (by decide) ?_
    refine V_callS2 (μ' := mJ7_fill_d0a16) dX0_gather_62 okJ7_fill_d0a16 lX0_48 (Nat.le_of_ble_eq_true rfl) (Nat.le_of_ble_eq_true rfl) (by omega) ?_
    refine c_fillL (n := 245) rfl (by omega) (fun h1 hz hF1 => ?_)
    have r16 : gR h1 58 6 = some 64 := by rw [hF1.2.2, fb.2.2]; exact f6
    dsimp only [gPush]
    refine V_aloadn0 dX0_gather_65 ?_
    refine V_getR dX0_gather_66 fX0_30 (by first | assumption | rfl) (by first | decide | omega) (by first | assumption | rfl) ?_
    refine V_aloadn1 dX0_gather_69 ?_
    refine V_callV1 (μ' := mX8_becomeLike) dX0_gather_70 okX8_becomeLike lX0_54 rfl (by first | assumption | rfl) (by first | decide | omega) (Nat.le_of_ble_eq_true rfl) (Nat.le_of_ble_eq_true rfl) (by omega) ?_
    refine c_becomeLike (by omega) (TL_fr hT6 (hF1.2.2.trans fb.2.2)) (TL_fr hT (hF1.2.2.trans fb.2.2)) (TI_cg hI (fun a a1 a2 => by rw [hF1.2.1]; exact fb.1 a (by omega))) (by omega) (fun h2 hT2 hF2 => ?_)
    have r26 : gR h2 58 6 = some 64 := by rw [hF2.2.2]; exact r16
    dsimp only [gPush]
    refine V_aloadn3 dX0_gather_73 ?_
    refine V_aloadn0 dX0_gather_74 ?_
    refine V_getR dX0_gather_75 fX0_30 (by first | assumption | rfl) (by first | decide | omega) (by first | assumption | rfl) ?_
    refine V_iloadn2 dX0_gather_78 ?_
    refine V_callV2 (μ' := mX3_raiseToHighest) dX0_gather_79 okX3_raiseToHighest lX0_58 rfl (by first | assumption | rfl) (by first | decide | omega) (Nat.le_of_ble_eq_true rfl) (Nat.le_of_ble_eq_true rfl) (by omega) ?_
    refine c_raiseToHighest (by omega) (TL_fr hT6 (hF2.2.2.trans (hF1.2.2.trans fb.2.2))) hT2 (by omega) hn5 (by omega) (fun h3 hT3 hF3 => ?_)
    rw [htop] at hT3
    have eR : gR h3 = gR h := hF3.2.2.trans (hF2.2.2.trans (hF1.2.2.trans fb.2.2))
    have r36 : gR h3 58 6 = some 64 := by rw [eR]; exact f6
    dsimp only [gPush]
    refine V_popi dX0_gather_82 ?_
    refine V_aloadn0 dX0_gather_83 ?_
    refine V_aloadn0 dX0_gather_84 ?_
    refine V_aloadn0 dX0_gather_85 ?_
    refine V_getR dX0_gather_86 fX0_30 (by first | assumption | rfl) (by first | decide | omega) (by first | assumption | rfl) ?_
    refine V_callV1 (μ' := mX0_codeOf) dX0_gather_89 okX0_codeOf lX0_40 rfl (by first | assumption | rfl) (by first | decide | omega) (Nat.le_of_ble_eq_true rfl) (Nat.le_of_ble_eq_true rfl) (by omega) ?_
    refine c_codeOf (TL_fr hT6 eR) hT3 (fun p hp => (tw p hp).1) (by rw [hF3.1 58 (by omega) (by omega), hF2.1 58 (by omega), hF1.2.1]; exact b1) ?_
    dsimp only [gPush]
    refine V_callV1 (μ' := mX0_admit) dX0_gather_92 okX0_admit lX0_64 rfl (by first | assumption | rfl) (by first | decide | omega) (Nat.le_of_ble_eq_true rfl) (Nat.le_of_ble_eq_true rfl) (by omega) ?_
    refine c_admit (w := w) (Cs := []) (by omega) hn hn5 hwl (FmL_fr hL eR) ⟨⟨fun k hk => ⟨0, by decide, by rw [hF3.2.1, hF2.2.1]; exact hz k hk, fun b hb => by rw [Nat.zero_testBit]; simp⟩, by rw [hF3.1 58 (by omega) (by omega), hF2.1 58 (by omega), hF1.2.1]; exact b0, fun j hj => absurd hj (Nat.not_lt_zero _)⟩, List.nodup_nil, fun c hc => absurd hc (by simp)⟩ ?_ (fun h4 Cs4 hJ4 hE4 hin4 hF4 => ?_)
    · rw [tl, famB_cd (by omega) tw tl]
      exact decide_eq_true tc
    dsimp only [gPush]
    refine V_iconst (v := nI 0) dX0_gather_95 (by decide) ?_
    refine V_istorew4 dX0_gather_96 (by decide) rfl ?_
    rw [tl] at hin4
    refine loop _ 0 h4 Cs4 rfl (by omega) hJ4 hin4 (fun j hj => absurd hj (Nat.not_lt_zero _)) (by rw [hF4.2.1 1 (by decide), hF3.1 58 (by omega) (by omega), hF2.1 58 (by omega), hF1.2.1]; exact b1) (by rw [hF4.2.1 2 (by decide), hF3.1 58 (by omega) (by omega), hF2.1 58 (by omega), hF1.2.1]; exact b2) ⟨fun a a1 a2 => ?_, fun a a1 => ?_, ?_⟩
    · rw [hF4.1 a (by omega) (by omega), hF3.1 a (by omega) (by omega), hF2.1 a (by omega), hF1.2.1, fb.1 a (by omega)]
    · rw [hF4.2.2.1 a a1, hF3.2.1, hF2.2.1, hF1.1 a (by omega), fb.2.1]
    · rw [hF4.2.2.2]; exact eR
  rcases hF with hF | ⟨n0, w0, hn0, hw0, hM0, hm0, hi1, hi2⟩
  · skip
    refine V_aloadn0 dX0_gather_0 ?_
    refine V_getI dX0_gather_1 fX0_33 (Or.inl rfl) (by first | assumption | rfl) (by first | decide | omega) (by first | assumption | rfl) ?_
    first | refine U_if_le (tgt := 39) dX0_gather_4 (by decide) (by with_reducible rfl) (by omega) (fun c4 => ?_) (fun c4 => ?_) | refine V_if_le (tgt := 39) dX0_gather_4 (by decide) (fun c4 => ?_) (fun c4 => ?_)
    · skip
      exact build
    · skip
      omega
  · have hcb := cF_le (famB n0 w0) 15680
    refine V_aloadn0 dX0_gather_0 ?_
    refine V_getI dX0_gather_1 fX0_33 (Or.inl rfl) (by first | assumption | rfl) (by first | decide | omega) (by first | assumption | rfl) ?_
    first | refine U_if_le (tgt := 39) dX0_gather_4 (by decide) (by with_reducible rfl) (by omega) (fun c4 => ?_) (fun c4 => ?_) | refine V_if_le (tgt := 39) dX0_gather_4 (by decide) (fun c4 => ?_) (fun c4 => ?_)
    · skip
      exact build
    · skip
      refine V_aloadn0 dX0_gather_7 ?_
      refine V_getI dX0_gather_8 fX0_9 (Or.inl rfl) (by first | assumption | rfl) (by first | decide | omega) (by first | assumption | rfl) ?_
      refine V_iloadn2 dX0_gather_11 ?_
      first | refine U_icmp_ne (tgt := 39) dX0_gather_12 (by decide) (by with_reducible rfl) (by with_reducible rfl) (by omega) (by omega) (fun c12 => ?_) (fun c12 => ?_) | refine V_icmp_ne (tgt := 39) dX0_gather_12 (by decide) (fun c12 => ?_) (fun c12 => ?_)
      · skip
        exact build
      · skip
        refine V_aloadn0 dX0_gather_15 ?_
        refine V_getI dX0_gather_16 fX0_36 (Or.inl rfl) (by first | assumption | rfl) (by first | decide | omega) (by first | assumption | rfl) ?_
        refine V_aloadn1 dX0_gather_19 ?_
        refine V_getI dX0_gather_20 fX0_39 (Or.inl rfl) (by first | assumption | rfl) (by first | decide | omega) (by first | assumption | rfl) ?_
        first | refine U_icmp_ne (tgt := 39) dX0_gather_23 (by decide) (by with_reducible rfl) (by with_reducible rfl) (by omega) (by omega) (fun c23 => ?_) (fun c23 => ?_) | refine V_icmp_ne (tgt := 39) dX0_gather_23 (by decide) (fun c23 => ?_) (fun c23 => ?_)
        · skip
          exact build
        · skip
          refine V_aloadn0 dX0_gather_26 ?_
          refine V_aloadn0 dX0_gather_27 ?_
          refine V_aloadn1 dX0_gather_28 ?_
          refine V_callV1 (μ' := mX0_codeOf) dX0_gather_29 okX0_codeOf lX0_40 rfl (by first | assumption | rfl) (by first | decide | omega) (Nat.le_of_ble_eq_true rfl) (Nat.le_of_ble_eq_true rfl) (by omega) ?_
          refine c_codeOf hT hI (fun p hp => (hw p hp).1) hi1 ?_
          dsimp only [gPush]
          refine V_callV1 (μ' := mX0_isMarked) dX0_gather_32 okX0_isMarked lX0_44 rfl (by first | assumption | rfl) (by first | decide | omega) (Nat.le_of_ble_eq_true rfl) (Nat.le_of_ble_eq_true rfl) (by omega) ?_
          refine c_isMarked ?_ f3 hM0 ?_
          · exact lt_pow_code hn0 hwl (cdF_lt (by omega) (by rw [c12]; exact hw) _ (Nat.le_refl _))
          dsimp only [gPush]
          first | refine U_ifB_eq (tgt := 39) dX0_gather_35 (by decide) (by with_reducible rfl) (fun c35 => ?_) (fun c35 => ?_) | refine U_if_eq (tgt := 39) dX0_gather_35 (by decide) (by with_reducible rfl) (by omega) (fun c35 => ?_) (fun c35 => ?_) | refine V_if_eq (tgt := 39) dX0_gather_35 (by decide) (fun c35 => ?_) (fun c35 => ?_)
          · skip
            exact build
          · skip
            refine V_ret dX0_gather_38 rfl ?_
            refine hQ h ?_ FrGa.rf
            subst c12
            have hc := famB_cd (n := n0) (w := w0) (u := w) (by omega) hw (by omega)
            rw [← c23] at c35
            rw [hc] at c35
            have hcl : clW w = clW w0 := of_decide_eq_true c35
            have es : famB n0 w = famB n0 w0 := famB_same (by omega) hcl
            exact ⟨by rw [es]; exact hM0, by rw [es]; exact hm0, hi1, by rw [← c23]; exact hi2⟩
end C40
