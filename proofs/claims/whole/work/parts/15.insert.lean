/-! ===== the class: letters inserted ===== -/
def ins : List (List Nat) → Nat → List (List Nat)
  | [], x => [[x]]
  | r :: rs, x => if fg r x = r.length then (r ++ [x]) :: rs else r.set (fg r x) x :: ins rs (r.getD (fg r x) 0)
def insT : List (List Nat) → List (List Nat) → Nat → Nat → List (List Nat)
  | [], _, _, k => [[k]]
  | r :: rs, T, x, k => if fg r x = r.length then (T.headD [] ++ [k]) :: T.tail else T.headD [] :: insT rs T.tail (r.getD (fg r x) 0) k
theorem szL_cons (r : List Nat) (rs : List (List Nat)) : szL (r :: rs) = r.length + szL rs := by simp [szL]
theorem szL_app (a b : List (List Nat)) : szL (a ++ b) = szL a + szL b := by simp [szL]
theorem szL_ins : ∀ (P : List (List Nat)) (x : Nat), szL (ins P x) = szL P + 1
  | [], x => by simp [ins, szL]
  | r :: rs, x => by
    unfold ins
    split
    · rw [szL_cons, szL_cons, List.length_append, List.length_singleton]; omega
    · rw [szL_cons, szL_cons, List.length_set, szL_ins rs]; omega
def neL (P : List (List Nat)) : Prop := ∀ r ∈ P, 0 < r.length
theorem neL_ins : ∀ (P : List (List Nat)) (x : Nat), neL P → neL (ins P x)
  | [], x, _ => by intro r hr; simp [ins] at hr; subst hr; simp
  | r :: rs, x, h => by
    unfold ins
    have h1 := h r List.mem_cons_self
    have h2 : neL rs := fun q hq => h q (List.mem_cons_of_mem _ hq)
    split
    · intro q hq
      rcases List.mem_cons.mp hq with rfl | hq
      · simp
      · exact h2 q hq
    · intro q hq
      rcases List.mem_cons.mp hq with rfl | hq
      · rw [List.length_set]; exact h1
      · exact neL_ins rs _ h2 q hq
theorem neL_len : ∀ (P : List (List Nat)), neL P → P.length ≤ szL P
  | [], _ => Nat.le_refl _
  | r :: rs, h => by
    have h1 := h r List.mem_cons_self
    have h2 := neL_len rs (fun q hq => h q (List.mem_cons_of_mem _ hq))
    rw [szL_cons, List.length_cons]
    omega
/-- rows of the same lengths -/
def parL (P T : List (List Nat)) : Prop := P.map List.length = T.map List.length
theorem parL_ins : ∀ (P T : List (List Nat)) (x k : Nat), parL P T → parL (ins P x) (insT P T x k)
  | [], T, x, k, _ => by simp [ins, insT, parL]
  | r :: rs, [], x, k, h => by simp [parL] at h
  | r :: rs, t :: ts, x, k, h => by
    simp only [parL, List.map_cons, List.cons.injEq] at h
    unfold ins insT
    split
    · simp [parL, h.1, h.2]
    · have := parL_ins rs ts (r.getD (fg r x) 0) k h.2
      simp only [parL] at this ⊢
      rw [List.map_cons, List.map_cons, List.length_set, this]
      simp only [List.headD_cons, h.1, List.tail_cons]
theorem parL_get {P T : List (List Nat)} (h : parL P T) (r : Nat) : (T.getD r []).length = (P.getD r []).length := by
  have h1 : (P.map List.length)[r]? = (T.map List.length)[r]? := by rw [h]
  rw [List.getElem?_map, List.getElem?_map] at h1
  rw [List.getD_eq_getElem?_getD, List.getD_eq_getElem?_getD]
  cases hp : P[r]? <;> cases ht : T[r]? <;> rw [hp, ht] at h1 <;> simp at h1 ⊢
  exact h1.symm
theorem getD_mid {α : Type} {D : List α} {r : α} {rs : List α} {dflt : α} (q : Nat) : (D ++ r :: rs).getD q dflt = if q = D.length then r else if q < D.length then D.getD q dflt else rs.getD (q - D.length - 1) dflt := by
  rw [List.getD_eq_getElem?_getD]
  by_cases h1 : q = D.length
  · rw [if_pos h1]; subst h1; simp
  · rw [if_neg h1]
    by_cases h2 : q < D.length
    · rw [if_pos h2, List.getElem?_append_left h2, List.getD_eq_getElem?_getD]
    · rw [if_neg h2, List.getElem?_append_right (by omega), List.getD_eq_getElem?_getD]
      obtain ⟨k, hk⟩ : ∃ k, q - D.length = k + 1 := ⟨q - D.length - 1, by omega⟩
      rw [hk, List.getElem?_cons_succ, show k + 1 - 1 = k by omega]
theorem getD_out {α : Type} {D : List α} {dflt : α} {q : Nat} (h : D.length ≤ q) : D.getD q dflt = dflt := by
  rw [List.getD_eq_getElem?_getD, List.getElem?_eq_none h]; rfl
theorem getD_set_nat {l : List Nat} {c x j : Nat} (hc : c < l.length) : (l.set c x).getD j 0 = if j = c then x else l.getD j 0 := by
  rw [List.getD_eq_getElem?_getD, List.getElem?_set, List.getD_eq_getElem?_getD]
  by_cases e : c = j
  · subst e; simp [hc]
  · rw [if_neg e, if_neg (fun q => e q.symm)]
/-- a row in the middle is another one -/
theorem isAdd_mid {D rs : List (List Nat)} {r : List Nat} {x : Nat} : isAdd (D ++ r :: rs) (D ++ (r ++ [x]) :: rs) D.length x := by
  refine ⟨fun q => ?_, by simp, by rw [szL_app, szL_app, szL_cons, szL_cons, List.length_append, List.length_singleton]; omega⟩
  rw [getD_mid, getD_mid, getD_mid]
  by_cases h1 : q = D.length
  · rw [if_pos h1, if_pos h1, if_pos rfl]
  · rw [if_neg h1, if_neg h1, if_neg h1]
theorem isAdd_end {D : List (List Nat)} {x : Nat} : isAdd D (D ++ [[x]]) D.length x := by
  refine ⟨fun q => ?_, by simp, by rw [szL_app]; simp [szL]⟩
  have z1 : D.getD D.length [] = [] := getD_out (Nat.le_refl _)
  rw [getD_mid, z1]
  by_cases h1 : q = D.length
  · rw [if_pos h1, if_pos h1]; rfl
  · rw [if_neg h1, if_neg h1]
    by_cases h2 : q < D.length
    · rw [if_pos h2]
    · have z2 : D.getD q [] = [] := getD_out (by omega)
      rw [if_neg h2, z2, getD_out (by simp)]
theorem GI_set {h : gH} {g : Nat} {P P' T : List (List Nat)} {r c x : Nat} (hI : GI h g P T) (hr : r < 6) (hc : c < (P.getD r []).length) (hx : x ≤ 9) (hP : ∀ q, P'.getD q [] = if q = r then (P.getD r []).set c x else P.getD q []) (hl : P'.length = P.length) (hz : szL P' = szL P) : GI (sI h (g + 2) (r * 6 + c) (nI x)) g P' T := by
  obtain ⟨a0, a1, a2, a3, a4, a5, a6, a7, a8, a9⟩ := hI
  have hr7 := a7 r
  have hlen : ∀ q, (P'.getD q []).length = (P.getD q []).length := fun q => by
    rw [hP]
    by_cases e : q = r
    · rw [if_pos e, List.length_set, e]
    · rw [if_neg e]
  refine ⟨?_, ?_, fun q hq => ?_, fun q j hq hj => ?_, fun q j hq hj => ?_, by rw [hl]; exact a5, by rw [hz]; exact a6, fun q => by rw [hlen]; exact a7 q, fun q j => ?_, a9⟩
  · rw [gI_sI, if_neg (by omega), hl]; exact a0
  · rw [gI_sI, if_neg (by omega), hz]; exact a1
  · rw [gI_sI, if_neg (by omega), hlen]; exact a2 q hq
  · rw [hlen] at hj
    have hq7 := a7 q
    rw [gI_sI, hP]
    by_cases e : q = r
    · subst e
      rw [if_pos rfl, getD_set_nat hc]
      by_cases ec : j = c
      · rw [if_pos ⟨rfl, by omega⟩, if_pos ec]
      · rw [if_neg (by omega), if_neg ec]; exact a3 q j hq hj
    · rw [if_neg (by omega), if_neg e]; exact a3 q j hq hj
  · rw [hlen] at hj
    rw [gI_sI, if_neg (by omega)]; exact a4 q j hq hj
  · rw [hP]
    by_cases e : q = r
    · rw [if_pos e, getD_set_nat hc]
      by_cases ec : j = c
      · rw [if_pos ec]; exact hx
      · rw [if_neg ec]; exact a8 r j
    · rw [if_neg e]; exact a8 q j
section C15
variable {Γ : gM} {d : Nat} {h : gH} {Q : Option Value → gH → Prop} {g : Nat}
set_option maxRecDepth 100000 in
set_option maxHeartbeats 4000000 in
theorem c_insertLetter {P T : List (List Nat)} {x : Nat} (hd : 2 ≤ d) (hG : GLay h g) (hI : GI h g P T) (hx : x ≤ 9) (hs : szL P < 6) (hn : neL P) (hpar : parL P T) (hQ : ∀ h', GI h' g (ins P x) (insT P T x (szL P + 1)) → Fr1 h h' g (g + 4) → Q none h') : V Γ mX2_insertLetter d 124 124 h 0 [some (.ref g), some (.int (nI x)), none, none, none, none, none] [] Q := by
  have loop : ∀ (rest restT D DT : List (List Nat)) (y : Nat) (h1 : gH) (a4 a5 a6 : Option Value), GI h1 g (D ++ rest) (DT ++ restT) → Fr1 h h1 g (g + 4) → y ≤ 9 → szL (D ++ rest) = szL P → neL (D ++ rest) → parL D DT → parL rest restT → (∀ h', GI h' g (D ++ ins rest y) (DT ++ insT rest restT y (szL P + 1)) → Fr1 h h' g (g + 4) → Q none h') → V Γ mX2_insertLetter d 124 124 h1 4 [some (.ref g), some (.int (nI x)), some (.int (nI y)), some (.int (nI D.length)), a4, a5, a6] [] Q := by
    intro rest
    induction rest with
    | nil =>
      intro restT D DT y h1 a4 a5 a6 hI1 hF1 hy hz hne hpD hpr hQ1
      have hG1 := GLay_fr hG hF1.2.2
      obtain ⟨g0, g1, g2, g3, gN, q2, q3, q4⟩ := id hG1
      have hdl : D.length ≤ 5 := by have := neL_len _ hne; rw [List.append_nil] at this hz; omega
      have hrT : restT = [] := by cases restT with
        | nil => rfl
        | cons a b => simp [parL] at hpr
      subst hrT
      have hlT : DT.length = D.length := by have := congrArg List.length hpD; simpa using this.symm
      have hz0 : ((D ++ ([] : List (List Nat))).getD D.length []).length = 0 := by rw [List.append_nil, getD_out (Nat.le_refl _)]; rfl
      have w := hI1.2.2.1 D.length (by omega)
      rw [hz0] at w
      have hf0 : fg ((D ++ ([] : List (List Nat))).getD D.length []) y = 0 := by rw [List.append_nil, getD_out (Nat.le_refl _)]; rfl
      refine V_iloadn3 dX2_insertLetter_4 ?_
      refine V_bipush (v := nI 6) dX2_insertLetter_5 (by decide) ?_
      first | refine U_icmp_ge (tgt := 71) dX2_insertLetter_7 (by decide) (by with_reducible rfl) (by with_reducible rfl) (by omega) (by omega) (fun c7 => ?_) (fun c7 => ?_) | refine V_icmp_ge (tgt := 71) dX2_insertLetter_7 (by decide) (fun c7 => ?_) (fun c7 => ?_)
      · skip
        omega
      · skip
        refine V_aloadn0 dX2_insertLetter_10 ?_
        refine V_iloadn3 dX2_insertLetter_11 ?_
        refine V_iloadn2 dX2_insertLetter_12 ?_
        refine V_callV2 (μ' := mX2_firstGreater) dX2_insertLetter_13 okX2_firstGreater lX2_56 rfl (by first | assumption | rfl) (by first | decide | omega) (Nat.le_of_ble_eq_true rfl) (Nat.le_of_ble_eq_true rfl) (by omega) ?_
        refine c_firstGreater (by omega) hG1 hI1 (by omega) hy ?_
        rw [hf0]
        dsimp only [gPush]
        refine V_istorew4 dX2_insertLetter_16 (by decide) rfl ?_
        refine V_iloadw4 dX2_insertLetter_18 ?_
        refine V_aloadn0 dX2_insertLetter_20 ?_
        refine V_getR dX2_insertLetter_21 fX2_9 (by first | assumption | rfl) (by first | decide | omega) (by first | assumption | rfl) ?_
        refine V_iloadn3 dX2_insertLetter_24 ?_
        refine U_iald dX2_insertLetter_25 (by with_reducible rfl) (by first | assumption | rfl) (by first | decide | omega) (by omega) (by first | assumption | rfl) ?_
        first | refine U_icmp_ne (tgt := 36) dX2_insertLetter_26 (by decide) (by with_reducible rfl) (by with_reducible rfl) (by omega) (by omega) (fun c26 => ?_) (fun c26 => ?_) | refine V_icmp_ne (tgt := 36) dX2_insertLetter_26 (by decide) (fun c26 => ?_) (fun c26 => ?_)
        · skip
          exact absurd rfl c26
        · skip
          refine V_aloadn0 dX2_insertLetter_29 ?_
          refine V_iloadn3 dX2_insertLetter_30 ?_
          refine V_iloadn2 dX2_insertLetter_31 ?_
          refine V_callV2 (μ' := mX2_append) dX2_insertLetter_32 okX2_append lX2_59 rfl (by first | assumption | rfl) (by first | decide | omega) (Nat.le_of_ble_eq_true rfl) (Nat.le_of_ble_eq_true rfl) (by omega) ?_
          refine c_append (P' := D ++ [[y]]) (T' := DT ++ [[szL P + 1]]) (by omega) hG1 hI1 (by omega) hy (by rw [hz]; exact hs) (by rw [hz0]; decide) (by rw [List.append_nil]; exact isAdd_end) (fun q => ?_) ?_ (fun h2 hI2 hF2 => ?_)
          · have z1 : DT.getD D.length [] = [] := getD_out (by omega)
            rw [hz, List.append_nil, getD_mid, hlT, z1]
            by_cases e : q = D.length
            · rw [if_pos e, if_pos e]; rfl
            · rw [if_neg e, if_neg e]
              by_cases e2 : q < D.length
              · rw [if_pos e2]
              · have z2 : DT.getD q [] = [] := getD_out (by omega)
                rw [if_neg e2, z2, getD_out (by simp)]
          · rw [hz0, List.append_nil, getD_out (by omega)]; rfl
          dsimp only [gPush]
          refine V_ret dX2_insertLetter_35 rfl ?_
          exact hQ1 h2 hI2 (hF1.tr hF2)
    | cons r rs ih =>
      intro restT D DT y h1 a4 a5 a6 hI1 hF1 hy hz hne hpD hpr hQ1
      have hG1 := GLay_fr hG hF1.2.2
      obtain ⟨g0, g1, g2, g3, gN, q2, q3, q4⟩ := id hG1
      obtain ⟨t, ts, rfl⟩ : ∃ t ts, restT = t :: ts := by cases restT with
        | nil => simp [parL] at hpr
        | cons a b => exact ⟨a, b, rfl⟩
      have hrt : r.length = t.length ∧ parL rs ts := by simpa [parL] using hpr
      have hlT : DT.length = D.length := by have := congrArg List.length hpD; simpa using this.symm
      have hdl : D.length ≤ 5 := by
        have := neL_len _ hne
        rw [List.length_append, List.length_cons] at this
        omega
      have hrow : (D ++ r :: rs).getD D.length [] = r := by rw [getD_mid, if_pos rfl]
      have w := hI1.2.2.1 D.length (by omega)
      rw [hrow] at w
      have hfl := fg_le r y
      have hr6 := hI1.2.2.2.2.2.2.2.1 D.length
      rw [hrow] at hr6
      have hcell : ∀ c, c < r.length → gI h1 (g + 2) (D.length * 6 + c) = nI (r.getD c 0) := fun c hc => by
        have := hI1.2.2.2.1 D.length c (by omega) (by rw [hrow]; exact hc)
        rw [hrow] at this
        exact this
      have hlet : ∀ c, r.getD c 0 ≤ 9 := fun c => by have := hI1.2.2.2.2.2.2.2.2.1 D.length c; rw [hrow] at this; exact this
      refine V_iloadn3 dX2_insertLetter_4 ?_
      refine V_bipush (v := nI 6) dX2_insertLetter_5 (by decide) ?_
      first | refine U_icmp_ge (tgt := 71) dX2_insertLetter_7 (by decide) (by with_reducible rfl) (by with_reducible rfl) (by omega) (by omega) (fun c7 => ?_) (fun c7 => ?_) | refine V_icmp_ge (tgt := 71) dX2_insertLetter_7 (by decide) (fun c7 => ?_) (fun c7 => ?_)
      · skip
        omega
      · skip
        refine V_aloadn0 dX2_insertLetter_10 ?_
        refine V_iloadn3 dX2_insertLetter_11 ?_
        refine V_iloadn2 dX2_insertLetter_12 ?_
        refine V_callV2 (μ' := mX2_firstGreater) dX2_insertLetter_13 okX2_firstGreater lX2_56 rfl (by first | assumption | rfl) (by first | decide | omega) (Nat.le_of_ble_eq_true rfl) (Nat.le_of_ble_eq_true rfl) (by omega) ?_
        refine c_firstGreater (by omega) hG1 hI1 (by omega) hy ?_
        rw [hrow]
        dsimp only [gPush]
        refine V_istorew4 dX2_insertLetter_16 (by decide) rfl ?_
        refine V_iloadw4 dX2_insertLetter_18 ?_
        refine V_aloadn0 dX2_insertLetter_20 ?_
        refine V_getR dX2_insertLetter_21 fX2_9 (by first | assumption | rfl) (by first | decide | omega) (by first | assumption | exact hcell _ (by omega) | rfl) ?_
        refine V_iloadn3 dX2_insertLetter_24 ?_
        refine U_iald dX2_insertLetter_25 (by with_reducible rfl) (by first | assumption | rfl) (by first | decide | omega) (by omega) (by first | assumption | exact hcell _ (by omega) | rfl) ?_
        first | refine U_icmp_ne (tgt := 36) dX2_insertLetter_26 (by decide) (by with_reducible rfl) (by with_reducible rfl) (by omega) (by omega) (fun c26 => ?_) (fun c26 => ?_) | refine V_icmp_ne (tgt := 36) dX2_insertLetter_26 (by decide) (fun c26 => ?_) (fun c26 => ?_)
        · skip
          rw [ins, if_neg c26, insT, if_neg c26] at hQ1
          have hc : fg r y < r.length := by omega
          have hI2 := GI_set (P' := D ++ r.set (fg r y) y :: rs) hI1 (r := D.length) (c := fg r y) (x := y) (by omega) (by rw [hrow]; exact hc) hy (fun q => by
            rw [hrow, getD_mid, getD_mid]
            by_cases e : q = D.length
            · rw [if_pos e, if_pos e]
            · rw [if_neg e, if_neg e, if_neg e]) (by simp) (by rw [szL_app, szL_app, szL_cons, szL_cons, List.length_set])
          refine V_iloadn3 dX2_insertLetter_36 ?_
          refine V_bipush (v := nI 6) dX2_insertLetter_37 (by decide) ?_
          first | refine U_imul dX2_insertLetter_39 (by with_reducible rfl) (by with_reducible rfl) ?_ | refine V_imul dX2_insertLetter_39 ?_
          refine V_iloadw4 dX2_insertLetter_40 ?_
          first | refine U_iadd dX2_insertLetter_42 (by with_reducible rfl) (by with_reducible rfl) ?_ | refine V_iadd dX2_insertLetter_42 ?_
          refine V_istorew5 dX2_insertLetter_43 (by decide) rfl ?_
          refine V_aloadn0 dX2_insertLetter_45 ?_
          refine V_getR dX2_insertLetter_46 fX2_15 (by first | assumption | rfl) (by first | decide | omega) (by first | assumption | exact hcell _ (by omega) | rfl) ?_
          refine V_iloadw5 dX2_insertLetter_49 ?_
          refine U_iald dX2_insertLetter_51 (by with_reducible rfl) (by first | assumption | rfl) (by first | decide | omega) (by omega) (by first | assumption | exact hcell _ (by omega) | rfl) ?_
          refine V_istorew6 dX2_insertLetter_52 (by decide) rfl ?_
          refine V_aloadn0 dX2_insertLetter_54 ?_
          refine V_getR dX2_insertLetter_55 fX2_15 (by first | assumption | rfl) (by first | decide | omega) (by first | assumption | exact hcell _ (by omega) | rfl) ?_
          refine V_iloadw5 dX2_insertLetter_58 ?_
          refine V_iloadn2 dX2_insertLetter_60 ?_
          refine U_iast dX2_insertLetter_61 (by with_reducible rfl) (by first | assumption | rfl) (by first | decide | omega) (by omega) ?_
          refine V_iloadw6 dX2_insertLetter_62 ?_
          refine V_istoren2 dX2_insertLetter_64 (by decide) rfl ?_
          refine V_iinc3 dX2_insertLetter_65 (by first | exact ginc1 _ | rfl) (by decide) rfl ?_
          refine V_goto (tgt := 4) dX2_insertLetter_68 (by decide) ?_
          rw [show D.length + 1 = (D ++ [r.set (fg r y) y]).length by simp]
          refine ih ts (D ++ [r.set (fg r y) y]) (DT ++ [t]) (r.getD (fg r y) 0) _ _ _ _ (by rw [List.append_assoc, List.append_assoc]; exact hI2) (fr_sI hF1 (by omega) (by omega)) (hlet _) ?_ ?_ ?_ hrt.2 (fun h' a b => hQ1 h' (by rw [List.append_assoc, List.append_assoc] at a; exact a) b)
          · rw [← hz, List.append_assoc, List.singleton_append, szL_app, szL_app, szL_cons, szL_cons, List.length_set]
          · intro q hq
            rw [List.append_assoc, List.singleton_append] at hq
            rcases List.mem_append.mp hq with hq | hq
            · exact hne q (List.mem_append_left _ hq)
            · rcases List.mem_cons.mp hq with rfl | hq
              · rw [List.length_set]; omega
              · exact hne q (List.mem_append_right _ (List.mem_cons_of_mem _ hq))
          · simp only [parL, List.map_append, List.map_cons, List.map_nil, List.length_set] at hpD ⊢; rw [hpD, hrt.1]
        · skip
          rw [ins, if_pos c26, insT, if_pos c26] at hQ1
          refine V_aloadn0 dX2_insertLetter_29 ?_
          refine V_iloadn3 dX2_insertLetter_30 ?_
          refine V_iloadn2 dX2_insertLetter_31 ?_
          refine V_callV2 (μ' := mX2_append) dX2_insertLetter_32 okX2_append lX2_59 rfl (by first | assumption | rfl) (by first | decide | omega) (Nat.le_of_ble_eq_true rfl) (Nat.le_of_ble_eq_true rfl) (by omega) ?_
          refine c_append (P' := D ++ (r ++ [y]) :: rs) (T' := DT ++ (t ++ [szL P + 1]) :: ts) (by omega) hG1 hI1 (by omega) hy (by rw [hz]; exact hs) ?_ isAdd_mid (fun q => ?_) ?_ (fun h2 hI2 hF2 => ?_)
          · rw [hrow]; rw [szL_app, szL_cons] at hz; omega
          · rw [hz, getD_mid, getD_mid, getD_mid, hlT, if_pos rfl]
            by_cases e : q = D.length
            · rw [if_pos e, if_pos e]
            · rw [if_neg e, if_neg e, if_neg e]
          · rw [getD_mid, hlT, if_pos rfl, hrow]; exact hrt.1.symm
          dsimp only [gPush]
          refine V_ret dX2_insertLetter_35 rfl ?_
          exact hQ1 h2 hI2 (hF1.tr hF2)
  refine V_iloadn1 dX2_insertLetter_0 ?_
  refine V_istoren2 dX2_insertLetter_1 (by decide) rfl ?_
  refine V_iconst (v := nI 0) dX2_insertLetter_2 (by decide) ?_
  refine V_istoren3 dX2_insertLetter_3 (by decide) rfl ?_
  exact loop P T [] [] x h _ _ _ hI Fr1.rf hx rfl hn rfl hpar hQ
def insW (w : List Nat) : Nat → List (List Nat)
  | 0 => []
  | i + 1 => ins (insW w i) (w.getD i 0)
def turW (w : List Nat) : Nat → List (List Nat)
  | 0 => []
  | i + 1 => insT (insW w i) (turW w i) (w.getD i 0) (i + 1)
theorem insW_sz (w : List Nat) : ∀ i, szL (insW w i) = i
  | 0 => rfl
  | i + 1 => by rw [insW, szL_ins, insW_sz w i]
theorem insW_ne (w : List Nat) : ∀ i, neL (insW w i)
  | 0 => fun r hr => absurd hr List.not_mem_nil
  | i + 1 => neL_ins _ _ (insW_ne w i)
theorem insW_par (w : List Nat) : ∀ i, parL (insW w i) (turW w i)
  | 0 => rfl
  | i + 1 => parL_ins _ _ _ _ (insW_par w i)
set_option maxRecDepth 100000 in
set_option maxHeartbeats 4000000 in
theorem c_insertAll {t kd : Nat} {w L : List Nat} (hd : 3 ≤ d) (hG : GLay h g) (hT : TL h t) (hTI : TI h t kd w L) (hgt : g + 4 ≤ t ∨ t + 3 ≤ g) (hQ : ∀ h', GI h' g (insW w w.length) (turW w w.length) → Fr1 h h' g (g + 4) → Q none h') : V Γ mX2_insertAll d 124 124 h 0 [some (.ref g), some (.ref t), none] [] Q := by
  obtain ⟨g0, g1, g2, g3, gN, q2, q3, q4⟩ := id hG
  obtain ⟨l0, l1, l2, lt, r2, r4⟩ := id hT
  have loop : ∀ k i h1, w.length - i = k → i ≤ w.length → GI h1 g (insW w i) (turW w i) → Fr1 h h1 g (g + 4) → V Γ mX2_insertAll d 124 124 h1 6 [some (.ref g), some (.ref t), some (.int (nI i))] [] Q := by
    intro k
    induction k using Nat.strongRecOn with
    | _ k ih =>
      intro i h1 hk hi hI1 hF1
      obtain ⟨i0, i1, i3, iw, iL, iwl, iLl, iwb, iLb, ik⟩ := TI_fr hTI hF1 (by omega)
      have r2' : gR h1 t 2 = some (t + 1) := by rw [hF1.2.2]; exact r2
      have hz := insW_sz w i
      refine V_iloadn2 dX2_insertAll_6 ?_
      refine V_aloadn1 dX2_insertAll_7 ?_
      refine V_getI dX2_insertAll_8 fX2_46 (Or.inl rfl) (by first | assumption | rfl) (by first | decide | omega) (by first | assumption | exact iw _ (by omega) | rfl) ?_
      first | refine U_icmp_ge (tgt := 30) dX2_insertAll_11 (by decide) (by with_reducible rfl) (by with_reducible rfl) (by omega) (by omega) (fun c11 => ?_) (fun c11 => ?_) | refine V_icmp_ge (tgt := 30) dX2_insertAll_11 (by decide) (fun c11 => ?_) (fun c11 => ?_)
      · skip
        have e : i = w.length := by omega
        subst e
        refine V_ret dX2_insertAll_30 rfl ?_
        exact hQ h1 hI1 hF1
      · skip
        refine V_aloadn0 dX2_insertAll_14 ?_
        refine V_aloadn1 dX2_insertAll_15 ?_
        refine V_getR dX2_insertAll_16 fX2_49 (by first | assumption | rfl) (by first | decide | omega) (by first | assumption | exact iw _ (by omega) | rfl) ?_
        refine V_iloadn2 dX2_insertAll_19 ?_
        refine U_iald dX2_insertAll_20 (by with_reducible rfl) (by first | assumption | rfl) (by first | decide | omega) (by omega) (by first | assumption | exact iw _ (by omega) | rfl) ?_
        refine V_callV1 (μ' := mX2_insertLetter) dX2_insertAll_21 okX2_insertLetter lX2_52 rfl (by first | assumption | rfl) (by first | decide | omega) (Nat.le_of_ble_eq_true rfl) (Nat.le_of_ble_eq_true rfl) (by omega) ?_
        refine c_insertLetter (by omega) (GLay_fr hG hF1.2.2) hI1 (iwb i) (by omega) (insW_ne w i) (insW_par w i) (fun h2 hI2 hF2 => ?_)
        rw [hz] at hI2
        dsimp only [gPush]
        refine V_iinc2 dX2_insertAll_24 (by first | exact ginc1 _ | rfl) (by decide) rfl ?_
        refine V_goto (tgt := 6) dX2_insertAll_27 (by decide) ?_
        exact ih (w.length - (i + 1)) (by omega) (i + 1) h2 rfl (by omega) hI2 (hF1.tr hF2)
  refine V_aloadn0 dX2_insertAll_0 ?_
  refine V_callV0 (μ' := mX2_clear) dX2_insertAll_1 okX2_clear lX2_43 rfl (by first | assumption | rfl) (by first | decide | omega) (Nat.le_of_ble_eq_true rfl) (Nat.le_of_ble_eq_true rfl) (by omega) ?_
  refine c_clear (by omega) hG (fun h2 hI2 hF2 => ?_)
  dsimp only [gPush]
  refine V_iconst (v := nI 0) dX2_insertAll_4 (by decide) ?_
  refine V_istoren2 dX2_insertAll_5 (by decide) rfl ?_
  exact loop _ 0 h2 rfl (by omega) hI2 hF2
end C15
