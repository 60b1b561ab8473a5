/-! ===== the class: words told by digits; things compared; rows filled ===== -/
theorem gdecS (a : Nat) : nI a + Int32.ofInt (-1) = nI a - nI 1 := by
  rw [show Int32.ofInt (-1) = -(nI 1) by decide, Int32.sub_eq_add_neg]
theorem gdecP (a : Nat) : nI (a + 1) - nI 1 = nI a := nI_pred a
theorem gdec_lt {q : Nat} (hq : q < 2 ^ 31) : nI q - nI 1 < 0 ↔ q = 0 := by
  constructor
  · intro hlt
    cases q with
    | zero => rfl
    | succ q => rw [gdecP] at hlt; exact absurd hlt (nI_pos (by omega))
  · intro e; subst e; decide
theorem Fr1.rf {h : gH} {lo hi : Nat} : Fr1 h h lo hi := ⟨fun _ _ => rfl, rfl, rfl⟩
theorem Fr1.tr {h h' h'' : gH} {lo hi : Nat} (a : Fr1 h h' lo hi) (b : Fr1 h' h'' lo hi) : Fr1 h h'' lo hi := ⟨fun q hq => (b.1 q hq).trans (a.1 q hq), b.2.1.trans a.2.1, b.2.2.trans a.2.2⟩
theorem Fr1.wd {h h' : gH} {lo hi lo' hi' : Nat} (a : Fr1 h h' lo hi) (h1 : lo' ≤ lo) (h2 : hi ≤ hi') : Fr1 h h' lo' hi' := ⟨fun q hq => a.1 q (by omega), a.2.1, a.2.2⟩
theorem fr_sI {h h' : gH} {lo hi t k : Nat} {v : Int32} (a : Fr1 h h' lo hi) (h1 : lo ≤ t) (h2 : t < hi) : Fr1 h (sI h' t k v) lo hi := ⟨fun q hq => by
  have e : gI (sI h' t k v) q = gI h' q := by
    funext b
    rw [gI_sI, if_neg (by omega)]
  rw [e]; exact a.1 q hq, a.2.1, a.2.2⟩
theorem list_ext0 {w w' : List Nat} (hl : w.length = w'.length) (he : ∀ p, p < w.length → w.getD p 0 = w'.getD p 0) : w = w' := by
  apply List.ext_getElem hl
  intro p h1 h2
  have := he p h1
  rw [List.getD_eq_getElem?_getD, List.getD_eq_getElem?_getD, List.getElem?_eq_getElem h1, List.getElem?_eq_getElem h2] at this
  exact this
theorem TI_fr {h h' : gH} {t kd lo hi : Nat} {w L : List Nat} (hI : TI h t kd w L) (f : Fr1 h h' lo hi) (ht : t + 3 ≤ lo ∨ hi ≤ t) : TI h' t kd w L := by
  obtain ⟨i0, i1, i3, iw, iL, r⟩ := hI
  have e0 := f.1 t (by omega)
  have e1 := f.1 (t + 1) (by omega)
  have e2 := f.1 (t + 2) (by omega)
  exact ⟨by rw [e0]; exact i0, by rw [e0]; exact i1, by rw [e0]; exact i3, fun p hp => by rw [e1]; exact iw p hp, fun p hp => by rw [e2]; exact iL p hp, r⟩
theorem TL_fr {h h' : gH} {t : Nat} (hT : TL h t) (e : gR h' = gR h) : TL h' t := by
  obtain ⟨l0, l1, l2, lt, r2, r4⟩ := hT
  exact ⟨l0, l1, l2, lt, by rw [e]; exact r2, by rw [e]; exact r4⟩
def digL (D m : Nat) : List Nat := (List.range m).map (fun p => D / 10 ^ (m - 1 - p) % 10)
theorem digL_len (D m : Nat) : (digL D m).length = m := by simp [digL]
theorem digL_get {D m p : Nat} (hp : p < m) : (digL D m).getD p 0 = D / 10 ^ (m - 1 - p) % 10 := by
  rw [List.getD_eq_getElem?_getD]
  simp [digL, hp]
theorem digL_le (D m p : Nat) : (digL D m).getD p 0 ≤ 9 := by
  by_cases hp : p < m
  · rw [digL_get hp]
    have := Nat.mod_lt (D / 10 ^ (m - 1 - p)) (by decide : 10 > 0)
    omega
  · rw [List.getD_eq_getElem?_getD, List.getElem?_eq_none (by rw [digL_len]; omega)]
    decide
/-- the digits tell a word of letters 1 to n -/
def wordOk (D n : Nat) : Bool := decide (ndF 10 D ≤ 6) && (digL D (ndF 10 D)).all (fun x => decide (1 ≤ x ∧ x ≤ n))
theorem wordOk_t {D n : Nat} (h : ndF 10 D ≤ 6) (ha : ∀ p, p < ndF 10 D → 1 ≤ (digL D (ndF 10 D)).getD p 0 ∧ (digL D (ndF 10 D)).getD p 0 ≤ n) : wordOk D n = true := by
  unfold wordOk
  rw [decide_eq_true h, Bool.true_and, List.all_eq_true]
  intro x hx
  obtain ⟨p, hp, rfl⟩ := List.getElem_of_mem hx
  have h1 := ha p (by rw [digL_len] at hp; exact hp)
  rw [List.getD_eq_getElem?_getD, List.getElem?_eq_getElem hp] at h1
  simpa using h1
theorem wordOk_f {D n p : Nat} (hp : p < ndF 10 D) (ha : ¬ (1 ≤ (digL D (ndF 10 D)).getD p 0 ∧ (digL D (ndF 10 D)).getD p 0 ≤ n)) : wordOk D n = false := by
  unfold wordOk
  rw [Bool.and_eq_false_iff]
  right
  rw [List.all_eq_false]
  have hp2 : p < (digL D (ndF 10 D)).length := by rw [digL_len]; exact hp
  refine ⟨(digL D (ndF 10 D))[p], List.getElem_mem hp2, ?_⟩
  rw [List.getD_eq_getElem?_getD, List.getElem?_eq_getElem hp2] at ha
  simpa using ha
section C12
variable {Γ : gM} {d : Nat} {h : gH} {Q : Option Value → gH → Prop} {t : Nat}
set_option maxRecDepth 100000 in
set_option maxHeartbeats 4000000 in
theorem c_becomesWord {D n : Nat} (hd : 1 ≤ d) (hD : D < 2 ^ 31) (hn : n ≤ 5) (hT : TL h t) (hQt : wordOk D n = true → ∀ h', TI h' t 1 (digL D (ndF 10 D)) [] → Fr1 h h' t (t + 3) → Q (some (.int (gBo true))) h') (hQf : wordOk D n = false → ∀ h', Fr1 h h' t (t + 3) → Q (some (.int (gBo false))) h') :
    V Γ mX8_becomesWord d 124 124 h 0 [some (.ref t), some (.int (nI D)), some (.int (nI n)), none, none, none] [] Q := by
  obtain ⟨l0, l1, l2, lt, r2, r4⟩ := id hT
  generalize hm : ndF 10 D = m at hQt hQf ⊢
  have hm10 : m ≤ 10 := by rw [← hm]; exact ndF_le 10 D
  have loop : ∀ q h1, q ≤ m → m ≤ 6 → gR h1 = gR h → gI h1 t 0 = nI 1 ∧ gI h1 t 1 = nI m ∧ gI h1 t 3 = nI 0 → (∀ p, q ≤ p → p < m → gI h1 (t + 1) p = nI ((digL D m).getD p 0) ∧ 1 ≤ (digL D m).getD p 0 ∧ (digL D m).getD p 0 ≤ n) → Fr1 h h1 t (t + 3) → V Γ mX8_becomesWord d 124 124 h1 30 [some (.ref t), some (.int (nI D)), some (.int (nI n)), some (.int (nI m)), some (.int (nI (D / 10 ^ (m - q)))), some (.int (nI q - nI 1))] [] Q := by
    intro q
    induction q with
    | zero =>
      intro h1 hq h6 hR hf hp hF
      have hc : wordOk D n = true := wordOk_t (by omega) (fun p hp2 => by rw [hm] at hp2 ⊢; exact (hp p (by omega) hp2).2)
      refine V_iloadw5 dX8_becomesWord_30 ?_
      refine V_if_lt (tgt := 84) dX8_becomesWord_32 (by decide) (fun c32 => ?_) (fun c32 => ?_)
      · skip
        refine V_iconst (v := nI 1) dX8_becomesWord_84 (by decide) ?_
        refine V_iret dX8_becomesWord_85 rfl (by first | exact gBo_nar _ | rfl | decide) ?_
        refine hQt hc h1 ⟨hf.1, ?_, hf.2.2, fun p hp2 => (hp p (by omega) (by rw [digL_len] at hp2; exact hp2)).1, fun r hr => absurd hr (Nat.not_lt_zero _), by rw [digL_len]; omega, by decide, digL_le D m, fun r => ?_, by decide⟩ hF
        · rw [digL_len]; exact hf.2.1
        · rw [List.getD_eq_getElem?_getD]; simp
      · skip
        exact absurd ((gdec_lt (by omega)).mpr rfl) c32
    | succ q ih =>
      intro h1 hq h6 hR hf hp hF
      have r2' : gR h1 t 2 = some (t + 1) := by rw [hR]; exact r2
      have hx : D / 10 ^ (m - (q + 1)) < 2 ^ 31 := Nat.lt_of_le_of_lt (Nat.div_le_self _ _) hD
      have hdg : (digL D m).getD q 0 = D / 10 ^ (m - (q + 1)) % 10 := by rw [digL_get (by omega), show m - 1 - q = m - (q + 1) by omega]
      have hdl := digL_le D m q
      generalize hh2 : sI h1 (t + 1) q (nI ((digL D m).getD q 0)) = h2
      have f2 : Fr1 h h2 t (t + 3) := by rw [← hh2]; exact fr_sI hF (by omega) (by omega)
      have r2'' : gR h2 t 2 = some (t + 1) := by rw [← hh2]; exact r2'
      have g2 : gI h2 (t + 1) q = nI ((digL D m).getD q 0) := by rw [← hh2, gI_sI, if_pos ⟨rfl, rfl⟩]
      have keep : ∀ p, q + 1 ≤ p → p < m → gI h2 (t + 1) p = gI h1 (t + 1) p := fun p a b => by rw [← hh2, gI_sI, if_neg (by omega)]
      have hf2 : gI h2 t 0 = nI 1 ∧ gI h2 t 1 = nI m ∧ gI h2 t 3 = nI 0 := by
        have e : ∀ b, gI h2 t b = gI h1 t b := fun b => by rw [← hh2, gI_sI, if_neg (by omega)]
        rw [e, e, e]; exact hf
      have hnext : D / 10 ^ (m - (q + 1)) / 10 = D / 10 ^ (m - q) := by rw [Nat.div_div_eq_div_mul, ← Nat.pow_succ, show (m - (q + 1)).succ = m - q by omega]
      rw [gdecP]
      refine V_iloadw5 dX8_becomesWord_30 ?_
      refine V_if_lt (tgt := 84) dX8_becomesWord_32 (by decide) (fun c32 => ?_) (fun c32 => ?_)
      · skip
        exact absurd c32 (nI_pos (by omega))
      · skip
        refine V_aloadn0 dX8_becomesWord_35 ?_
        refine V_getR dX8_becomesWord_36 fX8_15 (by first | assumption | rfl) (by first | decide | omega) (by first | assumption | rfl) ?_
        refine V_iloadw5 dX8_becomesWord_39 ?_
        refine V_iloadw4 dX8_becomesWord_41 ?_
        refine V_bipush (v := nI 10) dX8_becomesWord_43 (by decide) ?_
        first | refine U_irem dX8_becomesWord_45 (by with_reducible rfl) (by with_reducible rfl) (by omega) (by omega) (by omega) ?_ | refine V_irem dX8_becomesWord_45 (by decide) ?_
        refine U_iast dX8_becomesWord_46 (by with_reducible rfl) (by first | assumption | rfl) (by first | decide | omega) (by omega) ?_
        rw [← hdg, hh2]
        refine V_iloadw4 dX8_becomesWord_47 ?_
        refine V_bipush (v := nI 10) dX8_becomesWord_49 (by decide) ?_
        first | refine U_idiv dX8_becomesWord_51 (by with_reducible rfl) (by with_reducible rfl) (by omega) (by omega) (by omega) ?_ | refine V_idiv dX8_becomesWord_51 (by decide) ?_
        refine V_istorew4 dX8_becomesWord_52 (by decide) rfl ?_
        refine V_aloadn0 dX8_becomesWord_54 ?_
        refine V_getR dX8_becomesWord_55 fX8_15 (by first | assumption | rfl) (by first | decide | omega) (by first | assumption | rfl) ?_
        refine V_iloadw5 dX8_becomesWord_58 ?_
        refine U_iald dX8_becomesWord_60 (by with_reducible rfl) (by first | assumption | rfl) (by first | decide | omega) (by omega) (by first | assumption | rfl) ?_
        refine V_iconst (v := nI 1) dX8_becomesWord_61 (by decide) ?_
        first | refine U_icmp_lt (tgt := 76) dX8_becomesWord_62 (by decide) (by with_reducible rfl) (by with_reducible rfl) (by omega) (by omega) (fun c62 => ?_) (fun c62 => ?_) | refine V_icmp_lt (tgt := 76) dX8_becomesWord_62 (by decide) (fun c62 => ?_) (fun c62 => ?_)
        · skip
          have hc : wordOk D n = false := wordOk_f (p := q) (by omega) (by rw [hm]; omega)
          refine V_iconst (v := nI 0) dX8_becomesWord_76 (by decide) ?_
          refine V_iret dX8_becomesWord_77 rfl (by first | exact gBo_nar _ | rfl | decide) ?_
          exact hQf hc h2 f2
        · skip
          refine V_aloadn0 dX8_becomesWord_65 ?_
          refine V_getR dX8_becomesWord_66 fX8_15 (by first | assumption | rfl) (by first | decide | omega) (by first | assumption | rfl) ?_
          refine V_iloadw5 dX8_becomesWord_69 ?_
          refine U_iald dX8_becomesWord_71 (by with_reducible rfl) (by first | assumption | rfl) (by first | decide | omega) (by omega) (by first | assumption | rfl) ?_
          refine V_iloadn2 dX8_becomesWord_72 ?_
          first | refine U_icmp_le (tgt := 78) dX8_becomesWord_73 (by decide) (by with_reducible rfl) (by with_reducible rfl) (by omega) (by omega) (fun c73 => ?_) (fun c73 => ?_) | refine V_icmp_le (tgt := 78) dX8_becomesWord_73 (by decide) (fun c73 => ?_) (fun c73 => ?_)
          · skip
            refine V_iinc5 dX8_becomesWord_78 (by first | exact gdecS _ | rfl) (by decide) rfl ?_
            refine V_goto (tgt := 30) dX8_becomesWord_81 (by decide) ?_
            rw [hnext]
            refine ih h2 (by omega) h6 (by rw [← hh2]; exact hR) hf2 (fun p a b => ?_) f2
            by_cases hpq : p = q
            · subst hpq; exact ⟨g2, by omega, by omega⟩
            · rw [keep p (by omega) b]; exact hp p (by omega) b
          · skip
            have hc : wordOk D n = false := wordOk_f (p := q) (by omega) (by rw [hm]; omega)
            refine V_iconst (v := nI 0) dX8_becomesWord_76 (by decide) ?_
            refine V_iret dX8_becomesWord_77 rfl (by first | exact gBo_nar _ | rfl | decide) ?_
            exact hQf hc h2 f2
  refine V_iloadn1 dX8_becomesWord_0 ?_
  refine V_callSN1 (μ' := mX9_howManyDigits) dX8_becomesWord_1 okX9_howManyDigits lX8_28 (Nat.le_of_ble_eq_true rfl) (Nat.le_of_ble_eq_true rfl) (by omega) ?_
  refine c_howManyDigits hD ?_
  dsimp only [gPush]
  rw [hm]
  refine V_istoren3 dX8_becomesWord_4 (by decide) rfl ?_
  refine V_iloadn1 dX8_becomesWord_5 ?_
  refine V_if_lt (tgt := 15) dX8_becomesWord_6 (by decide) (fun c6 => ?_) (fun c6 => ?_)
  · skip
    exact absurd c6 (nI_pos hD)
  · skip
    refine V_iloadn3 dX8_becomesWord_9 ?_
    refine V_bipush (v := nI 6) dX8_becomesWord_10 (by decide) ?_
    first | refine U_icmp_le (tgt := 17) dX8_becomesWord_12 (by decide) (by with_reducible rfl) (by with_reducible rfl) (by omega) (by omega) (fun c12 => ?_) (fun c12 => ?_) | refine V_icmp_le (tgt := 17) dX8_becomesWord_12 (by decide) (fun c12 => ?_) (fun c12 => ?_)
    · skip
      refine V_aloadn0 dX8_becomesWord_17 ?_
      refine V_iloadn3 dX8_becomesWord_18 ?_
      refine V_callV1 (μ' := mX8_becomeWordOf) dX8_becomesWord_19 okX8_becomeWordOf lX8_32 rfl (by first | assumption | rfl) (by first | decide | omega) (Nat.le_of_ble_eq_true rfl) (Nat.le_of_ble_eq_true rfl) (by omega) ?_
      refine c_becomeWordOf hT ?_
      dsimp only [gPush]
      refine V_iloadn1 dX8_becomesWord_22 ?_
      refine V_istorew4 dX8_becomesWord_23 (by decide) rfl ?_
      refine V_iloadn3 dX8_becomesWord_25 ?_
      refine V_iconst (v := nI 1) dX8_becomesWord_26 (by decide) ?_
      first | refine U_isub dX8_becomesWord_27 (by with_reducible rfl) (by with_reducible rfl) (by omega) ?_ | refine V_isub dX8_becomesWord_27 ?_
      refine V_istorew5 dX8_becomesWord_28 (by decide) rfl ?_
      have hs := loop m (sI (sI (sI h t 0 (nI 1)) t 1 (nI m)) t 3 (nI 0)) (Nat.le_refl _) (by omega) rfl ⟨by simp [gI_sI], by simp [gI_sI], by simp [gI_sI]⟩ (fun p a b => absurd a (by omega)) (fr_sI (fr_sI (fr_sI Fr1.rf (by omega) (by omega)) (by omega) (by omega)) (by omega) (by omega))
      rw [Nat.sub_self, Nat.pow_zero, Nat.div_one] at hs
      exact hs
    · skip
      have hc : wordOk D n = false := by unfold wordOk; rw [decide_eq_false (by omega), Bool.false_and]
      refine V_iconst (v := nI 0) dX8_becomesWord_15 (by decide) ?_
      refine V_iret dX8_becomesWord_16 rfl (by first | exact gBo_nar _ | rfl | decide) ?_
      exact hQf hc h Fr1.rf
set_option maxRecDepth 100000 in
set_option maxHeartbeats 4000000 in
theorem c_becomesWordNeg {x : Int32} {n : Nat} (hd : 1 ≤ d) (hx : x < 0) (hQ : Q (some (.int (gBo false))) h) :
    V Γ mX8_becomesWord d 124 124 h 0 [some (.ref t), some (.int x), some (.int (nI n)), none, none, none] [] Q := by
  refine V_iloadn1 dX8_becomesWord_0 ?_
  refine V_callSN1 (μ' := mX9_howManyDigits) dX8_becomesWord_1 okX9_howManyDigits lX8_28 (Nat.le_of_ble_eq_true rfl) (Nat.le_of_ble_eq_true rfl) (by omega) ?_
  refine c_howManyDigitsNeg hx ?_
  dsimp only [gPush]
  refine V_istoren3 dX8_becomesWord_4 (by decide) rfl ?_
  refine V_iloadn1 dX8_becomesWord_5 ?_
  refine V_if_lt (tgt := 15) dX8_becomesWord_6 (by decide) (fun c6 => ?_) (fun c6 => ?_)
  · skip
    refine V_iconst (v := nI 0) dX8_becomesWord_15 (by decide) ?_
    refine V_iret dX8_becomesWord_16 rfl (by first | exact gBo_nar _ | rfl | decide) ?_
    exact hQ
  · skip
    exact absurd hx c6
set_option maxRecDepth 100000 in
set_option maxHeartbeats 4000000 in
theorem c_isSameAs {o kd kd' : Nat} {w w' L L' : List Nat} (hT : TL h t) (hO : TL h o) (hI : TI h t kd w L) (hJ : TI h o kd' w' L') (hQ : Q (some (.int (gBo (decide (kd = kd' ∧ w = w' ∧ L = L'))))) h) : V Γ mX8_isSameAs d 124 124 h 0 [some (.ref t), some (.ref o), none] [] Q := by
  obtain ⟨l0, l1, l2, lt, r2, r4⟩ := hT
  obtain ⟨o0, o1, o2, ot, q2, q4⟩ := hO
  obtain ⟨i0, i1, i3, iw, iL, iwl, iLl, iwb, iLb, ik⟩ := hI
  obtain ⟨j0, j1, j3, jw, jL, jwl, jLl, jwb, jLb, jk⟩ := hJ
  have no : ¬ (kd = kd' ∧ w = w' ∧ L = L') → Q (some (.int (nI 0))) h := fun q => by
    rw [decide_eq_false q, gBo_f] at hQ; exact hQ
  have loop2 : ∀ k i, L.length - i = k → i ≤ L.length → kd = kd' → w = w' → L.length = L'.length → (∀ p, p < i → L.getD p 0 = L'.getD p 0) → V Γ mX8_isSameAs d 124 124 h 70 [some (.ref t), some (.ref o), some (.int (nI i))] [] Q := by
    intro k
    induction k using Nat.strongRecOn with
    | _ k ih =>
      intro i hk hi ek ew el hp
      have b1 := iLb i
      have b2 := jLb i
      refine V_iloadn2 dX8_isSameAs_70 ?_
      refine V_aloadn0 dX8_isSameAs_71 ?_
      refine V_getI dX8_isSameAs_72 fX8_25 (Or.inl rfl) (by first | assumption | rfl) (by first | decide | omega) (by first | assumption | exact iL _ (by omega) | exact jL _ (by omega) | rfl) ?_
      first | refine U_icmp_ge (tgt := 101) dX8_isSameAs_75 (by decide) (by with_reducible rfl) (by with_reducible rfl) (by omega) (by omega) (fun c75 => ?_) (fun c75 => ?_) | refine V_icmp_ge (tgt := 101) dX8_isSameAs_75 (by decide) (fun c75 => ?_) (fun c75 => ?_)
      · skip
        have e : L = L' := list_ext0 el (fun p a => hp p (by omega))
        rw [decide_eq_true ⟨ek, ew, e⟩, gBo_t] at hQ
        refine V_iconst (v := nI 1) dX8_isSameAs_101 (by decide) ?_
        refine V_iret dX8_isSameAs_102 rfl (by first | exact gBo_nar _ | rfl | decide) ?_
        exact hQ
      · skip
        refine V_aloadn0 dX8_isSameAs_78 ?_
        refine V_getR dX8_isSameAs_79 fX8_19 (by first | assumption | rfl) (by first | decide | omega) (by first | assumption | exact iL _ (by omega) | exact jL _ (by omega) | rfl) ?_
        refine V_iloadn2 dX8_isSameAs_82 ?_
        refine U_iald dX8_isSameAs_83 (by with_reducible rfl) (by first | assumption | rfl) (by first | decide | omega) (by omega) (by first | assumption | exact iL _ (by omega) | exact jL _ (by omega) | rfl) ?_
        refine V_aloadn1 dX8_isSameAs_84 ?_
        refine V_getR dX8_isSameAs_85 fX8_19 (by first | assumption | rfl) (by first | decide | omega) (by first | assumption | exact iL _ (by omega) | exact jL _ (by omega) | rfl) ?_
        refine V_iloadn2 dX8_isSameAs_88 ?_
        refine U_iald dX8_isSameAs_89 (by with_reducible rfl) (by first | assumption | rfl) (by first | decide | omega) (by omega) (by first | assumption | exact iL _ (by omega) | exact jL _ (by omega) | rfl) ?_
        first | refine U_icmp_eq (tgt := 95) dX8_isSameAs_90 (by decide) (by with_reducible rfl) (by with_reducible rfl) (by omega) (by omega) (fun c90 => ?_) (fun c90 => ?_) | refine V_icmp_eq (tgt := 95) dX8_isSameAs_90 (by decide) (fun c90 => ?_) (fun c90 => ?_)
        · skip
          refine V_iinc2 dX8_isSameAs_95 (by first | exact ginc1 _ | rfl) (by decide) rfl ?_
          refine V_goto (tgt := 70) dX8_isSameAs_98 (by decide) ?_
          exact ih (L.length - (i + 1)) (by omega) (i + 1) rfl (by omega) ek ew el (fun p a => by
            by_cases hpi : p = i
            · subst hpi; exact c90
            · exact hp p (by omega))
        · skip
          have hQ := no (fun q => c90 (by rw [q.2.2]))
          refine V_iconst (v := nI 0) dX8_isSameAs_93 (by decide) ?_
          refine V_iret dX8_isSameAs_94 rfl (by first | exact gBo_nar _ | rfl | decide) ?_
          exact hQ
  have loop1 : ∀ k i, w.length - i = k → i ≤ w.length → kd = kd' → w.length = w'.length → L.length = L'.length → (∀ p, p < i → w.getD p 0 = w'.getD p 0) → V Γ mX8_isSameAs d 124 124 h 37 [some (.ref t), some (.ref o), some (.int (nI i))] [] Q := by
    intro k
    induction k using Nat.strongRecOn with
    | _ k ih =>
      intro i hk hi ek ew el hp
      have b1 := iwb i
      have b2 := jwb i
      refine V_iloadn2 dX8_isSameAs_37 ?_
      refine V_aloadn0 dX8_isSameAs_38 ?_
      refine V_getI dX8_isSameAs_39 fX8_22 (Or.inl rfl) (by first | assumption | rfl) (by first | decide | omega) (by first | assumption | exact iw _ (by omega) | exact jw _ (by omega) | rfl) ?_
      first | refine U_icmp_ge (tgt := 68) dX8_isSameAs_42 (by decide) (by with_reducible rfl) (by with_reducible rfl) (by omega) (by omega) (fun c42 => ?_) (fun c42 => ?_) | refine V_icmp_ge (tgt := 68) dX8_isSameAs_42 (by decide) (fun c42 => ?_) (fun c42 => ?_)
      · skip
        have e : w = w' := list_ext0 ew (fun p a => hp p (by omega))
        refine V_iconst (v := nI 0) dX8_isSameAs_68 (by decide) ?_
        refine V_istoren2 dX8_isSameAs_69 (by decide) rfl ?_
        exact loop2 _ 0 rfl (by omega) ek e el (fun p a => absurd a (Nat.not_lt_zero _))
      · skip
        refine V_aloadn0 dX8_isSameAs_45 ?_
        refine V_getR dX8_isSameAs_46 fX8_15 (by first | assumption | rfl) (by first | decide | omega) (by first | assumption | exact iw _ (by omega) | exact jw _ (by omega) | rfl) ?_
        refine V_iloadn2 dX8_isSameAs_49 ?_
        refine U_iald dX8_isSameAs_50 (by with_reducible rfl) (by first | assumption | rfl) (by first | decide | omega) (by omega) (by first | assumption | exact iw _ (by omega) | exact jw _ (by omega) | rfl) ?_
        refine V_aloadn1 dX8_isSameAs_51 ?_
        refine V_getR dX8_isSameAs_52 fX8_15 (by first | assumption | rfl) (by first | decide | omega) (by first | assumption | exact iw _ (by omega) | exact jw _ (by omega) | rfl) ?_
        refine V_iloadn2 dX8_isSameAs_55 ?_
        refine U_iald dX8_isSameAs_56 (by with_reducible rfl) (by first | assumption | rfl) (by first | decide | omega) (by omega) (by first | assumption | exact iw _ (by omega) | exact jw _ (by omega) | rfl) ?_
        first | refine U_icmp_eq (tgt := 62) dX8_isSameAs_57 (by decide) (by with_reducible rfl) (by with_reducible rfl) (by omega) (by omega) (fun c57 => ?_) (fun c57 => ?_) | refine V_icmp_eq (tgt := 62) dX8_isSameAs_57 (by decide) (fun c57 => ?_) (fun c57 => ?_)
        · skip
          refine V_iinc2 dX8_isSameAs_62 (by first | exact ginc1 _ | rfl) (by decide) rfl ?_
          refine V_goto (tgt := 37) dX8_isSameAs_65 (by decide) ?_
          exact ih (w.length - (i + 1)) (by omega) (i + 1) rfl (by omega) ek ew el (fun p a => by
            by_cases hpi : p = i
            · subst hpi; exact c57
            · exact hp p (by omega))
        · skip
          have hQ := no (fun q => c57 (by rw [q.2.1]))
          refine V_iconst (v := nI 0) dX8_isSameAs_60 (by decide) ?_
          refine V_iret dX8_isSameAs_61 rfl (by first | exact gBo_nar _ | rfl | decide) ?_
          exact hQ
  refine V_aloadn0 dX8_isSameAs_0 ?_
  refine V_getI dX8_isSameAs_1 fX8_11 (Or.inl rfl) (by first | assumption | rfl) (by first | decide | omega) (by first | assumption | rfl) ?_
  refine V_aloadn1 dX8_isSameAs_4 ?_
  refine V_getI dX8_isSameAs_5 fX8_11 (Or.inl rfl) (by first | assumption | rfl) (by first | decide | omega) (by first | assumption | rfl) ?_
  first | refine U_icmp_ne (tgt := 33) dX8_isSameAs_8 (by decide) (by with_reducible rfl) (by with_reducible rfl) (by omega) (by omega) (fun c8 => ?_) (fun c8 => ?_) | refine V_icmp_ne (tgt := 33) dX8_isSameAs_8 (by decide) (fun c8 => ?_) (fun c8 => ?_)
  · skip
    have hQ := no (fun q => c8 q.1)
    refine V_iconst (v := nI 0) dX8_isSameAs_33 (by decide) ?_
    refine V_iret dX8_isSameAs_34 rfl (by first | exact gBo_nar _ | rfl | decide) ?_
    exact hQ
  · skip
    refine V_aloadn0 dX8_isSameAs_11 ?_
    refine V_getI dX8_isSameAs_12 fX8_22 (Or.inl rfl) (by first | assumption | rfl) (by first | decide | omega) (by first | assumption | rfl) ?_
    refine V_aloadn1 dX8_isSameAs_15 ?_
    refine V_getI dX8_isSameAs_16 fX8_22 (Or.inl rfl) (by first | assumption | rfl) (by first | decide | omega) (by first | assumption | rfl) ?_
    first | refine U_icmp_ne (tgt := 33) dX8_isSameAs_19 (by decide) (by with_reducible rfl) (by with_reducible rfl) (by omega) (by omega) (fun c19 => ?_) (fun c19 => ?_) | refine V_icmp_ne (tgt := 33) dX8_isSameAs_19 (by decide) (fun c19 => ?_) (fun c19 => ?_)
    · skip
      have hQ := no (fun q => c19 (by rw [q.2.1]))
      refine V_iconst (v := nI 0) dX8_isSameAs_33 (by decide) ?_
      refine V_iret dX8_isSameAs_34 rfl (by first | exact gBo_nar _ | rfl | decide) ?_
      exact hQ
    · skip
      refine V_aloadn0 dX8_isSameAs_22 ?_
      refine V_getI dX8_isSameAs_23 fX8_25 (Or.inl rfl) (by first | assumption | rfl) (by first | decide | omega) (by first | assumption | rfl) ?_
      refine V_aloadn1 dX8_isSameAs_26 ?_
      refine V_getI dX8_isSameAs_27 fX8_25 (Or.inl rfl) (by first | assumption | rfl) (by first | decide | omega) (by first | assumption | rfl) ?_
      first | refine U_icmp_eq (tgt := 35) dX8_isSameAs_30 (by decide) (by with_reducible rfl) (by with_reducible rfl) (by omega) (by omega) (fun c30 => ?_) (fun c30 => ?_) | refine V_icmp_eq (tgt := 35) dX8_isSameAs_30 (by decide) (fun c30 => ?_) (fun c30 => ?_)
      · skip
        refine V_iconst (v := nI 0) dX8_isSameAs_35 (by decide) ?_
        refine V_istoren2 dX8_isSameAs_36 (by decide) rfl ?_
        exact loop1 _ 0 rfl (by omega) c8 c19 c30 (fun p a => absurd a (Nat.not_lt_zero _))
      · skip
        have hQ := no (fun q => c30 (by rw [q.2.2]))
        refine V_iconst (v := nI 0) dX8_isSameAs_33 (by decide) ?_
        refine V_iret dX8_isSameAs_34 rfl (by first | exact gBo_nar _ | rfl | decide) ?_
        exact hQ
set_option maxRecDepth 100000 in
set_option maxHeartbeats 4000000 in
/-- Arrays.fill of ints -/
theorem c_fillI {n : Nat} {x : Int32} (hl : lay t = some (.inl (0, n))) (ht : t < 124) (hQ : ∀ h', (∀ k, k < n → gI h' t k = x) → Fr1 h h' t (t + 1) → Q none h') : V Γ mJ7_fill_53178 d 124 124 h 0 [some (.ref t), some (.int x), none, none] [] Q := by
  have hn := lay_n hl
  have loop : ∀ k i h1, n - i = k → i ≤ n → (∀ j, j < i → gI h1 t j = x) → Fr1 h h1 t (t + 1) → V Γ mJ7_fill_53178 d 124 124 h1 5 [some (.ref t), some (.int x), some (.int (nI i)), some (.int (nI n))] [] Q := by
    intro k
    induction k using Nat.strongRecOn with
    | _ k ih =>
      intro i h1 hk hi hp hF
      refine V_iloadn2 dJ7_fill_53178_5 ?_
      refine V_iloadn3 dJ7_fill_53178_6 ?_
      first | refine U_icmp_ge (tgt := 20) dJ7_fill_53178_7 (by decide) (by with_reducible rfl) (by with_reducible rfl) (by omega) (by omega) (fun c7 => ?_) (fun c7 => ?_) | refine V_icmp_ge (tgt := 20) dJ7_fill_53178_7 (by decide) (fun c7 => ?_) (fun c7 => ?_)
      · skip
        refine V_ret dJ7_fill_53178_20 rfl ?_
        exact hQ h1 (fun j hj => hp j (by omega)) hF
      · skip
        refine V_aloadn0 dJ7_fill_53178_10 ?_
        refine V_iloadn2 dJ7_fill_53178_11 ?_
        refine V_iloadn1 dJ7_fill_53178_12 ?_
        refine U_iast dJ7_fill_53178_13 (by with_reducible rfl) (by first | assumption | rfl) (by first | decide | omega) (by omega) ?_
        refine V_iinc2 dJ7_fill_53178_14 (by first | exact ginc1 _ | rfl) (by decide) rfl ?_
        refine V_goto (tgt := 5) dJ7_fill_53178_17 (by decide) ?_
        exact ih (n - (i + 1)) (by omega) (i + 1) _ rfl (by omega) (fun j hj => by
          rw [gI_sI]
          by_cases e : j = i
          · rw [if_pos ⟨rfl, e⟩]
          · rw [if_neg (fun q => e q.2)]; exact hp j (by omega)) (fr_sI hF (by omega) (by omega))
  refine V_iconst (v := nI 0) dJ7_fill_53178_0 (by decide) ?_
  refine V_istoren2 dJ7_fill_53178_1 (by decide) rfl ?_
  refine V_aloadn0 dJ7_fill_53178_2 ?_
  first | refine V_aleni dJ7_fill_53178_3 (by first | assumption | rfl) (by first | decide | omega) ?_ | refine V_alenl dJ7_fill_53178_3 (by first | assumption | rfl) (by first | decide | omega) ?_
  refine V_istoren3 dJ7_fill_53178_4 (by decide) rfl ?_
  exact loop _ 0 h rfl (by omega) (fun j hj => absurd hj (Nat.not_lt_zero _)) Fr1.rf
/-- nothing has changed but longs of cells lo to hi -/
def FrL (h h' : gH) (lo hi : Nat) : Prop := (∀ a, a < lo ∨ hi ≤ a → gL h' a = gL h a) ∧ gI h' = gI h ∧ gR h' = gR h
theorem FrL.rf {lo hi : Nat} : FrL h h lo hi := ⟨fun _ _ => rfl, rfl, rfl⟩
theorem frl_sL {h' : gH} {lo hi k : Nat} {v : Int64} (a : FrL h h' lo hi) (h1 : lo ≤ t) (h2 : t < hi) : FrL h (sL h' t k v) lo hi := ⟨fun q hq => by
  have e : gL (sL h' t k v) q = gL h' q := by
    funext b
    rw [gL_sL, if_neg (by omega)]
  rw [e]; exact a.1 q hq, a.2.1, a.2.2⟩
set_option maxRecDepth 100000 in
set_option maxHeartbeats 4000000 in
theorem c_fillL {n : Nat} {x : Int64} (hl : lay t = some (.inl (1, n))) (ht : t < 124) (hQ : ∀ h', (∀ k, k < n → gL h' t k = x) → FrL h h' t (t + 1) → Q none h') : V Γ mJ7_fill_d0a16 d 124 124 h 0 [some (.ref t), some (.long x), none, none, none] [] Q := by
  have hn := lay_n hl
  have loop : ∀ k i h1, n - i = k → i ≤ n → (∀ j, j < i → gL h1 t j = x) → FrL h h1 t (t + 1) → V Γ mJ7_fill_d0a16 d 124 124 h1 6 [some (.ref t), some (.long x), none, some (.int (nI i)), some (.int (nI n))] [] Q := by
    intro k
    induction k using Nat.strongRecOn with
    | _ k ih =>
      intro i h1 hk hi hp hF
      refine V_iloadn3 dJ7_fill_d0a16_6 ?_
      refine V_iloadw4 dJ7_fill_d0a16_7 ?_
      first | refine U_icmp_ge (tgt := 22) dJ7_fill_d0a16_9 (by decide) (by with_reducible rfl) (by with_reducible rfl) (by omega) (by omega) (fun c9 => ?_) (fun c9 => ?_) | refine V_icmp_ge (tgt := 22) dJ7_fill_d0a16_9 (by decide) (fun c9 => ?_) (fun c9 => ?_)
      · skip
        refine V_ret dJ7_fill_d0a16_22 rfl ?_
        exact hQ h1 (fun j hj => hp j (by omega)) hF
      · skip
        refine V_aloadn0 dJ7_fill_d0a16_12 ?_
        refine V_iloadn3 dJ7_fill_d0a16_13 ?_
        refine V_lloadn1 dJ7_fill_d0a16_14 ?_
        refine U_last dJ7_fill_d0a16_15 (by with_reducible rfl) (by first | assumption | rfl) (by first | decide | omega) (by omega) ?_
        refine V_iinc3 dJ7_fill_d0a16_16 (by first | exact ginc1 _ | rfl) (by decide) rfl ?_
        refine V_goto (tgt := 6) dJ7_fill_d0a16_19 (by decide) ?_
        exact ih (n - (i + 1)) (by omega) (i + 1) _ rfl (by omega) (fun j hj => by
          rw [gL_sL]
          by_cases e : j = i
          · rw [if_pos ⟨rfl, e⟩]
          · rw [if_neg (fun q => e q.2)]; exact hp j (by omega)) (frl_sL hF (by omega) (by omega))
  refine V_iconst (v := nI 0) dJ7_fill_d0a16_0 (by decide) ?_
  refine V_istoren3 dJ7_fill_d0a16_1 (by decide) rfl ?_
  refine V_aloadn0 dJ7_fill_d0a16_2 ?_
  first | refine V_aleni dJ7_fill_d0a16_3 (by first | assumption | rfl) (by first | decide | omega) ?_ | refine V_alenl dJ7_fill_d0a16_3 (by first | assumption | rfl) (by first | decide | omega) ?_
  refine V_istorew4 dJ7_fill_d0a16_4 (by decide) rfl ?_
  exact loop _ 0 h rfl (by omega) (fun j hj => absurd hj (Nat.not_lt_zero _)) FrL.rf
end C12
