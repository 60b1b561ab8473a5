/-! ===== the class: states, sheets ===== -/
def SL (h : gH) (b : Nat) : Prop := lay b = some (.inr 6) ∧ lay (b + 1) = some (.inl (2, 6)) ∧ lay (b + 2) = some (.inl (0, 6)) ∧ b + 21 ≤ 124 ∧ gR h b 2 = some (b + 1) ∧ gR h b 3 = some (b + 2) ∧ ∀ s, s < 6 → gR h (b + 1) s = some (b + 3 + 3 * s) ∧ TL h (b + 3 + 3 * s)
/-- n, z, things in slots (kind, letters, lengths), worths -/
abbrev SS : Type := Nat × Int32 × (Nat → Nat × List Nat × List Nat) × (Nat → Nat)
def RS (h : gH) (b : Nat) (A : SS) : Prop := gI h b 0 = nI A.1 ∧ gI h b 1 = A.2.1 ∧ (∀ s, s < 6 → TI h (b + 3 + 3 * s) (A.2.2.1 s).1 (A.2.2.1 s).2.1 (A.2.2.1 s).2.2) ∧ ∀ k, 1 ≤ k → k < 6 → gI h (b + 2) k = nI (A.2.2.2 k)
theorem RS_fr {h h' : gH} {b lo hi : Nat} {A : SS} (hA : RS h b A) (f : Fr1 h h' lo hi) (hb : b + 21 ≤ lo ∨ hi ≤ b) : RS h' b A := by
  obtain ⟨a0, a1, a2, a3⟩ := hA
  refine ⟨by rw [f.1 b (by omega)]; exact a0, by rw [f.1 b (by omega)]; exact a1, fun s hs => TI_fr (a2 s hs) f (by omega), fun k h1 h2 => by rw [f.1 (b + 2) (by omega)]; exact a3 k h1 h2⟩
theorem SL_fr {h h' : gH} {b : Nat} (hB : SL h b) (e : gR h' = gR h) : SL h' b := by
  obtain ⟨s0, s1, s2, s3, s4, s5, s6⟩ := hB
  exact ⟨s0, s1, s2, s3, by rw [e]; exact s4, by rw [e]; exact s5, fun s hs => ⟨by rw [e]; exact (s6 s hs).1, TL_fr (s6 s hs).2 e⟩⟩
def hsF (kd : Nat → Nat) : Nat → Int32
  | 0 => nI 0
  | i + 1 => if kd i = 0 then hsF kd i else hsF kd i ||| (nI 1 <<< (nI i &&& 31))
def sumF (f : Nat → Nat) : Nat → Nat
  | 0 => 0
  | i + 1 => sumF f i + f i
theorem sumF_le {f : Nat → Nat} {c : Nat} (hf : ∀ i, f i ≤ c) : ∀ n, sumF f n ≤ n * c
  | 0 => by simp [sumF]
  | n + 1 => by
    have h1 := sumF_le hf n
    have h2 := hf n
    unfold sumF
    rw [Nat.succ_mul]
    omega
section C13
variable {Γ : gM} {d : Nat} {h : gH} {Q : Option Value → gH → Prop} {t : Nat}
set_option maxRecDepth 100000 in
set_option maxHeartbeats 4000000 in
theorem c_stateLike {b o : Nat} {A : SS} (hd : 2 ≤ d) (hB : SL h b) (hO : SL h o) (hbo : o + 21 ≤ b ∨ b + 21 ≤ o) (hA : RS h o A) (hQ : ∀ h', RS h' b A → Fr1 h h' b (b + 21) → Q none h') : V Γ mX6_becomeLike d 124 124 h 0 [some (.ref b), some (.ref o), none] [] Q := by
  obtain ⟨b0, b1, b2, bN, b4, b5, b6⟩ := id hB
  obtain ⟨o0, o1, o2, oN, o4, o5, o6⟩ := id hO
  obtain ⟨a0, a1, a2, a3⟩ := id hA
  have loop : ∀ k i h1, 6 - i = k → i ≤ 6 → gI h1 b 0 = nI A.1 → gI h1 b 1 = A.2.1 → (∀ s, s < i → TI h1 (b + 3 + 3 * s) (A.2.2.1 s).1 (A.2.2.1 s).2.1 (A.2.2.1 s).2.2) → Fr1 h h1 b (b + 21) → V Γ mX6_becomeLike d 124 124 h1 18 [some (.ref b), some (.ref o), some (.int (nI i))] [] Q := by
    intro k
    induction k using Nat.strongRecOn with
    | _ k ih =>
      intro i h1 hk hi z0 z1 zs hF
      have e1 : gR h1 b 2 = some (b + 1) := by rw [hF.2.2]; exact b4
      have e2 : gR h1 b 3 = some (b + 2) := by rw [hF.2.2]; exact b5
      have e3 : gR h1 o 2 = some (o + 1) := by rw [hF.2.2]; exact o4
      have e4 : gR h1 o 3 = some (o + 2) := by rw [hF.2.2]; exact o5
      have e5 : ∀ s, s < 6 → gR h1 (b + 1) s = some (b + 3 + 3 * s) := fun s hs => by rw [hF.2.2]; exact (b6 s hs).1
      have e6 : ∀ s, s < 6 → gR h1 (o + 1) s = some (o + 3 + 3 * s) := fun s hs => by rw [hF.2.2]; exact (o6 s hs).1
      refine V_iloadn2 dX6_becomeLike_18 ?_
      refine V_bipush (v := nI 6) dX6_becomeLike_19 (by decide) ?_
      first | refine U_icmp_ge (tgt := 45) dX6_becomeLike_21 (by decide) (by with_reducible rfl) (by with_reducible rfl) (by omega) (by omega) (fun c21 => ?_) (fun c21 => ?_) | refine V_icmp_ge (tgt := 45) dX6_becomeLike_21 (by decide) (fun c21 => ?_) (fun c21 => ?_)
      · skip
        refine V_aloadn1 dX6_becomeLike_45 ?_
        refine V_getR dX6_becomeLike_46 fX6_24 (by first | assumption | rfl) (by first | decide | omega) (by first | assumption | exact e5 _ (by omega) | exact e6 _ (by omega) | rfl) ?_
        refine V_iconst (v := nI 0) dX6_becomeLike_49 (by decide) ?_
        refine V_aloadn0 dX6_becomeLike_50 ?_
        refine V_getR dX6_becomeLike_51 fX6_24 (by first | assumption | rfl) (by first | decide | omega) (by first | assumption | exact e5 _ (by omega) | exact e6 _ (by omega) | rfl) ?_
        refine V_iconst (v := nI 0) dX6_becomeLike_54 (by decide) ?_
        refine V_bipush (v := nI 6) dX6_becomeLike_55 (by decide) ?_
        first | refine U_copyI dX6_becomeLike_57 (by with_reducible rfl) (by with_reducible rfl) (by with_reducible rfl) lX6_39 (by first | assumption | rfl) (by first | assumption | rfl) (by first | decide | omega) (by first | decide | omega) (by omega) (by omega) (Nat.le_of_ble_eq_true rfl) (by omega) ?_ | refine U_copyL dX6_becomeLike_57 (by with_reducible rfl) (by with_reducible rfl) (by with_reducible rfl) lX6_39 (by first | assumption | rfl) (by first | assumption | rfl) (by first | decide | omega) (by first | decide | omega) (by omega) (by omega) (Nat.le_of_ble_eq_true rfl) (by omega) ?_
        refine V_ret dX6_becomeLike_60 rfl ?_
        refine hQ _ ⟨?_, ?_, fun s hs => ?_, fun k k1 k2 => ?_⟩ ⟨fun a ha => ?_, hF.2.1, hF.2.2⟩
        · rw [gI_sIa, if_neg (by omega)]; exact z0
        · rw [gI_sIa, if_neg (by omega)]; exact z1
        · exact TI_fr (zs s (by omega)) (lo := b + 2) (hi := b + 3) ⟨fun a ha => by rw [gI_sIa, if_neg (by omega)], rfl, rfl⟩ (by omega)
        · rw [gI_sIa, if_pos rfl, pk_cpy_in (Nat.zero_le _) (by omega), hF.1 (o + 2) (by omega), show 0 + (k - 0) = k by omega]; exact a3 k k1 k2
        · rw [gI_sIa, if_neg (by omega)]; exact hF.1 a ha
      · skip
        have lb := (b6 i (by omega)).2.1
        refine V_aloadn0 dX6_becomeLike_24 ?_
        refine V_getR dX6_becomeLike_25 fX6_20 (by first | assumption | rfl) (by first | decide | omega) (by first | assumption | exact e5 _ (by omega) | exact e6 _ (by omega) | rfl) ?_
        refine V_iloadn2 dX6_becomeLike_28 ?_
        refine U_aald dX6_becomeLike_29 (by with_reducible rfl) (by first | assumption | rfl) (by decide) (by first | decide | omega) (by omega) (by first | assumption | exact e5 _ (by omega) | exact e6 _ (by omega) | rfl) ?_
        refine V_aloadn1 dX6_becomeLike_30 ?_
        refine V_getR dX6_becomeLike_31 fX6_20 (by first | assumption | rfl) (by first | decide | omega) (by first | assumption | exact e5 _ (by omega) | exact e6 _ (by omega) | rfl) ?_
        refine V_iloadn2 dX6_becomeLike_34 ?_
        refine U_aald dX6_becomeLike_35 (by with_reducible rfl) (by first | assumption | rfl) (by decide) (by first | decide | omega) (by omega) (by first | assumption | exact e5 _ (by omega) | exact e6 _ (by omega) | rfl) ?_
        refine V_callV1 (μ' := mX8_becomeLike) dX6_becomeLike_36 okX8_becomeLike lX6_35 rfl (by first | assumption | rfl) (by first | decide | omega) (Nat.le_of_ble_eq_true rfl) (Nat.le_of_ble_eq_true rfl) (by omega) ?_
        refine c_becomeLike (by omega) (TL_fr (b6 i (by omega)).2 hF.2.2) (TL_fr (o6 i (by omega)).2 hF.2.2) (TI_fr (a2 i (by omega)) hF (by omega)) (by omega) (fun h2 hT2 hF2 => ?_)
        dsimp only [gPush]
        refine V_iinc2 dX6_becomeLike_39 (by first | exact ginc1 _ | rfl) (by decide) rfl ?_
        refine V_goto (tgt := 18) dX6_becomeLike_42 (by decide) ?_
        refine ih (6 - (i + 1)) (by omega) (i + 1) h2 rfl (by omega) (by rw [hF2.1 b (by omega)]; exact z0) (by rw [hF2.1 b (by omega)]; exact z1) (fun s hs => ?_) (hF.tr (hF2.wd (by omega) (by omega)))
        by_cases e : s = i
        · subst e; exact hT2
        · exact TI_fr (zs s (by omega)) hF2 (by omega)
  have p1 : gI (sI h b 0 (nI A.1)) o 1 = A.2.1 := by rw [gI_sI, if_neg (by omega)]; exact a1
  refine V_aloadn0 dX6_becomeLike_0 ?_
  refine V_aloadn1 dX6_becomeLike_1 ?_
  refine V_getI dX6_becomeLike_2 fX6_9 (Or.inl rfl) (by first | assumption | rfl) (by first | decide | omega) (by first | assumption | rfl) ?_
  refine V_putI dX6_becomeLike_5 fX6_9 (by first | assumption | rfl) (by first | decide | omega) ?_
  refine V_aloadn0 dX6_becomeLike_8 ?_
  refine V_aloadn1 dX6_becomeLike_9 ?_
  refine V_getI dX6_becomeLike_10 fX6_15 (Or.inl rfl) (by first | assumption | rfl) (by first | decide | omega) (by first | assumption | rfl) ?_
  refine V_putI dX6_becomeLike_13 fX6_15 (by first | assumption | rfl) (by first | decide | omega) ?_
  refine V_iconst (v := nI 0) dX6_becomeLike_16 (by decide) ?_
  refine V_istoren2 dX6_becomeLike_17 (by decide) rfl ?_
  exact loop 6 0 _ rfl (by omega) (by simp [gI_sI]) (by simp [gI_sI]) (fun s hs => absurd hs (Nat.not_lt_zero _)) (fr_sI (fr_sI Fr1.rf (by omega) (by omega)) (by omega) (by omega))
set_option maxRecDepth 100000 in
set_option maxHeartbeats 4000000 in
theorem c_emptySlots {b : Nat} (hd : 1 ≤ d) (hB : SL h b) (hQ : ∀ h', (∀ s, s < 6 → TI h' (b + 3 + 3 * s) 0 [] []) → Fr1 h h' (b + 3) (b + 21) → Q none h') : V Γ mX6_emptySlots d 124 124 h 0 [some (.ref b), none] [] Q := by
  obtain ⟨b0, b1, b2, bN, b4, b5, b6⟩ := id hB
  have loop : ∀ k i h1, 6 - i = k → i ≤ 6 → (∀ s, s < i → TI h1 (b + 3 + 3 * s) 0 [] []) → Fr1 h h1 (b + 3) (b + 21) → V Γ mX6_emptySlots d 124 124 h1 2 [some (.ref b), some (.int (nI i))] [] Q := by
    intro k
    induction k using Nat.strongRecOn with
    | _ k ih =>
      intro i h1 hk hi zs hF
      have e1 : gR h1 b 2 = some (b + 1) := by rw [hF.2.2]; exact b4
      have e5 : ∀ s, s < 6 → gR h1 (b + 1) s = some (b + 3 + 3 * s) := fun s hs => by rw [hF.2.2]; exact (b6 s hs).1
      refine V_iloadn1 dX6_emptySlots_2 ?_
      refine V_bipush (v := nI 6) dX6_emptySlots_3 (by decide) ?_
      first | refine U_icmp_ge (tgt := 23) dX6_emptySlots_5 (by decide) (by with_reducible rfl) (by with_reducible rfl) (by omega) (by omega) (fun c5 => ?_) (fun c5 => ?_) | refine V_icmp_ge (tgt := 23) dX6_emptySlots_5 (by decide) (fun c5 => ?_) (fun c5 => ?_)
      · skip
        refine V_ret dX6_emptySlots_23 rfl ?_
        exact hQ h1 (fun s hs => zs s (by omega)) hF
      · skip
        have lb := (b6 i (by omega)).2.1
        refine V_aloadn0 dX6_emptySlots_8 ?_
        refine V_getR dX6_emptySlots_9 fX6_20 (by first | assumption | rfl) (by first | decide | omega) (by first | assumption | exact e5 _ (by omega) | rfl) ?_
        refine V_iloadn1 dX6_emptySlots_12 ?_
        refine U_aald dX6_emptySlots_13 (by with_reducible rfl) (by first | assumption | rfl) (by decide) (by first | decide | omega) (by omega) (by first | assumption | exact e5 _ (by omega) | rfl) ?_
        refine V_callV0 (μ' := mX8_becomeNothing) dX6_emptySlots_14 okX8_becomeNothing lX6_45 rfl (by first | assumption | rfl) (by first | decide | omega) (Nat.le_of_ble_eq_true rfl) (Nat.le_of_ble_eq_true rfl) (by omega) ?_
        refine c_becomeNothing (TL_fr (b6 i (by omega)).2 hF.2.2) ?_
        dsimp only [gPush]
        refine V_iinc1 dX6_emptySlots_17 (by first | exact ginc1 _ | rfl) (by decide) rfl ?_
        refine V_goto (tgt := 2) dX6_emptySlots_20 (by decide) ?_
        have f2 : Fr1 h1 (sI (sI (sI h1 (b + 3 + 3 * i) 0 (nI 0)) (b + 3 + 3 * i) 1 (nI 0)) (b + 3 + 3 * i) 3 (nI 0)) (b + 3 + 3 * i) (b + 3 + 3 * i + 1) := fr_sI (fr_sI (fr_sI Fr1.rf (by omega) (by omega)) (by omega) (by omega)) (by omega) (by omega)
        refine ih (6 - (i + 1)) (by omega) (i + 1) _ rfl (by omega) (fun s hs => ?_) (hF.tr (f2.wd (by omega) (by omega)))
        by_cases e : s = i
        · subst e; exact ⟨by simp [gI_sI], by simp [gI_sI], by simp [gI_sI], fun p hp => absurd hp (Nat.not_lt_zero _), fun p hp => absurd hp (Nat.not_lt_zero _), by decide, by decide, fun p => by simp, fun p => by simp, by decide⟩
        · exact TI_fr (zs s (by omega)) f2 (by omega)
  refine V_iconst (v := nI 0) dX6_emptySlots_0 (by decide) ?_
  refine V_istoren1 dX6_emptySlots_1 (by decide) rfl ?_
  exact loop 6 0 h rfl (by omega) (fun s hs => absurd hs (Nat.not_lt_zero _)) Fr1.rf
set_option maxRecDepth 100000 in
set_option maxHeartbeats 4000000 in
theorem c_heldSlots {b : Nat} {A : SS} (hB : SL h b) (hA : RS h b A) (hQ : Q (some (.int (hsF (fun s => (A.2.2.1 s).1) 6))) h) : V Γ mX6_heldSlots d 124 124 h 0 [some (.ref b), none, none] [] Q := by
  obtain ⟨b0, b1, b2, bN, b4, b5, b6⟩ := id hB
  obtain ⟨a0, a1, a2, a3⟩ := id hA
  have loop : ∀ k i, 6 - i = k → i ≤ 6 → V Γ mX6_heldSlots d 124 124 h 4 [some (.ref b), some (.int (hsF (fun s => (A.2.2.1 s).1) i)), some (.int (nI i))] [] Q := by
    intro k
    induction k using Nat.strongRecOn with
    | _ k ih =>
      intro i hk hi
      refine V_iloadn2 dX6_heldSlots_4 ?_
      refine V_bipush (v := nI 6) dX6_heldSlots_5 (by decide) ?_
      first | refine U_icmp_ge (tgt := 34) dX6_heldSlots_7 (by decide) (by with_reducible rfl) (by with_reducible rfl) (by omega) (by omega) (fun c7 => ?_) (fun c7 => ?_) | refine V_icmp_ge (tgt := 34) dX6_heldSlots_7 (by decide) (fun c7 => ?_) (fun c7 => ?_)
      · skip
        have e : i = 6 := by omega
        subst e
        refine V_iloadn1 dX6_heldSlots_34 ?_
        refine V_iret dX6_heldSlots_35 rfl rfl ?_
        exact hQ
      · skip
        have lb := (b6 i (by omega)).2.1
        have kb := (a2 i (by omega)).2.2.2.2.2.2.2.2.2
        refine V_aloadn0 dX6_heldSlots_10 ?_
        refine V_getR dX6_heldSlots_11 fX6_20 (by first | assumption | rfl) (by first | decide | omega) (by first | assumption | exact (b6 _ (by omega)).1 | exact (a2 i (by omega)).1 | rfl) ?_
        refine V_iloadn2 dX6_heldSlots_14 ?_
        refine U_aald dX6_heldSlots_15 (by with_reducible rfl) (by first | assumption | rfl) (by decide) (by first | decide | omega) (by omega) (by first | assumption | exact (b6 _ (by omega)).1 | exact (a2 i (by omega)).1 | rfl) ?_
        refine V_getI dX6_heldSlots_16 fX6_48 (Or.inl rfl) (by first | assumption | rfl) (by first | decide | omega) (by first | assumption | exact (b6 _ (by omega)).1 | exact (a2 i (by omega)).1 | rfl) ?_
        first | refine U_ifB_eq (tgt := 28) dX6_heldSlots_19 (by decide) (by with_reducible rfl) (fun c19 => ?_) (fun c19 => ?_) | refine U_if_eq (tgt := 28) dX6_heldSlots_19 (by decide) (by with_reducible rfl) (by omega) (fun c19 => ?_) (fun c19 => ?_) | refine V_if_eq (tgt := 28) dX6_heldSlots_19 (by decide) (fun c19 => ?_) (fun c19 => ?_)
        · skip
          have e : hsF (fun s => (A.2.2.1 s).1) (i + 1) = hsF (fun s => (A.2.2.1 s).1) i := by rw [hsF, if_pos c19]
          rw [← e]
          refine V_iinc2 dX6_heldSlots_28 (by first | exact ginc1 _ | rfl) (by decide) rfl ?_
          refine V_goto (tgt := 4) dX6_heldSlots_31 (by decide) ?_
          exact ih (6 - (i + 1)) (by omega) (i + 1) rfl (by omega)
        · skip
          have e : hsF (fun s => (A.2.2.1 s).1) (i + 1) = hsF (fun s => (A.2.2.1 s).1) i ||| (nI 1 <<< (nI i &&& 31)) := by rw [hsF, if_neg c19]
          refine V_iloadn1 dX6_heldSlots_22 ?_
          refine V_iconst (v := nI 1) dX6_heldSlots_23 (by decide) ?_
          refine V_iloadn2 dX6_heldSlots_24 ?_
          refine V_ishl dX6_heldSlots_25 ?_
          refine V_ior dX6_heldSlots_26 ?_
          rw [← e]
          refine V_istoren1 dX6_heldSlots_27 (by decide) rfl ?_
          refine V_iinc2 dX6_heldSlots_28 (by first | exact ginc1 _ | rfl) (by decide) rfl ?_
          refine V_goto (tgt := 4) dX6_heldSlots_31 (by decide) ?_
          exact ih (6 - (i + 1)) (by omega) (i + 1) rfl (by omega)
  refine V_iconst (v := nI 0) dX6_heldSlots_0 (by decide) ?_
  refine V_istoren1 dX6_heldSlots_1 (by decide) rfl ?_
  refine V_iconst (v := nI 0) dX6_heldSlots_2 (by decide) ?_
  refine V_istoren2 dX6_heldSlots_3 (by decide) rfl ?_
  exact loop 6 0 rfl (by omega)
set_option maxRecDepth 100000 in
set_option maxHeartbeats 4000000 in
theorem c_lettersInAll {b : Nat} {A : SS} (hB : SL h b) (hA : RS h b A) (hQ : Q (some (.int (nI (sumF (fun s => (A.2.2.1 s).2.1.length) 6)))) h) : V Γ mX6_lettersInAll d 124 124 h 0 [some (.ref b), none, none] [] Q := by
  obtain ⟨b0, b1, b2, bN, b4, b5, b6⟩ := id hB
  obtain ⟨a0, a1, a2, a3⟩ := id hA
  have loop : ∀ k i, 6 - i = k → i ≤ 6 → V Γ mX6_lettersInAll d 124 124 h 4 [some (.ref b), some (.int (nI (sumF (fun s => (A.2.2.1 s).2.1.length) i))), some (.int (nI i))] [] Q := by
    intro k
    induction k using Nat.strongRecOn with
    | _ k ih =>
      intro i hk hi
      refine V_iloadn2 dX6_lettersInAll_4 ?_
      refine V_bipush (v := nI 6) dX6_lettersInAll_5 (by decide) ?_
      first | refine U_icmp_ge (tgt := 28) dX6_lettersInAll_7 (by decide) (by with_reducible rfl) (by with_reducible rfl) (by omega) (by omega) (fun c7 => ?_) (fun c7 => ?_) | refine V_icmp_ge (tgt := 28) dX6_lettersInAll_7 (by decide) (fun c7 => ?_) (fun c7 => ?_)
      · skip
        have e : i = 6 := by omega
        subst e
        refine V_iloadn1 dX6_lettersInAll_28 ?_
        refine V_iret dX6_lettersInAll_29 rfl rfl ?_
        exact hQ
      · skip
        have lb := (b6 i (by omega)).2.1
        refine V_iloadn1 dX6_lettersInAll_10 ?_
        refine V_aloadn0 dX6_lettersInAll_11 ?_
        refine V_getR dX6_lettersInAll_12 fX6_20 (by first | assumption | rfl) (by first | decide | omega) (by first | assumption | exact (b6 _ (by omega)).1 | exact (a2 i (by omega)).2.1 | rfl) ?_
        refine V_iloadn2 dX6_lettersInAll_15 ?_
        refine U_aald dX6_lettersInAll_16 (by with_reducible rfl) (by first | assumption | rfl) (by decide) (by first | decide | omega) (by omega) (by first | assumption | exact (b6 _ (by omega)).1 | exact (a2 i (by omega)).2.1 | rfl) ?_
        refine V_getI dX6_lettersInAll_17 fX6_51 (Or.inl rfl) (by first | assumption | rfl) (by first | decide | omega) (by first | assumption | exact (b6 _ (by omega)).1 | exact (a2 i (by omega)).2.1 | rfl) ?_
        first | refine U_iadd dX6_lettersInAll_20 (by with_reducible rfl) (by with_reducible rfl) ?_ | refine V_iadd dX6_lettersInAll_20 ?_
        refine V_istoren1 dX6_lettersInAll_21 (by decide) rfl ?_
        refine V_iinc2 dX6_lettersInAll_22 (by first | exact ginc1 _ | rfl) (by decide) rfl ?_
        refine V_goto (tgt := 4) dX6_lettersInAll_25 (by decide) ?_
        exact ih (6 - (i + 1)) (by omega) (i + 1) rfl (by omega)
  refine V_iconst (v := nI 0) dX6_lettersInAll_0 (by decide) ?_
  refine V_istoren1 dX6_lettersInAll_1 (by decide) rfl ?_
  refine V_iconst (v := nI 0) dX6_lettersInAll_2 (by decide) ?_
  refine V_istoren2 dX6_lettersInAll_3 (by decide) rfl ?_
  exact loop 6 0 rfl (by omega)
def zNext (z : Int32) : Int32 := z * 1103515245 + nI 12345
def zHi (z : Int32) : Int32 := (z.toUInt32 >>> ((nI 16).toUInt32 &&& Int32.toUInt32 31)).toInt32
set_option maxRecDepth 100000 in
set_option maxHeartbeats 4000000 in
theorem c_draw {b : Nat} {z : Int32} (hB : SL h b) (hz : gI h b 1 = z) (hQ : Q (some (.int (zHi (zNext z)))) (sI h b 1 (zNext z))) : V Γ mX6_draw d 124 124 h 0 [some (.ref b)] [] Q := by
  obtain ⟨b0, b1, b2, bN, b4, b5, b6⟩ := hB
  have e : gI (sI h b 1 (zNext z)) b 1 = zNext z := by simp [gI_sI]
  refine V_aloadn0 dX6_draw_0 ?_
  refine V_aloadn0 dX6_draw_1 ?_
  refine V_getI dX6_draw_2 fX6_15 (Or.inl rfl) (by first | assumption | rfl) (by first | decide | omega) (by first | assumption | rfl) ?_
  refine V_ldc (v := 1103515245) dX6_draw_5 kX6_54 ?_
  first | refine U_imul dX6_draw_7 (by with_reducible rfl) (by with_reducible rfl) ?_ | refine V_imul dX6_draw_7 ?_
  refine V_sipush (v := nI 12345) dX6_draw_8 (by decide) ?_
  first | refine U_iadd dX6_draw_11 (by with_reducible rfl) (by with_reducible rfl) ?_ | refine V_iadd dX6_draw_11 ?_
  rw [show z * 1103515245 + nI 12345 = zNext z from rfl]
  refine V_putI dX6_draw_12 fX6_15 (by first | assumption | rfl) (by first | decide | omega) ?_
  refine V_aloadn0 dX6_draw_15 ?_
  refine V_getI dX6_draw_16 fX6_15 (Or.inl rfl) (by first | assumption | rfl) (by first | decide | omega) (by first | assumption | rfl) ?_
  refine V_bipush (v := nI 16) dX6_draw_19 (by decide) ?_
  refine V_iushr dX6_draw_21 rfl ?_
  refine V_iret dX6_draw_22 rfl rfl ?_
  exact hQ
def hpB (x y : Int32) (l : Nat) : Bool := decide (0 ≤ x) && (decide (0 ≤ y) && decide (x.toInt64 + y.toInt64 ≤ (nI l).toInt64))
set_option maxRecDepth 100000 in
set_option maxHeartbeats 4000000 in
theorem c_hasPlaces {l : Nat} {x y : Int32} (l0 : lay t = some (.inr 5)) (hl : gI h t 1 = nI l) (hQ : Q (some (.int (gBo (hpB x y l)))) h) : V Γ mX5_hasPlaces d 124 124 h 0 [some (.ref t), some (.int x), some (.int y)] [] Q := by
  have lt := lay_lt l0
  refine V_iloadn1 dX5_hasPlaces_0 ?_
  refine V_if_lt (tgt := 26) dX5_hasPlaces_1 (by decide) (fun c1 => ?_) (fun c1 => ?_)
  · skip
    have e : hpB x y l = false := by unfold hpB; rw [decide_eq_false (Int32.not_le.mpr c1), Bool.false_and]
    rw [e, gBo_f] at hQ
    refine V_iconst (v := nI 0) dX5_hasPlaces_26 (by decide) ?_
    refine V_iret dX5_hasPlaces_27 rfl (by first | exact gBo_nar _ | rfl | decide) ?_
    exact hQ
  · skip
    refine V_iloadn2 dX5_hasPlaces_4 ?_
    refine V_if_lt (tgt := 26) dX5_hasPlaces_5 (by decide) (fun c5 => ?_) (fun c5 => ?_)
    · skip
      have e : hpB x y l = false := by unfold hpB; rw [decide_eq_false (Int32.not_le.mpr c5), Bool.false_and, Bool.and_false]
      rw [e, gBo_f] at hQ
      refine V_iconst (v := nI 0) dX5_hasPlaces_26 (by decide) ?_
      refine V_iret dX5_hasPlaces_27 rfl (by first | exact gBo_nar _ | rfl | decide) ?_
      exact hQ
    · skip
      refine V_iloadn1 dX5_hasPlaces_8 ?_
      refine V_i2l dX5_hasPlaces_9 rfl ?_
      refine V_iloadn2 dX5_hasPlaces_10 ?_
      refine V_i2l dX5_hasPlaces_11 rfl ?_
      refine V_ladd dX5_hasPlaces_12 ?_
      refine V_aloadn0 dX5_hasPlaces_13 ?_
      refine V_getI dX5_hasPlaces_14 fX5_19 (Or.inl rfl) (by first | assumption | rfl) (by first | decide | omega) (by first | assumption | rfl) ?_
      refine V_i2l dX5_hasPlaces_17 rfl ?_
      refine V_lcmp dX5_hasPlaces_18 ?_
      first | refine U_if_gt (tgt := 26) dX5_hasPlaces_19 (by decide) (by with_reducible rfl) (by omega) (fun c19 => ?_) (fun c19 => ?_) | refine V_if_gt (tgt := 26) dX5_hasPlaces_19 (by decide) (fun c19 => ?_) (fun c19 => ?_)
      · skip
        have e : hpB x y l = false := by unfold hpB; rw [decide_eq_false (fun q => absurd ((lg_cmp_gt _ _).mp c19) (Int64.not_lt.mpr q)), Bool.and_false, Bool.and_false]
        rw [e, gBo_f] at hQ
        refine V_iconst (v := nI 0) dX5_hasPlaces_26 (by decide) ?_
        refine V_iret dX5_hasPlaces_27 rfl (by first | exact gBo_nar _ | rfl | decide) ?_
        exact hQ
      · skip
        have e : hpB x y l = true := by unfold hpB; rw [decide_eq_true (Int32.not_lt.mp c1), decide_eq_true (Int32.not_lt.mp c5), decide_eq_true (Int64.not_lt.mp (fun q => c19 ((lg_cmp_gt _ _).mpr q)))]; rfl
        rw [e, gBo_t] at hQ
        refine V_iconst (v := nI 1) dX5_hasPlaces_22 (by decide) ?_
        refine V_goto (tgt := 27) dX5_hasPlaces_23 (by decide) ?_
        refine V_iret dX5_hasPlaces_27 rfl (by first | exact gBo_nar _ | rfl | decide) ?_
        exact hQ
/-- what a row of a sort keeps of a number -/
def cutS (so : Nat) (v : Int32) : Int32 := if so = 0 then v.toInt8.toInt32 else if so = 1 then (v.toUInt32 % 65536).toInt32 else v
set_option maxRecDepth 100000 in
set_option maxHeartbeats 4000000 in
theorem c_sheetWrite {so i : Nat} {v : Int32} (l0 : lay t = some (.inr 5)) (l1 : lay (t + 1) = some (.inl (1, 40))) (r2 : gR h t 2 = some (t + 1)) (ht : t + 1 < 124) (hs : gI h t 0 = nI so) (hso : so ≤ 2) (hi : i < 40) (hQ : Q none (sL h (t + 1) i (cutS so v).toInt64)) : V Γ mX5_write d 124 124 h 0 [some (.ref t), some (.int (nI i)), some (.int v)] [] Q := by
  refine V_aloadn0 dX5_write_0 ?_
  refine V_getI dX5_write_1 fX5_9 (Or.inl rfl) (by first | assumption | rfl) (by first | decide | omega) (by first | assumption | rfl) ?_
  first | refine U_ifB_ne (tgt := 19) dX5_write_4 (by decide) (by with_reducible rfl) (fun c4 => ?_) (fun c4 => ?_) | refine U_if_ne (tgt := 19) dX5_write_4 (by decide) (by with_reducible rfl) (by omega) (fun c4 => ?_) (fun c4 => ?_) | refine V_if_ne (tgt := 19) dX5_write_4 (by decide) (fun c4 => ?_) (fun c4 => ?_)
  · skip
    refine V_aloadn0 dX5_write_19 ?_
    refine V_getI dX5_write_20 fX5_9 (Or.inl rfl) (by first | assumption | rfl) (by first | decide | omega) (by first | assumption | rfl) ?_
    refine V_iconst (v := nI 1) dX5_write_23 (by decide) ?_
    first | refine U_icmp_ne (tgt := 39) dX5_write_24 (by decide) (by with_reducible rfl) (by with_reducible rfl) (by omega) (by omega) (fun c24 => ?_) (fun c24 => ?_) | refine V_icmp_ne (tgt := 39) dX5_write_24 (by decide) (fun c24 => ?_) (fun c24 => ?_)
    · skip
      have e : cutS so v = v := by unfold cutS; rw [if_neg c4, if_neg c24]
      rw [e] at hQ
      refine V_aloadn0 dX5_write_39 ?_
      refine V_getR dX5_write_40 fX5_15 (by first | assumption | rfl) (by first | decide | omega) (by first | assumption | rfl) ?_
      refine V_iloadn1 dX5_write_43 ?_
      refine V_iloadn2 dX5_write_44 ?_
      refine V_i2l dX5_write_45 rfl ?_
      refine U_last dX5_write_46 (by with_reducible rfl) (by first | assumption | rfl) (by first | decide | omega) (by omega) ?_
      refine V_ret dX5_write_47 rfl ?_
      exact hQ
    · skip
      have e : cutS so v = (v.toUInt32 % 65536).toInt32 := by unfold cutS; rw [if_neg c4, if_pos c24]
      rw [e] at hQ
      refine V_aloadn0 dX5_write_27 ?_
      refine V_getR dX5_write_28 fX5_15 (by first | assumption | rfl) (by first | decide | omega) (by first | assumption | rfl) ?_
      refine V_iloadn1 dX5_write_31 ?_
      refine V_iloadn2 dX5_write_32 ?_
      refine V_i2c dX5_write_33 rfl ?_
      refine V_i2l dX5_write_34 rfl ?_
      refine U_last dX5_write_35 (by with_reducible rfl) (by first | assumption | rfl) (by first | decide | omega) (by omega) ?_
      refine V_goto (tgt := 47) dX5_write_36 (by decide) ?_
      refine V_ret dX5_write_47 rfl ?_
      exact hQ
  · skip
    have e : cutS so v = v.toInt8.toInt32 := by unfold cutS; rw [if_pos c4]
    rw [e] at hQ
    refine V_aloadn0 dX5_write_7 ?_
    refine V_getR dX5_write_8 fX5_15 (by first | assumption | rfl) (by first | decide | omega) (by first | assumption | rfl) ?_
    refine V_iloadn1 dX5_write_11 ?_
    refine V_iloadn2 dX5_write_12 ?_
    refine V_i2b dX5_write_13 rfl ?_
    refine V_i2l dX5_write_14 rfl ?_
    refine U_last dX5_write_15 (by with_reducible rfl) (by first | assumption | rfl) (by first | decide | omega) (by omega) ?_
    refine V_goto (tgt := 47) dX5_write_16 (by decide) ?_
    refine V_ret dX5_write_47 rfl ?_
    exact hQ
set_option maxRecDepth 100000 in
set_option maxHeartbeats 4000000 in
theorem c_becomeMissing (l0 : lay t = some (.inr 5)) (hQ : Q none (sI (sI h t 0 (-1)) t 1 (nI 0))) : V Γ mX5_becomeMissing d 124 124 h 0 [some (.ref t)] [] Q := by
  have lt := lay_lt l0
  refine V_aloadn0 dX5_becomeMissing_0 ?_
  refine V_iconst (v := -1) dX5_becomeMissing_1 (by decide) ?_
  refine V_putI dX5_becomeMissing_2 fX5_9 (by first | assumption | rfl) (by first | decide | omega) ?_
  refine V_aloadn0 dX5_becomeMissing_5 ?_
  refine V_iconst (v := nI 0) dX5_becomeMissing_6 (by decide) ?_
  refine V_putI dX5_becomeMissing_7 fX5_19 (by first | assumption | rfl) (by first | decide | omega) ?_
  refine V_ret dX5_becomeMissing_10 rfl ?_
  exact hQ
set_option maxRecDepth 100000 in
set_option maxHeartbeats 4000000 in
theorem c_isMissing {x : Int32} (l0 : lay t = some (.inr 5)) (hx : gI h t 0 = x) (hQ : Q (some (.int (gBo (decide (x = -1))))) h) : V Γ mX5_isMissing d 124 124 h 0 [some (.ref t)] [] Q := by
  have lt := lay_lt l0
  refine V_aloadn0 dX5_isMissing_0 ?_
  refine V_getI dX5_isMissing_1 fX5_9 (Or.inl rfl) (by first | assumption | rfl) (by first | decide | omega) (by first | assumption | rfl) ?_
  refine V_iconst (v := -1) dX5_isMissing_4 (by decide) ?_
  first | refine U_icmp_ne (tgt := 12) dX5_isMissing_5 (by decide) (by with_reducible rfl) (by with_reducible rfl) (by omega) (by omega) (fun c5 => ?_) (fun c5 => ?_) | refine V_icmp_ne (tgt := 12) dX5_isMissing_5 (by decide) (fun c5 => ?_) (fun c5 => ?_)
  · skip
    rw [decide_eq_false c5, gBo_f] at hQ
    refine V_iconst (v := nI 0) dX5_isMissing_12 (by decide) ?_
    refine V_iret dX5_isMissing_13 rfl (by first | exact gBo_nar _ | rfl | decide) ?_
    exact hQ
  · skip
    rw [decide_eq_true c5, gBo_t] at hQ
    refine V_iconst (v := nI 1) dX5_isMissing_8 (by decide) ?_
    refine V_goto (tgt := 13) dX5_isMissing_9 (by decide) ?_
    refine V_iret dX5_isMissing_13 rfl (by first | exact gBo_nar _ | rfl | decide) ?_
    exact hQ
set_option maxRecDepth 100000 in
set_option maxHeartbeats 4000000 in
theorem c_becomeRow {x y : Int32} (hd : 1 ≤ d) (l0 : lay t = some (.inr 5)) (l1 : lay (t + 1) = some (.inl (1, 40))) (r2 : gR h t 2 = some (t + 1)) (ht : t + 1 < 124) (hQ : ∀ h', (∀ k, k < 40 → gL h' (t + 1) k = lN 0) → FrL (sI (sI h t 0 x) t 1 y) h' (t + 1) (t + 2) → Q none h') : V Γ mX5_becomeRow d 124 124 h 0 [some (.ref t), some (.int x), some (.int y)] [] Q := by
  refine V_aloadn0 dX5_becomeRow_0 ?_
  refine V_iloadn1 dX5_becomeRow_1 ?_
  refine V_putI dX5_becomeRow_2 fX5_9 (by first | assumption | rfl) (by first | decide | omega) ?_
  refine V_aloadn0 dX5_becomeRow_5 ?_
  refine V_iloadn2 dX5_becomeRow_6 ?_
  refine V_putI dX5_becomeRow_7 fX5_19 (by first | assumption | rfl) (by first | decide | omega) ?_
  refine V_aloadn0 dX5_becomeRow_10 ?_
  refine V_getR dX5_becomeRow_11 fX5_15 (by first | assumption | rfl) (by first | decide | omega) (by first | assumption | rfl) ?_
  refine V_lconst (v := lN 0) dX5_becomeRow_14 (by decide) ?_
  refine V_callS2 (μ' := mJ7_fill_d0a16) dX5_becomeRow_15 okJ7_fill_d0a16 lX5_22 (Nat.le_of_ble_eq_true rfl) (Nat.le_of_ble_eq_true rfl) (by omega) ?_
  refine c_fillL l1 ht (fun h2 hk hF => ?_)
  dsimp only [gPush]
  refine V_ret dX5_becomeRow_18 rfl ?_
  exact hQ h2 hk hF
end C13
