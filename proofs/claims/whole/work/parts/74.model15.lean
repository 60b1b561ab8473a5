/-! ===== the reference: names of acts ===== -/
theorem lg_eq {x y : Int64} : lg_cmp x y = 0 ↔ x = y := by
  have irr : ∀ z : Int64, ¬ z < z := fun z => Int64.lt_irrefl
  unfold lg_cmp
  by_cases h1 : x > y
  · rw [if_pos h1]
    constructor
    · intro h; exact absurd h (by decide)
    · intro h; subst h; exact absurd h1 (irr _)
  · rw [if_neg h1]
    by_cases h2 : x = y
    · subst h2
      simp
    · constructor
      · intro h
        exfalso
        revert h
        split
        · intro _; exact h2 (by assumption)
        · decide
      · intro h; exact absurd h h2
theorem eon_go {B : List Nat} {p : Nat} (hp : p < B.length) (hr : 97 ≤ B.getD p 0 ∧ B.getD p 0 ≤ 122) : eon B (p + 1) = eon B p := by
  unfold eon
  rw [drop_getDn hp, azN, if_pos hr]
  omega
theorem eon_stop {B : List Nat} {p : Nat} (hr : B.length ≤ p ∨ ¬ (97 ≤ B.getD p 0 ∧ B.getD p 0 ≤ 122)) : eon B p = p := by
  unfold eon
  by_cases hp : p < B.length
  · rw [drop_getDn hp, azN, if_neg (by omega)]; rfl
  · rw [List.drop_eq_nil_of_le (by omega)]; rfl
theorem az_in : ∀ b, b < 256 → inR (nI b) 97 122 = decide (97 ≤ b ∧ b ≤ 122) := by decide +kernel
/-- letters read as a number to the base of 27 -/
def vP (B : List Nat) (p : Nat) : Nat → Nat
  | 0 => 0
  | j + 1 => 27 * vP B p j + (B.getD (p + j) 0 - 96)
def nvL (B : List Nat) (p : Nat) : Nat → Int64
  | 0 => 0
  | j + 1 => if 6 < j then -1 else 27 * nvL B p j + lN (B.getD (p + j) 0) - 96
theorem vP_lt {B : List Nat} {p : Nat} : ∀ j, (∀ i, i < j → 97 ≤ B.getD (p + i) 0 ∧ B.getD (p + i) 0 ≤ 122) → vP B p j < 27 ^ j
  | 0, _ => by rw [vP]; decide
  | j + 1, h => by
    have a := vP_lt (B := B) (p := p) j (fun i hi => h i (by omega))
    have b := h j (by omega)
    rw [vP, Nat.pow_succ]
    omega
theorem vp_inj {B N : List Nat} {p : Nat} : ∀ m n, (∀ i, i < m → 97 ≤ B.getD (p + i) 0 ∧ B.getD (p + i) 0 ≤ 122) → (∀ i, i < n → 97 ≤ N.getD (0 + i) 0 ∧ N.getD (0 + i) 0 ≤ 122) → vP B p m = vP N 0 n → m = n ∧ ∀ j, j < n → B.getD (p + j) 0 = N.getD (0 + j) 0
  | 0, 0, _, _, _ => ⟨rfl, fun j hj => absurd hj (Nat.not_lt_zero _)⟩
  | 0, n + 1, _, h2, e => by
    have := h2 n (by omega)
    rw [vP, vP] at e
    omega
  | m + 1, 0, h1, _, e => by
    have := h1 m (by omega)
    rw [vP, vP] at e
    omega
  | m + 1, n + 1, h1, h2, e => by
    have a := h1 m (by omega)
    have b := h2 n (by omega)
    rw [vP, vP] at e
    obtain ⟨e1, e2⟩ := vp_inj m n (fun i hi => h1 i (by omega)) (fun i hi => h2 i (by omega)) (by omega)
    subst e1
    refine ⟨rfl, fun j hj => ?_⟩
    by_cases hj2 : j = m
    · subst hj2; omega
    · exact e2 j (by omega)
theorem vp_cg {B N : List Nat} {p : Nat} : ∀ n, (∀ j, j < n → B.getD (p + j) 0 = N.getD (0 + j) 0) → vP B p n = vP N 0 n
  | 0, _ => rfl
  | n + 1, h => by rw [vP, vP, vp_cg n (fun j hj => h j (by omega)), h n (by omega)]
theorem nm_az : ∀ k, k < 6 → ∀ i, i < (nmL.getD k []).length → 97 ≤ (nmL.getD k []).getD (0 + i) 0 ∧ (nmL.getD k []).getD (0 + i) 0 ≤ 122 := by decide
def nmC (k : Nat) : Nat := vP (nmL.getD k []) 0 (nmL.getD k []).length
theorem nmB_v {B : List Nat} {p e k : Nat} (hk : k < 6) (hr : ∀ i, i < e - p → 97 ≤ B.getD (p + i) 0 ∧ B.getD (p + i) 0 ≤ 122) : nmB B p e k = decide (vP B p (e - p) = nmC k) := by
  unfold nmB
  by_cases h : vP B p (e - p) = nmC k
  · rw [decide_eq_true h]
    obtain ⟨e1, e2⟩ := vp_inj _ _ hr (nm_az k hk) h
    rw [decide_eq_true e1, Bool.true_and, List.all_eq_true]
    intro j hj
    rw [decide_eq_true_eq, e2 j (List.mem_range.mp hj), Nat.zero_add]
  · rw [decide_eq_false h, Bool.and_eq_false_iff]
    by_cases h1 : e - p = (nmL.getD k []).length
    · right
      rw [← Bool.not_eq_true, List.all_eq_true]
      intro q
      apply h
      unfold nmC
      rw [h1]
      exact vp_cg _ (fun j hj => by have := q j (List.mem_range.mpr hj); rw [decide_eq_true_eq] at this; rw [this, Nat.zero_add])
    · left; exact decide_eq_false h1
theorem lN_sub9 (a b : Nat) (h : b ≤ a) : lN a - lN b = lN (a - b) := by
  obtain ⟨c, rfl⟩ : ∃ c, a = c + b := ⟨a - b, by omega⟩
  have e : lN (c + b) = lN c + lN b := Int64.ofNat_add _ _
  rw [e, Nat.add_sub_cancel]
  exact Int64.add_sub_cancel _ _
theorem nv_v {B : List Nat} {p : Nat} : ∀ j, j ≤ 7 → (∀ i, i < j → 97 ≤ B.getD (p + i) 0 ∧ B.getD (p + i) 0 ≤ 122) → nvL B p j = lN (vP B p j)
  | 0, _, _ => rfl
  | j + 1, h7, h => by
    have b := h j (by omega)
    rw [nvL, if_neg (by omega), nv_v j (by omega) (fun i hi => h i (by omega)), vP]
    have e1 : (27 : Int64) * lN (vP B p j) = lN (27 * vP B p j) := (Int64.ofNat_mul 27 _).symm
    have e2 : lN (27 * vP B p j) + lN (B.getD (p + j) 0) = lN (27 * vP B p j + B.getD (p + j) 0) := (Int64.ofNat_add _ _).symm
    rw [e1, e2, show (96 : Int64) = lN 96 from rfl, lN_sub9 _ _ (by omega)]
    congr 1
    omega
theorem nv_big {B : List Nat} {p : Nat} : ∀ j, 8 ≤ j → nvL B p j = -1
  | 0, h => absurd h (by decide)
  | j + 1, h => by rw [nvL, if_pos (by omega)]
def aoF (v : Int64) : Int32 := if v = 9592700 then nI 0 else if v = 6689457 then nI 1 else if v = 7048741925 then nI 2 else if v = 15001 then nI 3 else if v = 129458 then nI 4 else if v = 409469 then nI 5 else -1
theorem lN_inj9 {a b : Nat} (ha : a < 2 ^ 40) (hb : b < 2 ^ 40) (h : lN a = lN b) : a = b := by
  have := congrArg Int64.toInt h
  unfold lN at this
  rw [Int64.toInt_ofNat_of_lt (by omega), Int64.toInt_ofNat_of_lt (by omega)] at this
  omega
theorem ao_nm {B : List Nat} {p e : Nat} (hr : ∀ i, i < e - p → 97 ≤ B.getD (p + i) 0 ∧ B.getD (p + i) 0 ≤ 122) : aoF (nvL B p (e - p)) = match nmF B p e 0 6 with | none => -1 | some k => nI k := by
  have c0 : nmC 0 = 9592700 := by decide
  have c1 : nmC 1 = 6689457 := by decide
  have c2 : nmC 2 = 7048741925 := by decide
  have c3 : nmC 3 = 15001 := by decide
  have c4 : nmC 4 = 129458 := by decide
  have c5 : nmC 5 = 409469 := by decide
  have key : ∀ k, k < 6 → (nmB B p e k = true ↔ nvL B p (e - p) = lN (nmC k)) := by
    intro k hk
    rw [nmB_v hk hr, decide_eq_true_eq]
    have hc : nmC k < 2 ^ 40 := by
      have : ∀ k, k < 6 → nmC k < 2 ^ 40 := by decide
      exact this k hk
    by_cases h7 : e - p ≤ 7
    · have hv := vP_lt (e - p) hr
      have h8 : 27 ^ (e - p) ≤ 27 ^ 7 := Nat.pow_le_pow_right (by decide) h7
      rw [nv_v _ h7 hr]
      exact ⟨fun h => by rw [h], fun h => lN_inj9 (by omega) hc h⟩
    · rw [nv_big _ (by omega)]
      constructor
      · intro h
        have := (vp_inj _ _ hr (nm_az k hk) h).1
        have h9 : ∀ k, k < 6 → (nmL.getD k []).length ≤ 7 := by decide
        have := h9 k hk
        omega
      · intro h
        have h9 : ∀ k, k < 6 → ¬ (-1 : Int64) = lN (nmC k) := by decide
        exact absurd h (h9 k hk)
  have k0 := key 0 (by decide)
  have k1 := key 1 (by decide)
  have k2 := key 2 (by decide)
  have k3 := key 3 (by decide)
  have k4 := key 4 (by decide)
  have k5 := key 5 (by decide)
  rw [c0, show lN 9592700 = 9592700 from rfl] at k0
  rw [c1, show lN 6689457 = 6689457 from rfl] at k1
  rw [c2, show lN 7048741925 = 7048741925 from rfl] at k2
  rw [c3, show lN 15001 = 15001 from rfl] at k3
  rw [c4, show lN 129458 = 129458 from rfl] at k4
  rw [c5, show lN 409469 = 409469 from rfl] at k5
  unfold aoF
  simp only [nmF, ← k0, ← k1, ← k2, ← k3, ← k4, ← k5]
  by_cases h0 : nmB B p e 0 = true
  · simp only [h0, if_true]
  · by_cases h1 : nmB B p e 1 = true
    · simp only [h0, h1, if_true, if_false]; rfl
    · by_cases h2 : nmB B p e 2 = true
      · simp only [h0, h1, h2, if_true, if_false]; rfl
      · by_cases h3 : nmB B p e 3 = true
        · simp only [h0, h1, h2, h3, if_true, if_false]; rfl
        · by_cases h4 : nmB B p e 4 = true
          · simp only [h0, h1, h2, h3, h4, if_true, if_false]; rfl
          · by_cases h5 : nmB B p e 5 = true
            · simp only [h0, h1, h2, h3, h4, h5, if_true, if_false]; rfl
            · simp only [h0, h1, h2, h3, h4, h5, if_false]; rfl
section C74
variable {Γ : gM} {d : Nat} {h : gH} {Q : Option Value → gH → Prop} {S : GS}
set_option maxRecDepth 100000 in
set_option maxHeartbeats 4000000 in
theorem m_actOf {v : Int64} (hQ : Q (some (.int (aoF v))) h) : V Γ mX10_actOf d 124 124 h 0 [some (.long v), none] [] Q := by
  have hQ9 : ∀ r, aoF v = r → Q (some (.int r)) h := fun r e => by rw [← e]; exact hQ
  clear hQ
  unfold aoF at hQ9
  refine V_lloadn0 dX10_actOf_0 ?_
  refine V_ldc2 (v := 9592700) dX10_actOf_1 kX10_201 ?_
  refine V_lcmp dX10_actOf_4 ?_
  first | refine U_ifB_eq (tgt := 16) dX10_actOf_5 (by decide) (by with_reducible rfl) (fun c5 => ?_) (fun c5 => ?_) | refine U_if_eq (tgt := 16) dX10_actOf_5 (by decide) (by with_reducible rfl) (by omega) (fun c5 => ?_) (fun c5 => ?_) | refine V_if_eq (tgt := 16) dX10_actOf_5 (by decide) (fun c5 => ?_) (fun c5 => ?_)
  · skip
    refine V_lloadn0 dX10_actOf_16 ?_
    refine V_ldc2 (v := 9592700) dX10_actOf_17 kX10_201 ?_
    refine V_lcmp dX10_actOf_20 ?_
    first | refine U_ifB_ne (tgt := 28) dX10_actOf_21 (by decide) (by with_reducible rfl) (fun c21 => ?_) (fun c21 => ?_) | refine U_if_ne (tgt := 28) dX10_actOf_21 (by decide) (by with_reducible rfl) (by omega) (fun c21 => ?_) (fun c21 => ?_) | refine V_if_ne (tgt := 28) dX10_actOf_21 (by decide) (fun c21 => ?_) (fun c21 => ?_)
    · skip
      refine V_iconst (v := nI 1) dX10_actOf_28 (by decide) ?_
      refine V_iret dX10_actOf_29 rfl rfl ?_
      refine hQ9 _ ?_
      simp only [lg_eq] at *
      simp_all <;> done
    · skip
      refine V_iconst (v := nI 0) dX10_actOf_24 (by decide) ?_
      refine V_goto (tgt := 29) dX10_actOf_25 (by decide) ?_
      refine V_iret dX10_actOf_29 rfl rfl ?_
      refine hQ9 _ ?_
      simp only [lg_eq] at *
      simp_all <;> done
  · skip
    refine V_lloadn0 dX10_actOf_8 ?_
    refine V_ldc2 (v := 6689457) dX10_actOf_9 kX10_203 ?_
    refine V_lcmp dX10_actOf_12 ?_
    first | refine U_ifB_ne (tgt := 30) dX10_actOf_13 (by decide) (by with_reducible rfl) (fun c13 => ?_) (fun c13 => ?_) | refine U_if_ne (tgt := 30) dX10_actOf_13 (by decide) (by with_reducible rfl) (by omega) (fun c13 => ?_) (fun c13 => ?_) | refine V_if_ne (tgt := 30) dX10_actOf_13 (by decide) (fun c13 => ?_) (fun c13 => ?_)
    · skip
      refine V_lloadn0 dX10_actOf_30 ?_
      refine V_ldc2 (v := 7048741925) dX10_actOf_31 kX10_205 ?_
      refine V_lcmp dX10_actOf_34 ?_
      first | refine U_ifB_eq (tgt := 46) dX10_actOf_35 (by decide) (by with_reducible rfl) (fun c35 => ?_) (fun c35 => ?_) | refine U_if_eq (tgt := 46) dX10_actOf_35 (by decide) (by with_reducible rfl) (by omega) (fun c35 => ?_) (fun c35 => ?_) | refine V_if_eq (tgt := 46) dX10_actOf_35 (by decide) (fun c35 => ?_) (fun c35 => ?_)
      · skip
        refine V_lloadn0 dX10_actOf_46 ?_
        refine V_ldc2 (v := 7048741925) dX10_actOf_47 kX10_205 ?_
        refine V_lcmp dX10_actOf_50 ?_
        first | refine U_ifB_ne (tgt := 58) dX10_actOf_51 (by decide) (by with_reducible rfl) (fun c51 => ?_) (fun c51 => ?_) | refine U_if_ne (tgt := 58) dX10_actOf_51 (by decide) (by with_reducible rfl) (by omega) (fun c51 => ?_) (fun c51 => ?_) | refine V_if_ne (tgt := 58) dX10_actOf_51 (by decide) (fun c51 => ?_) (fun c51 => ?_)
        · skip
          refine V_iconst (v := nI 3) dX10_actOf_58 (by decide) ?_
          refine V_iret dX10_actOf_59 rfl rfl ?_
          refine hQ9 _ ?_
          simp only [lg_eq] at *
          simp_all <;> done
        · skip
          refine V_iconst (v := nI 2) dX10_actOf_54 (by decide) ?_
          refine V_goto (tgt := 59) dX10_actOf_55 (by decide) ?_
          refine V_iret dX10_actOf_59 rfl rfl ?_
          refine hQ9 _ ?_
          simp only [lg_eq] at *
          simp_all <;> done
      · skip
        refine V_lloadn0 dX10_actOf_38 ?_
        refine V_ldc2 (v := 15001) dX10_actOf_39 kX10_207 ?_
        refine V_lcmp dX10_actOf_42 ?_
        first | refine U_ifB_ne (tgt := 60) dX10_actOf_43 (by decide) (by with_reducible rfl) (fun c43 => ?_) (fun c43 => ?_) | refine U_if_ne (tgt := 60) dX10_actOf_43 (by decide) (by with_reducible rfl) (by omega) (fun c43 => ?_) (fun c43 => ?_) | refine V_if_ne (tgt := 60) dX10_actOf_43 (by decide) (fun c43 => ?_) (fun c43 => ?_)
        · skip
          refine V_lloadn0 dX10_actOf_60 ?_
          refine V_ldc2 (v := 129458) dX10_actOf_61 kX10_209 ?_
          refine V_lcmp dX10_actOf_64 ?_
          first | refine U_ifB_ne (tgt := 72) dX10_actOf_65 (by decide) (by with_reducible rfl) (fun c65 => ?_) (fun c65 => ?_) | refine U_if_ne (tgt := 72) dX10_actOf_65 (by decide) (by with_reducible rfl) (by omega) (fun c65 => ?_) (fun c65 => ?_) | refine V_if_ne (tgt := 72) dX10_actOf_65 (by decide) (fun c65 => ?_) (fun c65 => ?_)
          · skip
            refine V_lloadn0 dX10_actOf_72 ?_
            refine V_ldc2 (v := 409469) dX10_actOf_73 kX10_211 ?_
            refine V_lcmp dX10_actOf_76 ?_
            first | refine U_ifB_ne (tgt := 84) dX10_actOf_77 (by decide) (by with_reducible rfl) (fun c77 => ?_) (fun c77 => ?_) | refine U_if_ne (tgt := 84) dX10_actOf_77 (by decide) (by with_reducible rfl) (by omega) (fun c77 => ?_) (fun c77 => ?_) | refine V_if_ne (tgt := 84) dX10_actOf_77 (by decide) (fun c77 => ?_) (fun c77 => ?_)
            · skip
              refine V_iconst (v := -1) dX10_actOf_84 (by decide) ?_
              refine V_iret dX10_actOf_85 rfl rfl ?_
              refine hQ9 _ ?_
              simp only [lg_eq] at *
              simp_all <;> done
            · skip
              refine V_iconst (v := nI 5) dX10_actOf_80 (by decide) ?_
              refine V_goto (tgt := 85) dX10_actOf_81 (by decide) ?_
              refine V_iret dX10_actOf_85 rfl rfl ?_
              refine hQ9 _ ?_
              simp only [lg_eq] at *
              simp_all <;> done
          · skip
            refine V_iconst (v := nI 4) dX10_actOf_68 (by decide) ?_
            refine V_goto (tgt := 85) dX10_actOf_69 (by decide) ?_
            refine V_iret dX10_actOf_85 rfl rfl ?_
            refine hQ9 _ ?_
            simp only [lg_eq] at *
            simp_all <;> done
        · skip
          refine V_lloadn0 dX10_actOf_46 ?_
          refine V_ldc2 (v := 7048741925) dX10_actOf_47 kX10_205 ?_
          refine V_lcmp dX10_actOf_50 ?_
          first | refine U_ifB_ne (tgt := 58) dX10_actOf_51 (by decide) (by with_reducible rfl) (fun c51 => ?_) (fun c51 => ?_) | refine U_if_ne (tgt := 58) dX10_actOf_51 (by decide) (by with_reducible rfl) (by omega) (fun c51 => ?_) (fun c51 => ?_) | refine V_if_ne (tgt := 58) dX10_actOf_51 (by decide) (fun c51 => ?_) (fun c51 => ?_)
          · skip
            refine V_iconst (v := nI 3) dX10_actOf_58 (by decide) ?_
            refine V_iret dX10_actOf_59 rfl rfl ?_
            refine hQ9 _ ?_
            simp only [lg_eq] at *
            simp_all <;> done
          · skip
            refine V_iconst (v := nI 2) dX10_actOf_54 (by decide) ?_
            refine V_goto (tgt := 59) dX10_actOf_55 (by decide) ?_
            refine V_iret dX10_actOf_59 rfl rfl ?_
            refine hQ9 _ ?_
            simp only [lg_eq] at *
            simp_all <;> done
    · skip
      refine V_lloadn0 dX10_actOf_16 ?_
      refine V_ldc2 (v := 9592700) dX10_actOf_17 kX10_201 ?_
      refine V_lcmp dX10_actOf_20 ?_
      first | refine U_ifB_ne (tgt := 28) dX10_actOf_21 (by decide) (by with_reducible rfl) (fun c21 => ?_) (fun c21 => ?_) | refine U_if_ne (tgt := 28) dX10_actOf_21 (by decide) (by with_reducible rfl) (by omega) (fun c21 => ?_) (fun c21 => ?_) | refine V_if_ne (tgt := 28) dX10_actOf_21 (by decide) (fun c21 => ?_) (fun c21 => ?_)
      · skip
        refine V_iconst (v := nI 1) dX10_actOf_28 (by decide) ?_
        refine V_iret dX10_actOf_29 rfl rfl ?_
        refine hQ9 _ ?_
        simp only [lg_eq] at *
        simp_all <;> done
      · skip
        refine V_iconst (v := nI 0) dX10_actOf_24 (by decide) ?_
        refine V_goto (tgt := 29) dX10_actOf_25 (by decide) ?_
        refine V_iret dX10_actOf_29 rfl rfl ?_
        refine hQ9 _ ?_
        simp only [lg_eq] at *
        simp_all <;> done
set_option maxRecDepth 100000 in
set_option maxHeartbeats 4000000 in
theorem m_name {B : List Nat} {p : Nat} (hd : 1 ≤ d) (hM : MLay h) (hB : MB h B) (h60 : B.length ≤ 60) (h255 : ∀ p, B.getD p 0 ≤ 255) (g22 : gI h 94 22 = nI p) (hp : p ≤ B.length) (hQ : ∀ h', gI h' 94 29 = nI (eon B p - p) → (∀ x b, ¬ (x = 94 ∧ b = 29) → gI h' x b = gI h x b) → gL h' = gL h → gR h' = gR h → (∀ i, i < eon B p - p → 97 ≤ B.getD (p + i) 0 ∧ B.getD (p + i) 0 ≤ 122) → Q (some (.long (nvL B p (eon B p - p)))) h') : V Γ mX10_name d 124 124 h 0 [some (.ref 94), none, none] [] Q := by
  have loop : ∀ k j h1, B.length - (p + j) = k → p + j ≤ B.length → eon B p = eon B (p + j) → (∀ i, i < j → 97 ≤ B.getD (p + i) 0 ∧ B.getD (p + i) 0 ≤ 122) → gI h1 94 29 = nI j → (∀ x b, ¬ (x = 94 ∧ b = 29) → gI h1 x b = gI h x b) → gL h1 = gL h → gR h1 = gR h → V Γ mX10_name d 124 124 h1 7 [some (.ref 94), some (.long (nvL B p j)), none] [] Q := by
    intro k
    induction k using Nat.strongRecOn with
    | _ k ih =>
      intro j h1 hk hj he hr g29 e1 l1 r1
      have hM1 := MLay_eq hM r1
      have hB1 : MB h1 B := MB_cg hB (e1 94 21 (by omega)) (funext (fun b => e1 108 b (by omega)))
      have g21 := hB1.1
      have g22' : gI h1 94 22 = nI p := by rw [e1 94 22 (by omega)]; exact g22
      have h9 := h255 (p + j)
      have fin : eon B (p + j) = p + j → V Γ mX10_name d 124 124 h1 101 [some (.ref 94), some (.long (nvL B p j)), none] [] Q := by
        intro hs
        rw [he, hs, show p + j - p = j by omega] at hQ
        have hQ9 := hQ h1 g29 e1 l1 r1 hr
        refine V_lloadn1 dX10_name_101 ?_
        refine V_lret dX10_name_102 rfl ?_
        exact hQ9
      by_cases hlt : p + j < B.length
      · have gb := hB1.2 (p + j) hlt
        have hin := az_in (B.getD (p + j) 0) (by omega)
        by_cases haz : 97 ≤ B.getD (p + j) 0 ∧ B.getD (p + j) 0 ≤ 122
        · rw [decide_eq_true haz] at hin
          have hnv : nvL B p (j + 1) = if 6 < j then -1 else 27 * nvL B p j + lN (B.getD (p + j) 0) - 96 := rfl
          by_cases h6 : 6 < j
          · rw [if_pos h6] at hnv
            refine V_aloadn0 dX10_name_7 ?_
            refine V_getI dX10_name_8 fX10_130 (Or.inl rfl) (by first | assumption | rfl) (by first | decide | omega) (by first | assumption | exact ML_4 (by assumption) | exact ML_5 (by assumption) | exact ML_6 (by assumption) | exact ML_7 (by assumption) | exact ML_8 (by assumption) | exact ML_9 (by assumption) | exact ML_10 (by assumption) | exact ML_11 (by assumption) | exact ML_12 (by assumption) | exact ML_13 (by assumption) | exact ML_15 (by assumption) | exact ML_16 (by assumption) | exact ML_17 (by assumption) | exact ML_20 (by assumption) | exact ML_23 (by assumption) | exact ML_24 (by assumption) | exact ML_30 (by assumption) | exact ML_31 (by assumption) | exact ML_32 (by assumption) | exact ML_33 (by assumption) | exact ML_35 (by assumption) | exact ML_36 (by assumption) | exact ML_37 (by assumption) | exact ML_38 (by assumption) | exact ML_41 (by assumption) | exact ML_42 (by assumption) | exact ML_43 (by assumption) | exact ML_44 (by assumption) | exact ML_45 (by assumption) | rfl) ?_
            refine V_aloadn0 dX10_name_11 ?_
            refine V_getI dX10_name_12 fX10_192 (Or.inl rfl) (by first | assumption | rfl) (by first | decide | omega) (by first | assumption | exact ML_4 (by assumption) | exact ML_5 (by assumption) | exact ML_6 (by assumption) | exact ML_7 (by assumption) | exact ML_8 (by assumption) | exact ML_9 (by assumption) | exact ML_10 (by assumption) | exact ML_11 (by assumption) | exact ML_12 (by assumption) | exact ML_13 (by assumption) | exact ML_15 (by assumption) | exact ML_16 (by assumption) | exact ML_17 (by assumption) | exact ML_20 (by assumption) | exact ML_23 (by assumption) | exact ML_24 (by assumption) | exact ML_30 (by assumption) | exact ML_31 (by assumption) | exact ML_32 (by assumption) | exact ML_33 (by assumption) | exact ML_35 (by assumption) | exact ML_36 (by assumption) | exact ML_37 (by assumption) | exact ML_38 (by assumption) | exact ML_41 (by assumption) | exact ML_42 (by assumption) | exact ML_43 (by assumption) | exact ML_44 (by assumption) | exact ML_45 (by assumption) | rfl) ?_
            first | refine U_iadd dX10_name_15 (by with_reducible rfl) (by with_reducible rfl) ?_ | refine V_iadd dX10_name_15 ?_
            refine V_aloadn0 dX10_name_16 ?_
            refine V_getI dX10_name_17 fX10_125 (Or.inl rfl) (by first | assumption | rfl) (by first | decide | omega) (by first | assumption | exact ML_4 (by assumption) | exact ML_5 (by assumption) | exact ML_6 (by assumption) | exact ML_7 (by assumption) | exact ML_8 (by assumption) | exact ML_9 (by assumption) | exact ML_10 (by assumption) | exact ML_11 (by assumption) | exact ML_12 (by assumption) | exact ML_13 (by assumption) | exact ML_15 (by assumption) | exact ML_16 (by assumption) | exact ML_17 (by assumption) | exact ML_20 (by assumption) | exact ML_23 (by assumption) | exact ML_24 (by assumption) | exact ML_30 (by assumption) | exact ML_31 (by assumption) | exact ML_32 (by assumption) | exact ML_33 (by assumption) | exact ML_35 (by assumption) | exact ML_36 (by assumption) | exact ML_37 (by assumption) | exact ML_38 (by assumption) | exact ML_41 (by assumption) | exact ML_42 (by assumption) | exact ML_43 (by assumption) | exact ML_44 (by assumption) | exact ML_45 (by assumption) | rfl) ?_
            first | refine U_icmp_ge (tgt := 101) dX10_name_20 (by decide) (by with_reducible rfl) (by with_reducible rfl) (by omega) (by omega) (fun c20 => ?_) (fun c20 => ?_) | refine V_icmp_ge (tgt := 101) dX10_name_20 (by decide) (fun c20 => ?_) (fun c20 => ?_)
            · skip
              omega
            · skip
              refine V_aloadn0 dX10_name_23 ?_
              refine V_getR dX10_name_24 fX10_56 (by first | assumption | rfl) (by first | decide | omega) (by first | assumption | exact ML_4 (by assumption) | exact ML_5 (by assumption) | exact ML_6 (by assumption) | exact ML_7 (by assumption) | exact ML_8 (by assumption) | exact ML_9 (by assumption) | exact ML_10 (by assumption) | exact ML_11 (by assumption) | exact ML_12 (by assumption) | exact ML_13 (by assumption) | exact ML_15 (by assumption) | exact ML_16 (by assumption) | exact ML_17 (by assumption) | exact ML_20 (by assumption) | exact ML_23 (by assumption) | exact ML_24 (by assumption) | exact ML_30 (by assumption) | exact ML_31 (by assumption) | exact ML_32 (by assumption) | exact ML_33 (by assumption) | exact ML_35 (by assumption) | exact ML_36 (by assumption) | exact ML_37 (by assumption) | exact ML_38 (by assumption) | exact ML_41 (by assumption) | exact ML_42 (by assumption) | exact ML_43 (by assumption) | exact ML_44 (by assumption) | exact ML_45 (by assumption) | rfl) ?_
              refine V_aloadn0 dX10_name_27 ?_
              refine V_getI dX10_name_28 fX10_130 (Or.inl rfl) (by first | assumption | rfl) (by first | decide | omega) (by first | assumption | exact ML_4 (by assumption) | exact ML_5 (by assumption) | exact ML_6 (by assumption) | exact ML_7 (by assumption) | exact ML_8 (by assumption) | exact ML_9 (by assumption) | exact ML_10 (by assumption) | exact ML_11 (by assumption) | exact ML_12 (by assumption) | exact ML_13 (by assumption) | exact ML_15 (by assumption) | exact ML_16 (by assumption) | exact ML_17 (by assumption) | exact ML_20 (by assumption) | exact ML_23 (by assumption) | exact ML_24 (by assumption) | exact ML_30 (by assumption) | exact ML_31 (by assumption) | exact ML_32 (by assumption) | exact ML_33 (by assumption) | exact ML_35 (by assumption) | exact ML_36 (by assumption) | exact ML_37 (by assumption) | exact ML_38 (by assumption) | exact ML_41 (by assumption) | exact ML_42 (by assumption) | exact ML_43 (by assumption) | exact ML_44 (by assumption) | exact ML_45 (by assumption) | rfl) ?_
              refine V_aloadn0 dX10_name_31 ?_
              refine V_getI dX10_name_32 fX10_192 (Or.inl rfl) (by first | assumption | rfl) (by first | decide | omega) (by first | assumption | exact ML_4 (by assumption) | exact ML_5 (by assumption) | exact ML_6 (by assumption) | exact ML_7 (by assumption) | exact ML_8 (by assumption) | exact ML_9 (by assumption) | exact ML_10 (by assumption) | exact ML_11 (by assumption) | exact ML_12 (by assumption) | exact ML_13 (by assumption) | exact ML_15 (by assumption) | exact ML_16 (by assumption) | exact ML_17 (by assumption) | exact ML_20 (by assumption) | exact ML_23 (by assumption) | exact ML_24 (by assumption) | exact ML_30 (by assumption) | exact ML_31 (by assumption) | exact ML_32 (by assumption) | exact ML_33 (by assumption) | exact ML_35 (by assumption) | exact ML_36 (by assumption) | exact ML_37 (by assumption) | exact ML_38 (by assumption) | exact ML_41 (by assumption) | exact ML_42 (by assumption) | exact ML_43 (by assumption) | exact ML_44 (by assumption) | exact ML_45 (by assumption) | rfl) ?_
              first | refine U_iadd dX10_name_35 (by with_reducible rfl) (by with_reducible rfl) ?_ | refine V_iadd dX10_name_35 ?_
              refine U_iald dX10_name_36 (by with_reducible rfl) (by first | assumption | rfl) (by first | decide | omega) (by omega) (by first | assumption | exact ML_4 (by assumption) | exact ML_5 (by assumption) | exact ML_6 (by assumption) | exact ML_7 (by assumption) | exact ML_8 (by assumption) | exact ML_9 (by assumption) | exact ML_10 (by assumption) | exact ML_11 (by assumption) | exact ML_12 (by assumption) | exact ML_13 (by assumption) | exact ML_15 (by assumption) | exact ML_16 (by assumption) | exact ML_17 (by assumption) | exact ML_20 (by assumption) | exact ML_23 (by assumption) | exact ML_24 (by assumption) | exact ML_30 (by assumption) | exact ML_31 (by assumption) | exact ML_32 (by assumption) | exact ML_33 (by assumption) | exact ML_35 (by assumption) | exact ML_36 (by assumption) | exact ML_37 (by assumption) | exact ML_38 (by assumption) | exact ML_41 (by assumption) | exact ML_42 (by assumption) | exact ML_43 (by assumption) | exact ML_44 (by assumption) | exact ML_45 (by assumption) | rfl) ?_
              refine V_bipush (v := nI 97) dX10_name_37 (by decide) ?_
              refine V_bipush (v := nI 122) dX10_name_39 (by decide) ?_
              refine V_callS3 (μ' := mX10_in) dX10_name_41 okX10_in lX10_104 (Nat.le_of_ble_eq_true rfl) (Nat.le_of_ble_eq_true rfl) (by omega) ?_
              refine m_inR ?_
              rw [hin]
              dsimp only [gPush]
              first | refine U_ifB_eq (tgt := 101) dX10_name_44 (by decide) (by with_reducible rfl) (fun c44 => ?_) (fun c44 => ?_) | refine U_if_eq (tgt := 101) dX10_name_44 (by decide) (by with_reducible rfl) (by omega) (fun c44 => ?_) (fun c44 => ?_) | refine V_if_eq (tgt := 101) dX10_name_44 (by decide) (fun c44 => ?_) (fun c44 => ?_)
              · skip
                cases c44
              · skip
                refine V_aloadn0 dX10_name_47 ?_
                refine V_getI dX10_name_48 fX10_192 (Or.inl rfl) (by first | assumption | rfl) (by first | decide | omega) (by first | assumption | exact ML_4 (by assumption) | exact ML_5 (by assumption) | exact ML_6 (by assumption) | exact ML_7 (by assumption) | exact ML_8 (by assumption) | exact ML_9 (by assumption) | exact ML_10 (by assumption) | exact ML_11 (by assumption) | exact ML_12 (by assumption) | exact ML_13 (by assumption) | exact ML_15 (by assumption) | exact ML_16 (by assumption) | exact ML_17 (by assumption) | exact ML_20 (by assumption) | exact ML_23 (by assumption) | exact ML_24 (by assumption) | exact ML_30 (by assumption) | exact ML_31 (by assumption) | exact ML_32 (by assumption) | exact ML_33 (by assumption) | exact ML_35 (by assumption) | exact ML_36 (by assumption) | exact ML_37 (by assumption) | exact ML_38 (by assumption) | exact ML_41 (by assumption) | exact ML_42 (by assumption) | exact ML_43 (by assumption) | exact ML_44 (by assumption) | exact ML_45 (by assumption) | rfl) ?_
                refine V_bipush (v := nI 6) dX10_name_51 (by decide) ?_
                first | refine U_icmp_le (tgt := 62) dX10_name_53 (by decide) (by with_reducible rfl) (by with_reducible rfl) (by omega) (by omega) (fun c53 => ?_) (fun c53 => ?_) | refine V_icmp_le (tgt := 62) dX10_name_53 (by decide) (fun c53 => ?_) (fun c53 => ?_)
                · skip
                  omega
                · skip
                  refine V_ldc2 (v := (-1)) dX10_name_56 kX10_195 ?_
                  refine V_goto (tgt := 87) dX10_name_59 (by decide) ?_
                  refine V_lstoren1 dX10_name_87 (by decide) rfl ?_
                  refine V_aloadn0 dX10_name_88 ?_
                  first | refine V_dupa dX10_name_89 ?_ | refine V_dupi dX10_name_89 ?_
                  refine V_getI dX10_name_90 fX10_192 (Or.inl rfl) (by first | assumption | rfl) (by first | decide | omega) (by first | assumption | exact ML_4 (by assumption) | exact ML_5 (by assumption) | exact ML_6 (by assumption) | exact ML_7 (by assumption) | exact ML_8 (by assumption) | exact ML_9 (by assumption) | exact ML_10 (by assumption) | exact ML_11 (by assumption) | exact ML_12 (by assumption) | exact ML_13 (by assumption) | exact ML_15 (by assumption) | exact ML_16 (by assumption) | exact ML_17 (by assumption) | exact ML_20 (by assumption) | exact ML_23 (by assumption) | exact ML_24 (by assumption) | exact ML_30 (by assumption) | exact ML_31 (by assumption) | exact ML_32 (by assumption) | exact ML_33 (by assumption) | exact ML_35 (by assumption) | exact ML_36 (by assumption) | exact ML_37 (by assumption) | exact ML_38 (by assumption) | exact ML_41 (by assumption) | exact ML_42 (by assumption) | exact ML_43 (by assumption) | exact ML_44 (by assumption) | exact ML_45 (by assumption) | rfl) ?_
                  refine V_iconst (v := nI 1) dX10_name_93 (by decide) ?_
                  first | refine U_iadd dX10_name_94 (by with_reducible rfl) (by with_reducible rfl) ?_ | refine V_iadd dX10_name_94 ?_
                  refine V_putI dX10_name_95 fX10_192 (by first | assumption | rfl) (by first | decide | omega) ?_
                  refine V_goto (tgt := 7) dX10_name_98 (by decide) ?_
                  rw [← hnv]
                  exact ih (B.length - (p + (j + 1))) (by omega) (j + 1) _ rfl (by omega) (by rw [he, ← eon_go hlt haz]; rfl) (fun i hi => by by_cases q : i = j; (· subst q; exact haz); exact hr i (by omega)) (by rw [gI_sI, if_pos ⟨rfl, rfl⟩]) (fun x b hb => by rw [gI_sI, if_neg hb]; exact e1 x b hb) l1 r1
          · rw [if_neg h6] at hnv
            refine V_aloadn0 dX10_name_7 ?_
            refine V_getI dX10_name_8 fX10_130 (Or.inl rfl) (by first | assumption | rfl) (by first | decide | omega) (by first | assumption | exact ML_4 (by assumption) | exact ML_5 (by assumption) | exact ML_6 (by assumption) | exact ML_7 (by assumption) | exact ML_8 (by assumption) | exact ML_9 (by assumption) | exact ML_10 (by assumption) | exact ML_11 (by assumption) | exact ML_12 (by assumption) | exact ML_13 (by assumption) | exact ML_15 (by assumption) | exact ML_16 (by assumption) | exact ML_17 (by assumption) | exact ML_20 (by assumption) | exact ML_23 (by assumption) | exact ML_24 (by assumption) | exact ML_30 (by assumption) | exact ML_31 (by assumption) | exact ML_32 (by assumption) | exact ML_33 (by assumption) | exact ML_35 (by assumption) | exact ML_36 (by assumption) | exact ML_37 (by assumption) | exact ML_38 (by assumption) | exact ML_41 (by assumption) | exact ML_42 (by assumption) | exact ML_43 (by assumption) | exact ML_44 (by assumption) | exact ML_45 (by assumption) | rfl) ?_
            refine V_aloadn0 dX10_name_11 ?_
            refine V_getI dX10_name_12 fX10_192 (Or.inl rfl) (by first | assumption | rfl) (by first | decide | omega) (by first | assumption | exact ML_4 (by assumption) | exact ML_5 (by assumption) | exact ML_6 (by assumption) | exact ML_7 (by assumption) | exact ML_8 (by assumption) | exact ML_9 (by assumption) | exact ML_10 (by assumption) | exact ML_11 (by assumption) | exact ML_12 (by assumption) | exact ML_13 (by assumption) | exact ML_15 (by assumption) | exact ML_16 (by assumption) | exact ML_17 (by assumption) | exact ML_20 (by assumption) | exact ML_23 (by assumption) | exact ML_24 (by assumption) | exact ML_30 (by assumption) | exact ML_31 (by assumption) | exact ML_32 (by assumption) | exact ML_33 (by assumption) | exact ML_35 (by assumption) | exact ML_36 (by assumption) | exact ML_37 (by assumption) | exact ML_38 (by assumption) | exact ML_41 (by assumption) | exact ML_42 (by assumption) | exact ML_43 (by assumption) | exact ML_44 (by assumption) | exact ML_45 (by assumption) | rfl) ?_
            first | refine U_iadd dX10_name_15 (by with_reducible rfl) (by with_reducible rfl) ?_ | refine V_iadd dX10_name_15 ?_
            refine V_aloadn0 dX10_name_16 ?_
            refine V_getI dX10_name_17 fX10_125 (Or.inl rfl) (by first | assumption | rfl) (by first | decide | omega) (by first | assumption | exact ML_4 (by assumption) | exact ML_5 (by assumption) | exact ML_6 (by assumption) | exact ML_7 (by assumption) | exact ML_8 (by assumption) | exact ML_9 (by assumption) | exact ML_10 (by assumption) | exact ML_11 (by assumption) | exact ML_12 (by assumption) | exact ML_13 (by assumption) | exact ML_15 (by assumption) | exact ML_16 (by assumption) | exact ML_17 (by assumption) | exact ML_20 (by assumption) | exact ML_23 (by assumption) | exact ML_24 (by assumption) | exact ML_30 (by assumption) | exact ML_31 (by assumption) | exact ML_32 (by assumption) | exact ML_33 (by assumption) | exact ML_35 (by assumption) | exact ML_36 (by assumption) | exact ML_37 (by assumption) | exact ML_38 (by assumption) | exact ML_41 (by assumption) | exact ML_42 (by assumption) | exact ML_43 (by assumption) | exact ML_44 (by assumption) | exact ML_45 (by assumption) | rfl) ?_
            first | refine U_icmp_ge (tgt := 101) dX10_name_20 (by decide) (by with_reducible rfl) (by with_reducible rfl) (by omega) (by omega) (fun c20 => ?_) (fun c20 => ?_) | refine V_icmp_ge (tgt := 101) dX10_name_20 (by decide) (fun c20 => ?_) (fun c20 => ?_)
            · skip
              omega
            · skip
              refine V_aloadn0 dX10_name_23 ?_
              refine V_getR dX10_name_24 fX10_56 (by first | assumption | rfl) (by first | decide | omega) (by first | assumption | exact ML_4 (by assumption) | exact ML_5 (by assumption) | exact ML_6 (by assumption) | exact ML_7 (by assumption) | exact ML_8 (by assumption) | exact ML_9 (by assumption) | exact ML_10 (by assumption) | exact ML_11 (by assumption) | exact ML_12 (by assumption) | exact ML_13 (by assumption) | exact ML_15 (by assumption) | exact ML_16 (by assumption) | exact ML_17 (by assumption) | exact ML_20 (by assumption) | exact ML_23 (by assumption) | exact ML_24 (by assumption) | exact ML_30 (by assumption) | exact ML_31 (by assumption) | exact ML_32 (by assumption) | exact ML_33 (by assumption) | exact ML_35 (by assumption) | exact ML_36 (by assumption) | exact ML_37 (by assumption) | exact ML_38 (by assumption) | exact ML_41 (by assumption) | exact ML_42 (by assumption) | exact ML_43 (by assumption) | exact ML_44 (by assumption) | exact ML_45 (by assumption) | rfl) ?_
              refine V_aloadn0 dX10_name_27 ?_
              refine V_getI dX10_name_28 fX10_130 (Or.inl rfl) (by first | assumption | rfl) (by first | decide | omega) (by first | assumption | exact ML_4 (by assumption) | exact ML_5 (by assumption) | exact ML_6 (by assumption) | exact ML_7 (by assumption) | exact ML_8 (by assumption) | exact ML_9 (by assumption) | exact ML_10 (by assumption) | exact ML_11 (by assumption) | exact ML_12 (by assumption) | exact ML_13 (by assumption) | exact ML_15 (by assumption) | exact ML_16 (by assumption) | exact ML_17 (by assumption) | exact ML_20 (by assumption) | exact ML_23 (by assumption) | exact ML_24 (by assumption) | exact ML_30 (by assumption) | exact ML_31 (by assumption) | exact ML_32 (by assumption) | exact ML_33 (by assumption) | exact ML_35 (by assumption) | exact ML_36 (by assumption) | exact ML_37 (by assumption) | exact ML_38 (by assumption) | exact ML_41 (by assumption) | exact ML_42 (by assumption) | exact ML_43 (by assumption) | exact ML_44 (by assumption) | exact ML_45 (by assumption) | rfl) ?_
              refine V_aloadn0 dX10_name_31 ?_
              refine V_getI dX10_name_32 fX10_192 (Or.inl rfl) (by first | assumption | rfl) (by first | decide | omega) (by first | assumption | exact ML_4 (by assumption) | exact ML_5 (by assumption) | exact ML_6 (by assumption) | exact ML_7 (by assumption) | exact ML_8 (by assumption) | exact ML_9 (by assumption) | exact ML_10 (by assumption) | exact ML_11 (by assumption) | exact ML_12 (by assumption) | exact ML_13 (by assumption) | exact ML_15 (by assumption) | exact ML_16 (by assumption) | exact ML_17 (by assumption) | exact ML_20 (by assumption) | exact ML_23 (by assumption) | exact ML_24 (by assumption) | exact ML_30 (by assumption) | exact ML_31 (by assumption) | exact ML_32 (by assumption) | exact ML_33 (by assumption) | exact ML_35 (by assumption) | exact ML_36 (by assumption) | exact ML_37 (by assumption) | exact ML_38 (by assumption) | exact ML_41 (by assumption) | exact ML_42 (by assumption) | exact ML_43 (by assumption) | exact ML_44 (by assumption) | exact ML_45 (by assumption) | rfl) ?_
              first | refine U_iadd dX10_name_35 (by with_reducible rfl) (by with_reducible rfl) ?_ | refine V_iadd dX10_name_35 ?_
              refine U_iald dX10_name_36 (by with_reducible rfl) (by first | assumption | rfl) (by first | decide | omega) (by omega) (by first | assumption | exact ML_4 (by assumption) | exact ML_5 (by assumption) | exact ML_6 (by assumption) | exact ML_7 (by assumption) | exact ML_8 (by assumption) | exact ML_9 (by assumption) | exact ML_10 (by assumption) | exact ML_11 (by assumption) | exact ML_12 (by assumption) | exact ML_13 (by assumption) | exact ML_15 (by assumption) | exact ML_16 (by assumption) | exact ML_17 (by assumption) | exact ML_20 (by assumption) | exact ML_23 (by assumption) | exact ML_24 (by assumption) | exact ML_30 (by assumption) | exact ML_31 (by assumption) | exact ML_32 (by assumption) | exact ML_33 (by assumption) | exact ML_35 (by assumption) | exact ML_36 (by assumption) | exact ML_37 (by assumption) | exact ML_38 (by assumption) | exact ML_41 (by assumption) | exact ML_42 (by assumption) | exact ML_43 (by assumption) | exact ML_44 (by assumption) | exact ML_45 (by assumption) | rfl) ?_
              refine V_bipush (v := nI 97) dX10_name_37 (by decide) ?_
              refine V_bipush (v := nI 122) dX10_name_39 (by decide) ?_
              refine V_callS3 (μ' := mX10_in) dX10_name_41 okX10_in lX10_104 (Nat.le_of_ble_eq_true rfl) (Nat.le_of_ble_eq_true rfl) (by omega) ?_
              refine m_inR ?_
              rw [hin]
              dsimp only [gPush]
              first | refine U_ifB_eq (tgt := 101) dX10_name_44 (by decide) (by with_reducible rfl) (fun c44 => ?_) (fun c44 => ?_) | refine U_if_eq (tgt := 101) dX10_name_44 (by decide) (by with_reducible rfl) (by omega) (fun c44 => ?_) (fun c44 => ?_) | refine V_if_eq (tgt := 101) dX10_name_44 (by decide) (fun c44 => ?_) (fun c44 => ?_)
              · skip
                cases c44
              · skip
                refine V_aloadn0 dX10_name_47 ?_
                refine V_getI dX10_name_48 fX10_192 (Or.inl rfl) (by first | assumption | rfl) (by first | decide | omega) (by first | assumption | exact ML_4 (by assumption) | exact ML_5 (by assumption) | exact ML_6 (by assumption) | exact ML_7 (by assumption) | exact ML_8 (by assumption) | exact ML_9 (by assumption) | exact ML_10 (by assumption) | exact ML_11 (by assumption) | exact ML_12 (by assumption) | exact ML_13 (by assumption) | exact ML_15 (by assumption) | exact ML_16 (by assumption) | exact ML_17 (by assumption) | exact ML_20 (by assumption) | exact ML_23 (by assumption) | exact ML_24 (by assumption) | exact ML_30 (by assumption) | exact ML_31 (by assumption) | exact ML_32 (by assumption) | exact ML_33 (by assumption) | exact ML_35 (by assumption) | exact ML_36 (by assumption) | exact ML_37 (by assumption) | exact ML_38 (by assumption) | exact ML_41 (by assumption) | exact ML_42 (by assumption) | exact ML_43 (by assumption) | exact ML_44 (by assumption) | exact ML_45 (by assumption) | rfl) ?_
                refine V_bipush (v := nI 6) dX10_name_51 (by decide) ?_
                first | refine U_icmp_le (tgt := 62) dX10_name_53 (by decide) (by with_reducible rfl) (by with_reducible rfl) (by omega) (by omega) (fun c53 => ?_) (fun c53 => ?_) | refine V_icmp_le (tgt := 62) dX10_name_53 (by decide) (fun c53 => ?_) (fun c53 => ?_)
                · skip
                  refine V_ldc2 (v := 27) dX10_name_62 kX10_197 ?_
                  refine V_lloadn1 dX10_name_65 ?_
                  refine V_lmul dX10_name_66 ?_
                  refine V_aloadn0 dX10_name_67 ?_
                  refine V_getR dX10_name_68 fX10_56 (by first | assumption | rfl) (by first | decide | omega) (by first | assumption | exact ML_4 (by assumption) | exact ML_5 (by assumption) | exact ML_6 (by assumption) | exact ML_7 (by assumption) | exact ML_8 (by assumption) | exact ML_9 (by assumption) | exact ML_10 (by assumption) | exact ML_11 (by assumption) | exact ML_12 (by assumption) | exact ML_13 (by assumption) | exact ML_15 (by assumption) | exact ML_16 (by assumption) | exact ML_17 (by assumption) | exact ML_20 (by assumption) | exact ML_23 (by assumption) | exact ML_24 (by assumption) | exact ML_30 (by assumption) | exact ML_31 (by assumption) | exact ML_32 (by assumption) | exact ML_33 (by assumption) | exact ML_35 (by assumption) | exact ML_36 (by assumption) | exact ML_37 (by assumption) | exact ML_38 (by assumption) | exact ML_41 (by assumption) | exact ML_42 (by assumption) | exact ML_43 (by assumption) | exact ML_44 (by assumption) | exact ML_45 (by assumption) | rfl) ?_
                  refine V_aloadn0 dX10_name_71 ?_
                  refine V_getI dX10_name_72 fX10_130 (Or.inl rfl) (by first | assumption | rfl) (by first | decide | omega) (by first | assumption | exact ML_4 (by assumption) | exact ML_5 (by assumption) | exact ML_6 (by assumption) | exact ML_7 (by assumption) | exact ML_8 (by assumption) | exact ML_9 (by assumption) | exact ML_10 (by assumption) | exact ML_11 (by assumption) | exact ML_12 (by assumption) | exact ML_13 (by assumption) | exact ML_15 (by assumption) | exact ML_16 (by assumption) | exact ML_17 (by assumption) | exact ML_20 (by assumption) | exact ML_23 (by assumption) | exact ML_24 (by assumption) | exact ML_30 (by assumption) | exact ML_31 (by assumption) | exact ML_32 (by assumption) | exact ML_33 (by assumption) | exact ML_35 (by assumption) | exact ML_36 (by assumption) | exact ML_37 (by assumption) | exact ML_38 (by assumption) | exact ML_41 (by assumption) | exact ML_42 (by assumption) | exact ML_43 (by assumption) | exact ML_44 (by assumption) | exact ML_45 (by assumption) | rfl) ?_
                  refine V_aloadn0 dX10_name_75 ?_
                  refine V_getI dX10_name_76 fX10_192 (Or.inl rfl) (by first | assumption | rfl) (by first | decide | omega) (by first | assumption | exact ML_4 (by assumption) | exact ML_5 (by assumption) | exact ML_6 (by assumption) | exact ML_7 (by assumption) | exact ML_8 (by assumption) | exact ML_9 (by assumption) | exact ML_10 (by assumption) | exact ML_11 (by assumption) | exact ML_12 (by assumption) | exact ML_13 (by assumption) | exact ML_15 (by assumption) | exact ML_16 (by assumption) | exact ML_17 (by assumption) | exact ML_20 (by assumption) | exact ML_23 (by assumption) | exact ML_24 (by assumption) | exact ML_30 (by assumption) | exact ML_31 (by assumption) | exact ML_32 (by assumption) | exact ML_33 (by assumption) | exact ML_35 (by assumption) | exact ML_36 (by assumption) | exact ML_37 (by assumption) | exact ML_38 (by assumption) | exact ML_41 (by assumption) | exact ML_42 (by assumption) | exact ML_43 (by assumption) | exact ML_44 (by assumption) | exact ML_45 (by assumption) | rfl) ?_
                  first | refine U_iadd dX10_name_79 (by with_reducible rfl) (by with_reducible rfl) ?_ | refine V_iadd dX10_name_79 ?_
                  refine U_iald dX10_name_80 (by with_reducible rfl) (by first | assumption | rfl) (by first | decide | omega) (by omega) (by first | assumption | exact ML_4 (by assumption) | exact ML_5 (by assumption) | exact ML_6 (by assumption) | exact ML_7 (by assumption) | exact ML_8 (by assumption) | exact ML_9 (by assumption) | exact ML_10 (by assumption) | exact ML_11 (by assumption) | exact ML_12 (by assumption) | exact ML_13 (by assumption) | exact ML_15 (by assumption) | exact ML_16 (by assumption) | exact ML_17 (by assumption) | exact ML_20 (by assumption) | exact ML_23 (by assumption) | exact ML_24 (by assumption) | exact ML_30 (by assumption) | exact ML_31 (by assumption) | exact ML_32 (by assumption) | exact ML_33 (by assumption) | exact ML_35 (by assumption) | exact ML_36 (by assumption) | exact ML_37 (by assumption) | exact ML_38 (by assumption) | exact ML_41 (by assumption) | exact ML_42 (by assumption) | exact ML_43 (by assumption) | exact ML_44 (by assumption) | exact ML_45 (by assumption) | rfl) ?_
                  first | refine U_i2l dX10_name_81 (by with_reducible rfl) (by omega) ?_ | refine V_i2l dX10_name_81 rfl ?_
                  refine V_ladd dX10_name_82 ?_
                  refine V_ldc2 (v := 96) dX10_name_83 kX10_199 ?_
                  refine V_lsub dX10_name_86 ?_
                  refine V_lstoren1 dX10_name_87 (by decide) rfl ?_
                  refine V_aloadn0 dX10_name_88 ?_
                  first | refine V_dupa dX10_name_89 ?_ | refine V_dupi dX10_name_89 ?_
                  refine V_getI dX10_name_90 fX10_192 (Or.inl rfl) (by first | assumption | rfl) (by first | decide | omega) (by first | assumption | exact ML_4 (by assumption) | exact ML_5 (by assumption) | exact ML_6 (by assumption) | exact ML_7 (by assumption) | exact ML_8 (by assumption) | exact ML_9 (by assumption) | exact ML_10 (by assumption) | exact ML_11 (by assumption) | exact ML_12 (by assumption) | exact ML_13 (by assumption) | exact ML_15 (by assumption) | exact ML_16 (by assumption) | exact ML_17 (by assumption) | exact ML_20 (by assumption) | exact ML_23 (by assumption) | exact ML_24 (by assumption) | exact ML_30 (by assumption) | exact ML_31 (by assumption) | exact ML_32 (by assumption) | exact ML_33 (by assumption) | exact ML_35 (by assumption) | exact ML_36 (by assumption) | exact ML_37 (by assumption) | exact ML_38 (by assumption) | exact ML_41 (by assumption) | exact ML_42 (by assumption) | exact ML_43 (by assumption) | exact ML_44 (by assumption) | exact ML_45 (by assumption) | rfl) ?_
                  refine V_iconst (v := nI 1) dX10_name_93 (by decide) ?_
                  first | refine U_iadd dX10_name_94 (by with_reducible rfl) (by with_reducible rfl) ?_ | refine V_iadd dX10_name_94 ?_
                  refine V_putI dX10_name_95 fX10_192 (by first | assumption | rfl) (by first | decide | omega) ?_
                  refine V_goto (tgt := 7) dX10_name_98 (by decide) ?_
                  rw [← hnv]
                  exact ih (B.length - (p + (j + 1))) (by omega) (j + 1) _ rfl (by omega) (by rw [he, ← eon_go hlt haz]; rfl) (fun i hi => by by_cases q : i = j; (· subst q; exact haz); exact hr i (by omega)) (by rw [gI_sI, if_pos ⟨rfl, rfl⟩]) (fun x b hb => by rw [gI_sI, if_neg hb]; exact e1 x b hb) l1 r1
                · skip
                  omega
        · rw [decide_eq_false haz] at hin
          refine V_aloadn0 dX10_name_7 ?_
          refine V_getI dX10_name_8 fX10_130 (Or.inl rfl) (by first | assumption | rfl) (by first | decide | omega) (by first | assumption | exact ML_4 (by assumption) | exact ML_5 (by assumption) | exact ML_6 (by assumption) | exact ML_7 (by assumption) | exact ML_8 (by assumption) | exact ML_9 (by assumption) | exact ML_10 (by assumption) | exact ML_11 (by assumption) | exact ML_12 (by assumption) | exact ML_13 (by assumption) | exact ML_15 (by assumption) | exact ML_16 (by assumption) | exact ML_17 (by assumption) | exact ML_20 (by assumption) | exact ML_23 (by assumption) | exact ML_24 (by assumption) | exact ML_30 (by assumption) | exact ML_31 (by assumption) | exact ML_32 (by assumption) | exact ML_33 (by assumption) | exact ML_35 (by assumption) | exact ML_36 (by assumption) | exact ML_37 (by assumption) | exact ML_38 (by assumption) | exact ML_41 (by assumption) | exact ML_42 (by assumption) | exact ML_43 (by assumption) | exact ML_44 (by assumption) | exact ML_45 (by assumption) | rfl) ?_
          refine V_aloadn0 dX10_name_11 ?_
          refine V_getI dX10_name_12 fX10_192 (Or.inl rfl) (by first | assumption | rfl) (by first | decide | omega) (by first | assumption | exact ML_4 (by assumption) | exact ML_5 (by assumption) | exact ML_6 (by assumption) | exact ML_7 (by assumption) | exact ML_8 (by assumption) | exact ML_9 (by assumption) | exact ML_10 (by assumption) | exact ML_11 (by assumption) | exact ML_12 (by assumption) | exact ML_13 (by assumption) | exact ML_15 (by assumption) | exact ML_16 (by assumption) | exact ML_17 (by assumption) | exact ML_20 (by assumption) | exact ML_23 (by assumption) | exact ML_24 (by assumption) | exact ML_30 (by assumption) | exact ML_31 (by assumption) | exact ML_32 (by assumption) | exact ML_33 (by assumption) | exact ML_35 (by assumption) | exact ML_36 (by assumption) | exact ML_37 (by assumption) | exact ML_38 (by assumption) | exact ML_41 (by assumption) | exact ML_42 (by assumption) | exact ML_43 (by assumption) | exact ML_44 (by assumption) | exact ML_45 (by assumption) | rfl) ?_
          first | refine U_iadd dX10_name_15 (by with_reducible rfl) (by with_reducible rfl) ?_ | refine V_iadd dX10_name_15 ?_
          refine V_aloadn0 dX10_name_16 ?_
          refine V_getI dX10_name_17 fX10_125 (Or.inl rfl) (by first | assumption | rfl) (by first | decide | omega) (by first | assumption | exact ML_4 (by assumption) | exact ML_5 (by assumption) | exact ML_6 (by assumption) | exact ML_7 (by assumption) | exact ML_8 (by assumption) | exact ML_9 (by assumption) | exact ML_10 (by assumption) | exact ML_11 (by assumption) | exact ML_12 (by assumption) | exact ML_13 (by assumption) | exact ML_15 (by assumption) | exact ML_16 (by assumption) | exact ML_17 (by assumption) | exact ML_20 (by assumption) | exact ML_23 (by assumption) | exact ML_24 (by assumption) | exact ML_30 (by assumption) | exact ML_31 (by assumption) | exact ML_32 (by assumption) | exact ML_33 (by assumption) | exact ML_35 (by assumption) | exact ML_36 (by assumption) | exact ML_37 (by assumption) | exact ML_38 (by assumption) | exact ML_41 (by assumption) | exact ML_42 (by assumption) | exact ML_43 (by assumption) | exact ML_44 (by assumption) | exact ML_45 (by assumption) | rfl) ?_
          first | refine U_icmp_ge (tgt := 101) dX10_name_20 (by decide) (by with_reducible rfl) (by with_reducible rfl) (by omega) (by omega) (fun c20 => ?_) (fun c20 => ?_) | refine V_icmp_ge (tgt := 101) dX10_name_20 (by decide) (fun c20 => ?_) (fun c20 => ?_)
          · skip
            omega
          · skip
            refine V_aloadn0 dX10_name_23 ?_
            refine V_getR dX10_name_24 fX10_56 (by first | assumption | rfl) (by first | decide | omega) (by first | assumption | exact ML_4 (by assumption) | exact ML_5 (by assumption) | exact ML_6 (by assumption) | exact ML_7 (by assumption) | exact ML_8 (by assumption) | exact ML_9 (by assumption) | exact ML_10 (by assumption) | exact ML_11 (by assumption) | exact ML_12 (by assumption) | exact ML_13 (by assumption) | exact ML_15 (by assumption) | exact ML_16 (by assumption) | exact ML_17 (by assumption) | exact ML_20 (by assumption) | exact ML_23 (by assumption) | exact ML_24 (by assumption) | exact ML_30 (by assumption) | exact ML_31 (by assumption) | exact ML_32 (by assumption) | exact ML_33 (by assumption) | exact ML_35 (by assumption) | exact ML_36 (by assumption) | exact ML_37 (by assumption) | exact ML_38 (by assumption) | exact ML_41 (by assumption) | exact ML_42 (by assumption) | exact ML_43 (by assumption) | exact ML_44 (by assumption) | exact ML_45 (by assumption) | rfl) ?_
            refine V_aloadn0 dX10_name_27 ?_
            refine V_getI dX10_name_28 fX10_130 (Or.inl rfl) (by first | assumption | rfl) (by first | decide | omega) (by first | assumption | exact ML_4 (by assumption) | exact ML_5 (by assumption) | exact ML_6 (by assumption) | exact ML_7 (by assumption) | exact ML_8 (by assumption) | exact ML_9 (by assumption) | exact ML_10 (by assumption) | exact ML_11 (by assumption) | exact ML_12 (by assumption) | exact ML_13 (by assumption) | exact ML_15 (by assumption) | exact ML_16 (by assumption) | exact ML_17 (by assumption) | exact ML_20 (by assumption) | exact ML_23 (by assumption) | exact ML_24 (by assumption) | exact ML_30 (by assumption) | exact ML_31 (by assumption) | exact ML_32 (by assumption) | exact ML_33 (by assumption) | exact ML_35 (by assumption) | exact ML_36 (by assumption) | exact ML_37 (by assumption) | exact ML_38 (by assumption) | exact ML_41 (by assumption) | exact ML_42 (by assumption) | exact ML_43 (by assumption) | exact ML_44 (by assumption) | exact ML_45 (by assumption) | rfl) ?_
            refine V_aloadn0 dX10_name_31 ?_
            refine V_getI dX10_name_32 fX10_192 (Or.inl rfl) (by first | assumption | rfl) (by first | decide | omega) (by first | assumption | exact ML_4 (by assumption) | exact ML_5 (by assumption) | exact ML_6 (by assumption) | exact ML_7 (by assumption) | exact ML_8 (by assumption) | exact ML_9 (by assumption) | exact ML_10 (by assumption) | exact ML_11 (by assumption) | exact ML_12 (by assumption) | exact ML_13 (by assumption) | exact ML_15 (by assumption) | exact ML_16 (by assumption) | exact ML_17 (by assumption) | exact ML_20 (by assumption) | exact ML_23 (by assumption) | exact ML_24 (by assumption) | exact ML_30 (by assumption) | exact ML_31 (by assumption) | exact ML_32 (by assumption) | exact ML_33 (by assumption) | exact ML_35 (by assumption) | exact ML_36 (by assumption) | exact ML_37 (by assumption) | exact ML_38 (by assumption) | exact ML_41 (by assumption) | exact ML_42 (by assumption) | exact ML_43 (by assumption) | exact ML_44 (by assumption) | exact ML_45 (by assumption) | rfl) ?_
            first | refine U_iadd dX10_name_35 (by with_reducible rfl) (by with_reducible rfl) ?_ | refine V_iadd dX10_name_35 ?_
            refine U_iald dX10_name_36 (by with_reducible rfl) (by first | assumption | rfl) (by first | decide | omega) (by omega) (by first | assumption | exact ML_4 (by assumption) | exact ML_5 (by assumption) | exact ML_6 (by assumption) | exact ML_7 (by assumption) | exact ML_8 (by assumption) | exact ML_9 (by assumption) | exact ML_10 (by assumption) | exact ML_11 (by assumption) | exact ML_12 (by assumption) | exact ML_13 (by assumption) | exact ML_15 (by assumption) | exact ML_16 (by assumption) | exact ML_17 (by assumption) | exact ML_20 (by assumption) | exact ML_23 (by assumption) | exact ML_24 (by assumption) | exact ML_30 (by assumption) | exact ML_31 (by assumption) | exact ML_32 (by assumption) | exact ML_33 (by assumption) | exact ML_35 (by assumption) | exact ML_36 (by assumption) | exact ML_37 (by assumption) | exact ML_38 (by assumption) | exact ML_41 (by assumption) | exact ML_42 (by assumption) | exact ML_43 (by assumption) | exact ML_44 (by assumption) | exact ML_45 (by assumption) | rfl) ?_
            refine V_bipush (v := nI 97) dX10_name_37 (by decide) ?_
            refine V_bipush (v := nI 122) dX10_name_39 (by decide) ?_
            refine V_callS3 (μ' := mX10_in) dX10_name_41 okX10_in lX10_104 (Nat.le_of_ble_eq_true rfl) (Nat.le_of_ble_eq_true rfl) (by omega) ?_
            refine m_inR ?_
            rw [hin]
            dsimp only [gPush]
            first | refine U_ifB_eq (tgt := 101) dX10_name_44 (by decide) (by with_reducible rfl) (fun c44 => ?_) (fun c44 => ?_) | refine U_if_eq (tgt := 101) dX10_name_44 (by decide) (by with_reducible rfl) (by omega) (fun c44 => ?_) (fun c44 => ?_) | refine V_if_eq (tgt := 101) dX10_name_44 (by decide) (fun c44 => ?_) (fun c44 => ?_)
            · skip
              exact fin (eon_stop (Or.inr haz))
            · skip
              cases c44
      · skip
        refine V_aloadn0 dX10_name_7 ?_
        refine V_getI dX10_name_8 fX10_130 (Or.inl rfl) (by first | assumption | rfl) (by first | decide | omega) (by first | assumption | exact ML_4 (by assumption) | exact ML_5 (by assumption) | exact ML_6 (by assumption) | exact ML_7 (by assumption) | exact ML_8 (by assumption) | exact ML_9 (by assumption) | exact ML_10 (by assumption) | exact ML_11 (by assumption) | exact ML_12 (by assumption) | exact ML_13 (by assumption) | exact ML_15 (by assumption) | exact ML_16 (by assumption) | exact ML_17 (by assumption) | exact ML_20 (by assumption) | exact ML_23 (by assumption) | exact ML_24 (by assumption) | exact ML_30 (by assumption) | exact ML_31 (by assumption) | exact ML_32 (by assumption) | exact ML_33 (by assumption) | exact ML_35 (by assumption) | exact ML_36 (by assumption) | exact ML_37 (by assumption) | exact ML_38 (by assumption) | exact ML_41 (by assumption) | exact ML_42 (by assumption) | exact ML_43 (by assumption) | exact ML_44 (by assumption) | exact ML_45 (by assumption) | rfl) ?_
        refine V_aloadn0 dX10_name_11 ?_
        refine V_getI dX10_name_12 fX10_192 (Or.inl rfl) (by first | assumption | rfl) (by first | decide | omega) (by first | assumption | exact ML_4 (by assumption) | exact ML_5 (by assumption) | exact ML_6 (by assumption) | exact ML_7 (by assumption) | exact ML_8 (by assumption) | exact ML_9 (by assumption) | exact ML_10 (by assumption) | exact ML_11 (by assumption) | exact ML_12 (by assumption) | exact ML_13 (by assumption) | exact ML_15 (by assumption) | exact ML_16 (by assumption) | exact ML_17 (by assumption) | exact ML_20 (by assumption) | exact ML_23 (by assumption) | exact ML_24 (by assumption) | exact ML_30 (by assumption) | exact ML_31 (by assumption) | exact ML_32 (by assumption) | exact ML_33 (by assumption) | exact ML_35 (by assumption) | exact ML_36 (by assumption) | exact ML_37 (by assumption) | exact ML_38 (by assumption) | exact ML_41 (by assumption) | exact ML_42 (by assumption) | exact ML_43 (by assumption) | exact ML_44 (by assumption) | exact ML_45 (by assumption) | rfl) ?_
        first | refine U_iadd dX10_name_15 (by with_reducible rfl) (by with_reducible rfl) ?_ | refine V_iadd dX10_name_15 ?_
        refine V_aloadn0 dX10_name_16 ?_
        refine V_getI dX10_name_17 fX10_125 (Or.inl rfl) (by first | assumption | rfl) (by first | decide | omega) (by first | assumption | exact ML_4 (by assumption) | exact ML_5 (by assumption) | exact ML_6 (by assumption) | exact ML_7 (by assumption) | exact ML_8 (by assumption) | exact ML_9 (by assumption) | exact ML_10 (by assumption) | exact ML_11 (by assumption) | exact ML_12 (by assumption) | exact ML_13 (by assumption) | exact ML_15 (by assumption) | exact ML_16 (by assumption) | exact ML_17 (by assumption) | exact ML_20 (by assumption) | exact ML_23 (by assumption) | exact ML_24 (by assumption) | exact ML_30 (by assumption) | exact ML_31 (by assumption) | exact ML_32 (by assumption) | exact ML_33 (by assumption) | exact ML_35 (by assumption) | exact ML_36 (by assumption) | exact ML_37 (by assumption) | exact ML_38 (by assumption) | exact ML_41 (by assumption) | exact ML_42 (by assumption) | exact ML_43 (by assumption) | exact ML_44 (by assumption) | exact ML_45 (by assumption) | rfl) ?_
        first | refine U_icmp_ge (tgt := 101) dX10_name_20 (by decide) (by with_reducible rfl) (by with_reducible rfl) (by omega) (by omega) (fun c20 => ?_) (fun c20 => ?_) | refine V_icmp_ge (tgt := 101) dX10_name_20 (by decide) (fun c20 => ?_) (fun c20 => ?_)
        · skip
          exact fin (eon_stop (Or.inl (by omega)))
        · skip
          omega
  refine V_lconst (v := lN 0) dX10_name_0 (by decide) ?_
  refine V_lstoren1 dX10_name_1 (by decide) rfl ?_
  refine V_aloadn0 dX10_name_2 ?_
  refine V_iconst (v := nI 0) dX10_name_3 (by decide) ?_
  refine V_putI dX10_name_4 fX10_192 (by first | assumption | rfl) (by first | decide | omega) ?_
  exact loop _ 0 _ rfl (by omega) rfl (fun i hi => absurd hi (Nat.not_lt_zero _)) (by rw [gI_sI, if_pos ⟨rfl, rfl⟩]) (fun x b hb => by rw [gI_sI, if_neg hb]) rfl rfl
end C74
