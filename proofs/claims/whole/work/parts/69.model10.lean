/-! ===== the reference: pair, all, stands (bt, b_, s_l: out of kit/laws/BITS.to-paste) ===== -/
def bt (x : Int32) (i : Nat) : Bool := x.toBitVec.getLsbD i
theorem b_ext {x y : Int32} (h : ∀ i, i < 32 → bt x i = bt y i) : x = y := Int32.toBitVec_inj.mp (BitVec.eq_of_getLsbD_eq (fun i hi => h i hi))
theorem b_or (x y : Int32) (i : Nat) : bt (x ||| y) i = (bt x i || bt y i) := by unfold bt; rw [Int32.toBitVec_or, BitVec.getLsbD_or]
theorem b_and (x y : Int32) (i : Nat) : bt (x &&& y) i = (bt x i && bt y i) := by unfold bt; rw [Int32.toBitVec_and, BitVec.getLsbD_and]
theorem b_big {x : Int32} {i : Nat} (h : 32 ≤ i) : bt x i = false := BitVec.getLsbD_of_ge _ _ h
theorem b_0 (i : Nat) : bt 0 i = false := BitVec.getLsbD_zero
theorem s_l : ∀ n, n < 32 → ((nI n &&& 31).toBitVec.smod 32).toNat = n := by decide +kernel
theorem b_shl (n : Nat) (hn : n < 32) (x : Int32) {i : Nat} (hi : i < 32) : bt (x <<< (nI n &&& 31)) i = (decide (n ≤ i) && bt x (i - n)) := by
  unfold bt
  rw [Int32.toBitVec_shiftLeft]
  show (x.toBitVec <<< ((nI n &&& 31).toBitVec.smod 32).toNat).getLsbD i = _
  rw [s_l n hn, BitVec.getLsbD_shiftLeft]
  rcases Nat.lt_or_ge i n with h | h
  · simp [h, Nat.not_le.mpr h]
  · simp [hi, h, Nat.not_lt.mpr h]
theorem b_sshr (n : Nat) (hn : n < 32) (x : Int32) {i : Nat} (hi : i < 32) : bt (x >>> (nI n &&& 31)) i = if n + i < 32 then bt x (n + i) else bt x 31 := by
  unfold bt
  rw [Int32.toBitVec_shiftRight]
  show (x.toBitVec.sshiftRight ((nI n &&& 31).toBitVec.smod 32).toNat).getLsbD i = _
  rw [s_l n hn, BitVec.getLsbD_sshiftRight, BitVec.msb_eq_getLsbD_last]
  simp [hi]
theorem bt_1 : ∀ i, i < 32 → bt (nI 1) i = decide (i = 0) := by decide +kernel
theorem bt_0 (i : Nat) : bt (nI 0) i = false := b_0 i
theorem sbit (x : Int32) {b : Nat} (hb : b < 32) : (x >>> (nI b &&& 31)) &&& nI 1 = gBo (bt x b) := by
  apply b_ext
  intro i hi
  rw [b_and, b_sshr b hb x hi, bt_1 i hi]
  by_cases e : i = 0
  · subst e
    rw [decide_eq_true rfl, Bool.and_true, Nat.add_zero, if_pos hb]
    cases bt x b with
    | true => rw [gBo_t, bt_1 0 hi]; rfl
    | false => rw [gBo_f, bt_0]
  · rw [decide_eq_false e, Bool.and_false]
    cases bt x b with
    | true => rw [gBo_t, bt_1 i hi, decide_eq_false e]
    | false => rw [gBo_f, bt_0]
def rsV (w : List Nat) (l : List Nat) : Int32 := match rsq w l with
  | none => -1
  | some u => nI (numF u 0 u.length)
theorem rsq_ok {n : Nat} : ∀ (l w u : List Nat), rsq w l = some u → (∀ i ∈ l, 1 ≤ i ∧ i < n) → LtW n w → LtW n u ∧ u.length = w.length
  | [], w, u, h, _, hw => by cases h; exact ⟨hw, rfl⟩
  | i :: l, w, u, h, hi, hw => by
    have h1 := hi i List.mem_cons_self
    by_cases c : fhC w i ≠ 0
    · rw [rsq_t c] at h
      obtain ⟨a, b⟩ := rsq_ok l (raiseW w i) u h (fun j hj => hi j (List.mem_cons_of_mem _ hj)) (LtW_raise hw h1.1 (by omega))
      exact ⟨a, by rw [b, raiseW_len]⟩
    · rw [rsq_f c] at h; cases h
theorem met_v {n : Nat} {w l l' : List Nat} (hn : n ≤ 5) (h6 : w.length ≤ 6) (hw : LtW n w) (hl : ∀ i ∈ l, 1 ≤ i ∧ i < n) (hl' : ∀ i ∈ l', 1 ≤ i ∧ i < n) : (rsV w l < 0 → metB w l l' = false) ∧ (¬ rsV w l < 0 → (metB w l l' = true ↔ rsV w l = rsV w l')) := by
  unfold rsV metB
  cases h1 : rsq w l with
  | none => exact ⟨fun _ => rfl, fun q => absurd (by decide) q⟩
  | some u =>
    obtain ⟨u1, u2⟩ := rsq_ok l w u h1 hl hw
    have b1 := numF_b (LtW9 u1 hn) (by omega)
    refine ⟨fun q => absurd q (nI_pos (by omega)), fun _ => ?_⟩
    cases h2 : rsq w l' with
    | none =>
      constructor
      · intro q
        have := of_decide_eq_true (by simpa using q : decide (some u = none) = true)
        cases this
      · intro q
        have h0 : nI (numF u 0 u.length) = -1 := q
        have hp := nI_pos (n := numF u 0 u.length) (by omega)
        rw [h0] at hp
        exact absurd (by decide) hp
    | some u' =>
      obtain ⟨v1, v2⟩ := rsq_ok l' w u' h2 hl' hw
      have b2 := numF_b (LtW9 v1 hn) (by omega)
      have key := num_inj (w := u) (w' := u') (by omega) (LtW9 u1 hn) (LtW9 v1 hn)
      constructor
      · intro q
        have e : u = u' := by simpa using q
        rw [e]
      · intro q
        have e := key.mp ((nI_eq (by omega) (by omega)).mp q)
        rw [e]; simp
section C69
variable {Γ : gM} {d : Nat} {h : gH} {Q : Option Value → gH → Prop} {S : GS}
set_option maxRecDepth 100000 in
set_option maxHeartbeats 4000000 in
theorem m_raised2 {s a b : Nat} (hd : 2 ≤ d) (hs : s < 6) (hR : RM h S) (hWG : WG S) (hz : (S.1.2.2.1 s).1 ≠ 0) (ha : 1 ≤ a ∧ a < S.1.1) (hb : 1 ≤ b ∧ b < S.1.1) (hQ : ∀ h', RM h' S → FrX h h' → Q (some (.int (rsV (S.1.2.2.1 s).2.1 [a, b]))) h') : V Γ mX10_raisedBy d 124 124 h 0 [some (.ref 94), some (.int (nI s)), some (.int (nI a)), some (.int (nI b)), some (.int (nI 0)), some (.int (nI 0)), none] [] Q := by
  have hWS := hWG.1
  have hn5 := hWS.2.1
  have hWT := hWS.2.2.1 s hs
  unfold rsV at hQ
  generalize hww : (S.1.2.2.1 s).2.1 = w at hQ
  refine V_aloadn0 dX10_raisedBy_0 ?_
  refine V_iloadn1 dX10_raisedBy_1 ?_
  refine V_callV1 (μ' := mX10_takes) dX10_raisedBy_2 okX10_takes lX10_146 rfl (by first | assumption | rfl) (by first | decide | omega) (Nat.le_of_ble_eq_true rfl) (Nat.le_of_ble_eq_true rfl) (by omega) ?_
  refine m_takes hs hR hWT hn5 hz (fun h1 hk1 hW1 hL1 hR1 hF1 => ?_)
  rw [hww] at hW1
  have hM1 := hR1.1
  dsimp only [gPush]
  refine V_aloadn0 dX10_raisedBy_5 ?_
  refine V_iloadn2 dX10_raisedBy_6 ?_
  refine V_callV1 (μ' := mX10_raises) dX10_raisedBy_7 okX10_raises lX10_179 rfl (by first | assumption | rfl) (by first | decide | omega) (Nat.le_of_ble_eq_true rfl) (Nat.le_of_ble_eq_true rfl) (by omega) ?_
  refine m_raises (by omega) hM1 hW1 ha.1 (by omega) (fun h2 hW2 hF2 => ?_)
  have hR2 := RM_X hR1 hF2.X
  have hM2 := hR2.1
  dsimp only [gPush]
  first | refine U_ifB_eq (tgt := 48) dX10_raisedBy_10 (by decide) (by with_reducible rfl) (fun c10 => ?_) (fun c10 => ?_) | refine U_if_eq (tgt := 48) dX10_raisedBy_10 (by decide) (by with_reducible rfl) (by omega) (fun c10 => ?_) (fun c10 => ?_) | refine V_if_eq (tgt := 48) dX10_raisedBy_10 (by decide) (fun c10 => ?_) (fun c10 => ?_)
  · skip
    rw [rsq_f (of_decide_eq_false c10)] at hQ
    have hQ9 := hQ h2 hR2 (hF1.tr hF2.X)
    refine V_iconst (v := nI 0) dX10_raisedBy_48 (by decide) ?_
    refine V_istorew6 dX10_raisedBy_49 (by decide) rfl ?_
    refine V_iloadw6 dX10_raisedBy_51 ?_
    first | refine U_ifB_eq (tgt := 63) dX10_raisedBy_53 (by decide) (by with_reducible rfl) (fun c53 => ?_) (fun c53 => ?_) | refine U_if_eq (tgt := 63) dX10_raisedBy_53 (by decide) (by with_reducible rfl) (by omega) (fun c53 => ?_) (fun c53 => ?_) | refine V_if_eq (tgt := 63) dX10_raisedBy_53 (by decide) (fun c53 => ?_) (fun c53 => ?_)
    · skip
      refine V_iconst (v := -1) dX10_raisedBy_63 (by decide) ?_
      refine V_iret dX10_raisedBy_64 rfl rfl ?_
      exact hQ9
    · skip
      omega
  · skip
    rw [rsq_t (of_decide_eq_true c10)] at hQ
    refine V_aloadn0 dX10_raisedBy_13 ?_
    refine V_iloadn3 dX10_raisedBy_14 ?_
    refine V_callV1 (μ' := mX10_raises) dX10_raisedBy_15 okX10_raises lX10_179 rfl (by first | assumption | rfl) (by first | decide | omega) (Nat.le_of_ble_eq_true rfl) (Nat.le_of_ble_eq_true rfl) (by omega) ?_
    refine m_raises (by omega) hM2 hW2 hb.1 (by omega) (fun h3 hW3 hF3 => ?_)
    have hR3 := RM_X hR2 hF3.X
    have hM3 := hR3.1
    have f3 := hF1.tr (hF2.X.tr hF3.X)
    dsimp only [gPush]
    first | refine U_ifB_eq (tgt := 48) dX10_raisedBy_18 (by decide) (by with_reducible rfl) (fun c18 => ?_) (fun c18 => ?_) | refine U_if_eq (tgt := 48) dX10_raisedBy_18 (by decide) (by with_reducible rfl) (by omega) (fun c18 => ?_) (fun c18 => ?_) | refine V_if_eq (tgt := 48) dX10_raisedBy_18 (by decide) (fun c18 => ?_) (fun c18 => ?_)
    · skip
      rw [rsq_f (of_decide_eq_false c18)] at hQ
      have hQ9 := hQ h3 hR3 f3
      refine V_iconst (v := nI 0) dX10_raisedBy_48 (by decide) ?_
      refine V_istorew6 dX10_raisedBy_49 (by decide) rfl ?_
      refine V_iloadw6 dX10_raisedBy_51 ?_
      first | refine U_ifB_eq (tgt := 63) dX10_raisedBy_53 (by decide) (by with_reducible rfl) (fun c53 => ?_) (fun c53 => ?_) | refine U_if_eq (tgt := 63) dX10_raisedBy_53 (by decide) (by with_reducible rfl) (by omega) (fun c53 => ?_) (fun c53 => ?_) | refine V_if_eq (tgt := 63) dX10_raisedBy_53 (by decide) (fun c53 => ?_) (fun c53 => ?_)
      · skip
        refine V_iconst (v := -1) dX10_raisedBy_63 (by decide) ?_
        refine V_iret dX10_raisedBy_64 rfl rfl ?_
        exact hQ9
      · skip
        omega
    · skip
      rw [rsq_t (of_decide_eq_true c18)] at hQ
      have hQ9 := hQ h3 hR3 f3
      refine V_iloadw4 dX10_raisedBy_21 ?_
      first | refine U_ifB_eq (tgt := 44) dX10_raisedBy_23 (by decide) (by with_reducible rfl) (fun c23 => ?_) (fun c23 => ?_) | refine U_if_eq (tgt := 44) dX10_raisedBy_23 (by decide) (by with_reducible rfl) (by omega) (fun c23 => ?_) (fun c23 => ?_) | refine V_if_eq (tgt := 44) dX10_raisedBy_23 (by decide) (fun c23 => ?_) (fun c23 => ?_)
      · skip
        refine V_iconst (v := nI 1) dX10_raisedBy_44 (by decide) ?_
        refine V_goto (tgt := 49) dX10_raisedBy_45 (by decide) ?_
        refine V_istorew6 dX10_raisedBy_49 (by decide) rfl ?_
        refine V_iloadw6 dX10_raisedBy_51 ?_
        refine U_if_eq (tgt := 63) dX10_raisedBy_53 (by decide) (by with_reducible rfl) (by omega) (fun c53 => by omega) (fun c53 => ?_)
        refine V_aloadn0 dX10_raisedBy_56 ?_
        refine V_callV0 (μ' := mX10_read) dX10_raisedBy_57 okX10_read lX10_149 rfl (by first | assumption | rfl) (by first | decide | omega) (Nat.le_of_ble_eq_true rfl) (Nat.le_of_ble_eq_true rfl) (by omega) ?_
        refine m_read hM3 hW3 ?_
        dsimp only [gPush]
        refine V_goto (tgt := 64) dX10_raisedBy_60 (by decide) ?_
        refine V_iret dX10_raisedBy_64 rfl rfl ?_
        exact hQ9
      · skip
        omega

set_option maxRecDepth 100000 in
set_option maxHeartbeats 4000000 in
theorem m_raised4 {s a b c e : Nat} (hd : 2 ≤ d) (hs : s < 6) (hR : RM h S) (hWG : WG S) (hz : (S.1.2.2.1 s).1 ≠ 0) (ha : 1 ≤ a ∧ a < S.1.1) (hb : 1 ≤ b ∧ b < S.1.1) (hc : 1 ≤ c ∧ c < S.1.1) (he : 1 ≤ e ∧ e < S.1.1) (hQ : ∀ h', RM h' S → FrX h h' → Q (some (.int (rsV (S.1.2.2.1 s).2.1 [a, b, c, e]))) h') : V Γ mX10_raisedBy d 124 124 h 0 [some (.ref 94), some (.int (nI s)), some (.int (nI a)), some (.int (nI b)), some (.int (nI c)), some (.int (nI e)), none] [] Q := by
  have hWS := hWG.1
  have hn5 := hWS.2.1
  have hWT := hWS.2.2.1 s hs
  unfold rsV at hQ
  generalize hww : (S.1.2.2.1 s).2.1 = w at hQ
  have bad : ∀ h1 x6, Q (some (.int (-1))) h1 → V Γ mX10_raisedBy d 124 124 h1 48 [some (.ref 94), some (.int (nI s)), some (.int (nI a)), some (.int (nI b)), some (.int (nI c)), some (.int (nI e)), x6] [] Q := by
    intro h1 x6 hQ9
    refine V_iconst (v := nI 0) dX10_raisedBy_48 (by decide) ?_
    refine V_istorew6 dX10_raisedBy_49 (by decide) rfl ?_
    refine V_iloadw6 dX10_raisedBy_51 ?_
    first | refine U_ifB_eq (tgt := 63) dX10_raisedBy_53 (by decide) (by with_reducible rfl) (fun c53 => ?_) (fun c53 => ?_) | refine U_if_eq (tgt := 63) dX10_raisedBy_53 (by decide) (by with_reducible rfl) (by omega) (fun c53 => ?_) (fun c53 => ?_) | refine V_if_eq (tgt := 63) dX10_raisedBy_53 (by decide) (fun c53 => ?_) (fun c53 => ?_)
    · skip
      refine V_iconst (v := -1) dX10_raisedBy_63 (by decide) ?_
      refine V_iret dX10_raisedBy_64 rfl rfl ?_
      exact hQ9
    · skip
      omega
  have good : ∀ h1 u x6, MLay h1 → WW h1 u → Q (some (.int (nI (numF u 0 u.length)))) h1 → V Γ mX10_raisedBy d 124 124 h1 44 [some (.ref 94), some (.int (nI s)), some (.int (nI a)), some (.int (nI b)), some (.int (nI c)), some (.int (nI e)), x6] [] Q := by
    intro h1 u x6 hM1 hW1 hQ9
    refine V_iconst (v := nI 1) dX10_raisedBy_44 (by decide) ?_
    refine V_goto (tgt := 49) dX10_raisedBy_45 (by decide) ?_
    refine V_istorew6 dX10_raisedBy_49 (by decide) rfl ?_
    refine V_iloadw6 dX10_raisedBy_51 ?_
    first | refine U_ifB_eq (tgt := 63) dX10_raisedBy_53 (by decide) (by with_reducible rfl) (fun c53 => ?_) (fun c53 => ?_) | refine U_if_eq (tgt := 63) dX10_raisedBy_53 (by decide) (by with_reducible rfl) (by omega) (fun c53 => ?_) (fun c53 => ?_) | refine V_if_eq (tgt := 63) dX10_raisedBy_53 (by decide) (fun c53 => ?_) (fun c53 => ?_)
    · skip
      omega
    · skip
      refine V_aloadn0 dX10_raisedBy_56 ?_
      refine V_callV0 (μ' := mX10_read) dX10_raisedBy_57 okX10_read lX10_149 rfl (by first | assumption | rfl) (by first | decide | omega) (Nat.le_of_ble_eq_true rfl) (Nat.le_of_ble_eq_true rfl) (by omega) ?_
      refine m_read hM1 hW1 ?_
      dsimp only [gPush]
      refine V_goto (tgt := 64) dX10_raisedBy_60 (by decide) ?_
      refine V_iret dX10_raisedBy_64 rfl rfl ?_
      exact hQ9
  refine V_aloadn0 dX10_raisedBy_0 ?_
  refine V_iloadn1 dX10_raisedBy_1 ?_
  refine V_callV1 (μ' := mX10_takes) dX10_raisedBy_2 okX10_takes lX10_146 rfl (by first | assumption | rfl) (by first | decide | omega) (Nat.le_of_ble_eq_true rfl) (Nat.le_of_ble_eq_true rfl) (by omega) ?_
  refine m_takes hs hR hWT hn5 hz (fun h1 hk1 hW1 hL1 hR1 hF1 => ?_)
  rw [hww] at hW1
  have hM1 := hR1.1
  dsimp only [gPush]
  refine V_aloadn0 dX10_raisedBy_5 ?_
  refine V_iloadn2 dX10_raisedBy_6 ?_
  refine V_callV1 (μ' := mX10_raises) dX10_raisedBy_7 okX10_raises lX10_179 rfl (by first | assumption | rfl) (by first | decide | omega) (Nat.le_of_ble_eq_true rfl) (Nat.le_of_ble_eq_true rfl) (by omega) ?_
  refine m_raises (by omega) hM1 hW1 ha.1 (by omega) (fun h2 hW2 hF2 => ?_)
  have hR2 := RM_X hR1 hF2.X
  have hM2 := hR2.1
  dsimp only [gPush]
  first | refine U_ifB_eq (tgt := 48) dX10_raisedBy_10 (by decide) (by with_reducible rfl) (fun c10 => ?_) (fun c10 => ?_) | refine U_if_eq (tgt := 48) dX10_raisedBy_10 (by decide) (by with_reducible rfl) (by omega) (fun c10 => ?_) (fun c10 => ?_) | refine V_if_eq (tgt := 48) dX10_raisedBy_10 (by decide) (fun c10 => ?_) (fun c10 => ?_)
  · skip
    rw [rsq_f (of_decide_eq_false c10)] at hQ
    have hQ9 := hQ h2 hR2 (hF1.tr hF2.X)
    exact bad _ _ hQ9
  · skip
    rw [rsq_t (of_decide_eq_true c10)] at hQ
    refine V_aloadn0 dX10_raisedBy_13 ?_
    refine V_iloadn3 dX10_raisedBy_14 ?_
    refine V_callV1 (μ' := mX10_raises) dX10_raisedBy_15 okX10_raises lX10_179 rfl (by first | assumption | rfl) (by first | decide | omega) (Nat.le_of_ble_eq_true rfl) (Nat.le_of_ble_eq_true rfl) (by omega) ?_
    refine m_raises (by omega) hM2 hW2 hb.1 (by omega) (fun h3 hW3 hF3 => ?_)
    have hR3 := RM_X hR2 hF3.X
    have hM3 := hR3.1
    have f3 := hF1.tr (hF2.X.tr hF3.X)
    dsimp only [gPush]
    first | refine U_ifB_eq (tgt := 48) dX10_raisedBy_18 (by decide) (by with_reducible rfl) (fun c18 => ?_) (fun c18 => ?_) | refine U_if_eq (tgt := 48) dX10_raisedBy_18 (by decide) (by with_reducible rfl) (by omega) (fun c18 => ?_) (fun c18 => ?_) | refine V_if_eq (tgt := 48) dX10_raisedBy_18 (by decide) (fun c18 => ?_) (fun c18 => ?_)
    · skip
      rw [rsq_f (of_decide_eq_false c18)] at hQ
      have hQ9 := hQ h3 hR3 f3
      exact bad _ _ hQ9
    · skip
      rw [rsq_t (of_decide_eq_true c18)] at hQ
      refine V_iloadw4 dX10_raisedBy_21 ?_
      first | refine U_ifB_eq (tgt := 44) dX10_raisedBy_23 (by decide) (by with_reducible rfl) (fun c23 => ?_) (fun c23 => ?_) | refine U_if_eq (tgt := 44) dX10_raisedBy_23 (by decide) (by with_reducible rfl) (by omega) (fun c23 => ?_) (fun c23 => ?_) | refine V_if_eq (tgt := 44) dX10_raisedBy_23 (by decide) (fun c23 => ?_) (fun c23 => ?_)
      · skip
        omega
      · skip
        refine V_aloadn0 dX10_raisedBy_26 ?_
        refine V_iloadw4 dX10_raisedBy_27 ?_
        refine V_callV1 (μ' := mX10_raises) dX10_raisedBy_29 okX10_raises lX10_179 rfl (by first | assumption | rfl) (by first | decide | omega) (Nat.le_of_ble_eq_true rfl) (Nat.le_of_ble_eq_true rfl) (by omega) ?_
        refine m_raises (by omega) hM3 hW3 hc.1 (by omega) (fun h4 hW4 hF4 => ?_)
        have hR4 := RM_X hR3 hF4.X
        have hM4 := hR4.1
        have f4 := f3.tr hF4.X
        dsimp only [gPush]
        first | refine U_ifB_eq (tgt := 48) dX10_raisedBy_32 (by decide) (by with_reducible rfl) (fun c32 => ?_) (fun c32 => ?_) | refine U_if_eq (tgt := 48) dX10_raisedBy_32 (by decide) (by with_reducible rfl) (by omega) (fun c32 => ?_) (fun c32 => ?_) | refine V_if_eq (tgt := 48) dX10_raisedBy_32 (by decide) (fun c32 => ?_) (fun c32 => ?_)
        · skip
          rw [rsq_f (of_decide_eq_false c32)] at hQ
          have hQ9 := hQ h4 hR4 f4
          exact bad _ _ hQ9
        · skip
          rw [rsq_t (of_decide_eq_true c32)] at hQ
          refine V_aloadn0 dX10_raisedBy_35 ?_
          refine V_iloadw5 dX10_raisedBy_36 ?_
          refine V_callV1 (μ' := mX10_raises) dX10_raisedBy_38 okX10_raises lX10_179 rfl (by first | assumption | rfl) (by first | decide | omega) (Nat.le_of_ble_eq_true rfl) (Nat.le_of_ble_eq_true rfl) (by omega) ?_
          refine m_raises (by omega) hM4 hW4 he.1 (by omega) (fun h5 hW5 hF5 => ?_)
          have hR5 := RM_X hR4 hF5.X
          have hM5 := hR5.1
          have f5 := f4.tr hF5.X
          dsimp only [gPush]
          first | refine U_ifB_eq (tgt := 48) dX10_raisedBy_41 (by decide) (by with_reducible rfl) (fun c41 => ?_) (fun c41 => ?_) | refine U_if_eq (tgt := 48) dX10_raisedBy_41 (by decide) (by with_reducible rfl) (by omega) (fun c41 => ?_) (fun c41 => ?_) | refine V_if_eq (tgt := 48) dX10_raisedBy_41 (by decide) (fun c41 => ?_) (fun c41 => ?_)
          · skip
            rw [rsq_f (of_decide_eq_false c41)] at hQ
            have hQ9 := hQ h5 hR5 f5
            exact bad _ _ hQ9
          · skip
            rw [rsq_t (of_decide_eq_true c41)] at hQ
            have hQ9 := hQ h5 hR5 f5
            exact good h5 _ _ hM5 hW5 hQ9

set_option maxRecDepth 100000 in
set_option maxHeartbeats 4000000 in
theorem m_pair {x i j : Int32} (hd : 3 ≤ d) (hR : RM h S) (hWG : WG S) (hQ : ∀ h', RM h' S → FrD h h' → Q (some (.int (g_pair S x i j))) h') : V Γ mX10_pair d 124 124 h 0 [some (.ref 94), some (.int x), some (.int i), some (.int j), none, none] [] Q := by
  obtain ⟨hM, ⟨r0, r1, rT, rW⟩, rK, rK2, rB, rS⟩ := id hR
  obtain ⟨hWS, hWK, hWB, hWX⟩ := id hWG
  have hn2 := hWS.1
  have hn5 := hWS.2.1
  by_cases hg : (inB x 6 && (inS i S.1.1 && (inS j S.1.1 && decide (i ≠ j)))) = true
  · have hg2 := hg
    rw [Bool.and_eq_true, Bool.and_eq_true, Bool.and_eq_true] at hg2
    obtain ⟨s, hs, rfl⟩ := inB_t (by decide) hg2.1
    obtain ⟨i', i1, i2, rfl⟩ := inS_t (by omega) hg2.2.1
    obtain ⟨j', j1, j2, rfl⟩ := inS_t (by omega) hg2.2.2.1
    have hWT := hWS.2.2.1 s hs
    obtain ⟨t0, tz⟩ := rT s hs
    have kd2 := hWT.1
    have eS : tS S (nI s) = S.1.2.2.1 s := by unfold tS; rw [cN_nI (by omega)]
    have eq0 : g_pair S (nI s) (nI i') (nI j') = _ := if_t hg
    rw [eq0, eS, cN_nI (by omega), cN_nI (by omega)] at hQ
    have hne : ¬ i' = j' := fun q => (of_decide_eq_true hg2.2.2.2) (by rw [q])
    have ml2 : ∀ k ∈ [i', j'], 1 ≤ k ∧ k < S.1.1 := by intro k hk; simp at hk; omega
    have ml2' : ∀ k ∈ [j', i'], 1 ≤ k ∧ k < S.1.1 := by intro k hk; simp at hk; omega
    have ml4 : ∀ k ∈ [i', j', j', i'], 1 ≤ k ∧ k < S.1.1 := by intro k hk; simp at hk; omega
    have ml4' : ∀ k ∈ [j', i', i', j'], 1 ≤ k ∧ k < S.1.1 := by intro k hk; simp at hk; omega
    have v2 := met_v hn5 hWT.2.1 hWT.2.2.1 ml2 ml2'
    have v4 := met_v hn5 hWT.2.1 hWT.2.2.1 ml4 ml4'
    have hfi := fhC_z (S.1.2.2.1 s).2.1 i'
    have hfj := fhC_z (S.1.2.2.1 s).2.1 j'
    have hci := highC_le (S.1.2.2.1 s).2.1 i'
    have hcj := highC_le (S.1.2.2.1 s).2.1 j'
    have hwl := hWT.2.1
    have four : ∀ h1 (l4 : Int32) x5, (S.1.2.2.1 s).1 ≠ 0 → ¬ (fhC (S.1.2.2.1 s).2.1 i' = 0 ∨ fhC (S.1.2.2.1 s).2.1 j' = 0) → metB (S.1.2.2.1 s).2.1 [i', j'] [j', i'] = false → RM h1 S → FrX h h1 → V Γ mX10_pair d 124 124 h1 118 [some (.ref 94), some (.int (nI s)), some (.int (nI i')), some (.int (nI j')), some (.int l4), x5] [] Q := by
      intro h1 l4 x5 hz hno hm hR1 hF1
      rw [if_neg hz, if_neg hno, if_f hm] at hQ
      refine V_aloadn0 dX10_pair_118 ?_
      refine V_iloadn1 dX10_pair_119 ?_
      refine V_iloadn2 dX10_pair_120 ?_
      refine V_iloadn3 dX10_pair_121 ?_
      refine V_iloadn3 dX10_pair_122 ?_
      refine V_iloadn2 dX10_pair_123 ?_
      refine V_callV5 (μ' := mX10_raisedBy) dX10_pair_124 okX10_raisedBy lX10_242 rfl (by first | assumption | rfl) (by first | decide | omega) (Nat.le_of_ble_eq_true rfl) (Nat.le_of_ble_eq_true rfl) (by omega) ?_
      refine m_raised4 (by omega) hs hR1 hWG hz ⟨i1, i2⟩ ⟨j1, j2⟩ ⟨j1, j2⟩ ⟨i1, i2⟩ (fun h2 hR2 hF2 => ?_)
      dsimp only [gPush]
      refine V_istorew5 dX10_pair_127 (by decide) rfl ?_
      refine V_iloadw5 dX10_pair_129 ?_
      refine V_if_lt (tgt := 152) dX10_pair_131 (by decide) (fun c131 => ?_) (fun c131 => ?_)
      · skip
        rw [if_f (v4.1 c131)] at hQ
        have hQ9 := hQ h2 hR2 (hF1.tr hF2).D
        refine V_iconst (v := nI 0) dX10_pair_152 (by decide) ?_
        refine V_iret dX10_pair_153 rfl rfl ?_
        exact hQ9
      · skip
        refine V_iloadw5 dX10_pair_134 ?_
        refine V_aloadn0 dX10_pair_136 ?_
        refine V_iloadn1 dX10_pair_137 ?_
        refine V_iloadn3 dX10_pair_138 ?_
        refine V_iloadn2 dX10_pair_139 ?_
        refine V_iloadn2 dX10_pair_140 ?_
        refine V_iloadn3 dX10_pair_141 ?_
        refine V_callV5 (μ' := mX10_raisedBy) dX10_pair_142 okX10_raisedBy lX10_242 rfl (by first | assumption | rfl) (by first | decide | omega) (Nat.le_of_ble_eq_true rfl) (Nat.le_of_ble_eq_true rfl) (by omega) ?_
        refine m_raised4 (by omega) hs hR2 hWG hz ⟨j1, j2⟩ ⟨i1, i2⟩ ⟨i1, i2⟩ ⟨j1, j2⟩ (fun h3 hR3 hF3 => ?_)
        dsimp only [gPush]
        first | refine U_icmp_ne (tgt := 152) dX10_pair_145 (by decide) (by with_reducible rfl) (by with_reducible rfl) (by omega) (by omega) (fun c145 => ?_) (fun c145 => ?_) | refine V_icmp_ne (tgt := 152) dX10_pair_145 (by decide) (fun c145 => ?_) (fun c145 => ?_)
        · skip
          rw [if_f (Bool.eq_false_iff.mpr (fun z => c145 ((v4.2 c131).mp z)))] at hQ
          have hQ9 := hQ h3 hR3 (hF1.tr (hF2.tr hF3)).D
          refine V_iconst (v := nI 0) dX10_pair_152 (by decide) ?_
          refine V_iret dX10_pair_153 rfl rfl ?_
          exact hQ9
        · skip
          rw [if_t ((v4.2 c131).mpr c145)] at hQ
          have hQ9 := hQ h3 hR3 (hF1.tr (hF2.tr hF3)).D
          refine V_iconst (v := nI 2) dX10_pair_148 (by decide) ?_
          refine V_goto (tgt := 153) dX10_pair_149 (by decide) ?_
          refine V_iret dX10_pair_153 rfl rfl ?_
          exact hQ9
    have cant : ∀ h1 (l4 : Int32), (S.1.2.2.1 s).1 ≠ 0 → (fhC (S.1.2.2.1 s).2.1 i' = 0 ∨ fhC (S.1.2.2.1 s).2.1 j' = 0) → RM h1 S → FrX h h1 → V Γ mX10_pair d 124 124 h1 83 [some (.ref 94), some (.int (nI s)), some (.int (nI i')), some (.int (nI j')), some (.int l4), none] [] Q := by
      intro h1 l4 hz hno hR1 hF1
      rw [if_neg hz, if_pos hno] at hQ
      refine V_bipush (v := -3) dX10_pair_83 (by decide) ?_
      refine V_iret dX10_pair_85 rfl rfl ?_
      exact hQ h1 hR1 hF1.D
    have two : ∀ h1 (l4 : Int32), (S.1.2.2.1 s).1 ≠ 0 → ¬ (fhC (S.1.2.2.1 s).2.1 i' = 0 ∨ fhC (S.1.2.2.1 s).2.1 j' = 0) → RM h1 S → FrX h h1 → V Γ mX10_pair d 124 124 h1 86 [some (.ref 94), some (.int (nI s)), some (.int (nI i')), some (.int (nI j')), some (.int l4), none] [] Q := by
      intro h1 l4 hz hno hR1 hF1
      refine V_aloadn0 dX10_pair_86 ?_
      refine V_iloadn1 dX10_pair_87 ?_
      refine V_iloadn2 dX10_pair_88 ?_
      refine V_iloadn3 dX10_pair_89 ?_
      refine V_iconst (v := nI 0) dX10_pair_90 (by decide) ?_
      refine V_iconst (v := nI 0) dX10_pair_91 (by decide) ?_
      refine V_callV5 (μ' := mX10_raisedBy) dX10_pair_92 okX10_raisedBy lX10_242 rfl (by first | assumption | rfl) (by first | decide | omega) (Nat.le_of_ble_eq_true rfl) (Nat.le_of_ble_eq_true rfl) (by omega) ?_
      refine m_raised2 (by omega) hs hR1 hWG hz ⟨i1, i2⟩ ⟨j1, j2⟩ (fun h2 hR2 hF2 => ?_)
      dsimp only [gPush]
      refine V_istorew5 dX10_pair_95 (by decide) rfl ?_
      refine V_iloadw5 dX10_pair_97 ?_
      refine V_if_lt (tgt := 118) dX10_pair_99 (by decide) (fun c99 => ?_) (fun c99 => ?_)
      · skip
        exact four h2 _ _ hz hno (v2.1 c99) hR2 (hF1.tr hF2)
      · skip
        refine V_iloadw5 dX10_pair_102 ?_
        refine V_aloadn0 dX10_pair_104 ?_
        refine V_iloadn1 dX10_pair_105 ?_
        refine V_iloadn3 dX10_pair_106 ?_
        refine V_iloadn2 dX10_pair_107 ?_
        refine V_iconst (v := nI 0) dX10_pair_108 (by decide) ?_
        refine V_iconst (v := nI 0) dX10_pair_109 (by decide) ?_
        refine V_callV5 (μ' := mX10_raisedBy) dX10_pair_110 okX10_raisedBy lX10_242 rfl (by first | assumption | rfl) (by first | decide | omega) (Nat.le_of_ble_eq_true rfl) (Nat.le_of_ble_eq_true rfl) (by omega) ?_
        refine m_raised2 (by omega) hs hR2 hWG hz ⟨j1, j2⟩ ⟨i1, i2⟩ (fun h3 hR3 hF3 => ?_)
        dsimp only [gPush]
        first | refine U_icmp_ne (tgt := 118) dX10_pair_113 (by decide) (by with_reducible rfl) (by with_reducible rfl) (by omega) (by omega) (fun c113 => ?_) (fun c113 => ?_) | refine V_icmp_ne (tgt := 118) dX10_pair_113 (by decide) (fun c113 => ?_) (fun c113 => ?_)
        · skip
          exact four h3 _ _ hz hno (Bool.eq_false_iff.mpr (fun z => c113 ((v2.2 c99).mp z))) hR3 (hF1.tr (hF2.tr hF3))
        · skip
          rw [if_neg hz, if_neg hno, if_t ((v2.2 c99).mpr c113)] at hQ
          have hQ9 := hQ h3 hR3 (hF1.tr (hF2.tr hF3)).D
          refine V_iconst (v := nI 1) dX10_pair_116 (by decide) ?_
          refine V_iret dX10_pair_117 rfl rfl ?_
          exact hQ9
    by_cases hci0 : fhC (S.1.2.2.1 s).2.1 i' = 0
    · have hh0 := hfi.mpr hci0
      refine V_iloadn1 dX10_pair_0 ?_
      refine V_callS1 (μ' := mX10_isSlot) dX10_pair_1 okX10_isSlot lX10_114 (Nat.le_of_ble_eq_true rfl) (Nat.le_of_ble_eq_true rfl) (by omega) ?_
      refine m_isSlot (by omega) ?_
      rw [hg2.1]
      dsimp only [gPush]
      first | refine U_ifB_eq (tgt := 28) dX10_pair_4 (by decide) (by with_reducible rfl) (fun c4 => ?_) (fun c4 => ?_) | refine U_if_eq (tgt := 28) dX10_pair_4 (by decide) (by with_reducible rfl) (by omega) (fun c4 => ?_) (fun c4 => ?_) | refine V_if_eq (tgt := 28) dX10_pair_4 (by decide) (fun c4 => ?_) (fun c4 => ?_)
      · skip
        cases c4
      · skip
        refine V_aloadn0 dX10_pair_7 ?_
        refine V_iloadn2 dX10_pair_8 ?_
        refine V_callV1 (μ' := mX10_isSign) dX10_pair_9 okX10_isSign lX10_173 rfl (by first | assumption | rfl) (by first | decide | omega) (Nat.le_of_ble_eq_true rfl) (Nat.le_of_ble_eq_true rfl) (by omega) ?_
        refine m_isSign (by omega) (by omega) hn5 r0 ?_
        rw [hg2.2.1]
        dsimp only [gPush]
        first | refine U_ifB_eq (tgt := 28) dX10_pair_12 (by decide) (by with_reducible rfl) (fun c12 => ?_) (fun c12 => ?_) | refine U_if_eq (tgt := 28) dX10_pair_12 (by decide) (by with_reducible rfl) (by omega) (fun c12 => ?_) (fun c12 => ?_) | refine V_if_eq (tgt := 28) dX10_pair_12 (by decide) (fun c12 => ?_) (fun c12 => ?_)
        · skip
          cases c12
        · skip
          refine V_aloadn0 dX10_pair_15 ?_
          refine V_iloadn3 dX10_pair_16 ?_
          refine V_callV1 (μ' := mX10_isSign) dX10_pair_17 okX10_isSign lX10_173 rfl (by first | assumption | rfl) (by first | decide | omega) (Nat.le_of_ble_eq_true rfl) (Nat.le_of_ble_eq_true rfl) (by omega) ?_
          refine m_isSign (by omega) (by omega) hn5 r0 ?_
          rw [hg2.2.2.1]
          dsimp only [gPush]
          first | refine U_ifB_eq (tgt := 28) dX10_pair_20 (by decide) (by with_reducible rfl) (fun c20 => ?_) (fun c20 => ?_) | refine U_if_eq (tgt := 28) dX10_pair_20 (by decide) (by with_reducible rfl) (by omega) (fun c20 => ?_) (fun c20 => ?_) | refine V_if_eq (tgt := 28) dX10_pair_20 (by decide) (fun c20 => ?_) (fun c20 => ?_)
          · skip
            cases c20
          · skip
            refine V_iloadn2 dX10_pair_23 ?_
            refine V_iloadn3 dX10_pair_24 ?_
            first | refine U_icmp_ne (tgt := 30) dX10_pair_25 (by decide) (by with_reducible rfl) (by with_reducible rfl) (by omega) (by omega) (fun c25 => ?_) (fun c25 => ?_) | refine V_icmp_ne (tgt := 30) dX10_pair_25 (by decide) (fun c25 => ?_) (fun c25 => ?_)
            · skip
              refine V_aloadn0 dX10_pair_30 ?_
              refine V_getR dX10_pair_31 fX10_16 (by first | assumption | rfl) (by first | decide | omega) (by first | assumption | exact ML_4 (by assumption) | exact ML_5 (by assumption) | exact ML_6 (by assumption) | exact ML_7 (by assumption) | exact ML_8 (by assumption) | exact ML_9 (by assumption) | exact ML_10 (by assumption) | exact ML_11 (by assumption) | exact ML_12 (by assumption) | exact ML_13 (by assumption) | exact ML_15 (by assumption) | exact ML_16 (by assumption) | exact ML_17 (by assumption) | exact ML_20 (by assumption) | exact ML_23 (by assumption) | exact ML_24 (by assumption) | exact ML_30 (by assumption) | exact ML_31 (by assumption) | exact ML_32 (by assumption) | exact ML_33 (by assumption) | exact ML_35 (by assumption) | exact ML_36 (by assumption) | exact ML_37 (by assumption) | exact ML_38 (by assumption) | exact ML_41 (by assumption) | exact ML_42 (by assumption) | exact ML_43 (by assumption) | exact ML_44 (by assumption) | exact ML_45 (by assumption) | rfl) ?_
              refine V_iloadn1 dX10_pair_34 ?_
              refine U_iald dX10_pair_35 (by with_reducible rfl) (by first | assumption | rfl) (by first | decide | omega) (by omega) (by first | assumption | exact ML_4 (by assumption) | exact ML_5 (by assumption) | exact ML_6 (by assumption) | exact ML_7 (by assumption) | exact ML_8 (by assumption) | exact ML_9 (by assumption) | exact ML_10 (by assumption) | exact ML_11 (by assumption) | exact ML_12 (by assumption) | exact ML_13 (by assumption) | exact ML_15 (by assumption) | exact ML_16 (by assumption) | exact ML_17 (by assumption) | exact ML_20 (by assumption) | exact ML_23 (by assumption) | exact ML_24 (by assumption) | exact ML_30 (by assumption) | exact ML_31 (by assumption) | exact ML_32 (by assumption) | exact ML_33 (by assumption) | exact ML_35 (by assumption) | exact ML_36 (by assumption) | exact ML_37 (by assumption) | exact ML_38 (by assumption) | exact ML_41 (by assumption) | exact ML_42 (by assumption) | exact ML_43 (by assumption) | exact ML_44 (by assumption) | exact ML_45 (by assumption) | rfl) ?_
              first | refine U_ifB_ne (tgt := 42) dX10_pair_36 (by decide) (by with_reducible rfl) (fun c36 => ?_) (fun c36 => ?_) | refine U_if_ne (tgt := 42) dX10_pair_36 (by decide) (by with_reducible rfl) (by omega) (fun c36 => ?_) (fun c36 => ?_) | refine V_if_ne (tgt := 42) dX10_pair_36 (by decide) (fun c36 => ?_) (fun c36 => ?_)
              · skip
                refine V_aloadn0 dX10_pair_42 ?_
                refine V_iloadn1 dX10_pair_43 ?_
                refine V_callV1 (μ' := mX10_takes) dX10_pair_44 okX10_takes lX10_146 rfl (by first | assumption | rfl) (by first | decide | omega) (Nat.le_of_ble_eq_true rfl) (Nat.le_of_ble_eq_true rfl) (by omega) ?_
                refine m_takes hs hR hWT hn5 c36 (fun h1 hk1 hW1 hL1 hR1 hF1 => ?_)
                have hM1 := hR1.1
                dsimp only [gPush]
                refine V_aloadn0 dX10_pair_47 ?_
                refine V_iloadn2 dX10_pair_48 ?_
                refine V_callV1 (μ' := mX10_looks) dX10_pair_49 okX10_looks lX10_170 rfl (by first | assumption | rfl) (by first | decide | omega) (Nat.le_of_ble_eq_true rfl) (Nat.le_of_ble_eq_true rfl) (by omega) ?_
                refine m_looks hM1 hW1 i1 (by omega) (fun h2 z25 z26 z27 z28 z105 hF2 => ?_)
                have hR2 := RM_X hR1 hF2.X
                have hM2 := hR2.1
                dsimp only [gPush]
                refine V_aloadn0 dX10_pair_52 ?_
                refine V_getI dX10_pair_53 fX10_164 (Or.inl rfl) (by first | assumption | rfl) (by first | decide | omega) (by first | assumption | exact ML_4 (by assumption) | exact ML_5 (by assumption) | exact ML_6 (by assumption) | exact ML_7 (by assumption) | exact ML_8 (by assumption) | exact ML_9 (by assumption) | exact ML_10 (by assumption) | exact ML_11 (by assumption) | exact ML_12 (by assumption) | exact ML_13 (by assumption) | exact ML_15 (by assumption) | exact ML_16 (by assumption) | exact ML_17 (by assumption) | exact ML_20 (by assumption) | exact ML_23 (by assumption) | exact ML_24 (by assumption) | exact ML_30 (by assumption) | exact ML_31 (by assumption) | exact ML_32 (by assumption) | exact ML_33 (by assumption) | exact ML_35 (by assumption) | exact ML_36 (by assumption) | exact ML_37 (by assumption) | exact ML_38 (by assumption) | exact ML_41 (by assumption) | exact ML_42 (by assumption) | exact ML_43 (by assumption) | exact ML_44 (by assumption) | exact ML_45 (by assumption) | rfl) ?_
                first | refine U_if_le (tgt := 63) dX10_pair_56 (by decide) (by with_reducible rfl) (by omega) (fun c56 => ?_) (fun c56 => ?_) | refine V_if_le (tgt := 63) dX10_pair_56 (by decide) (fun c56 => ?_) (fun c56 => ?_)
                · skip
                  refine V_iconst (v := nI 0) dX10_pair_63 (by decide) ?_
                  refine V_istorew4 dX10_pair_64 (by decide) rfl ?_
                  refine V_aloadn0 dX10_pair_66 ?_
                  refine V_iloadn3 dX10_pair_67 ?_
                  refine V_callV1 (μ' := mX10_looks) dX10_pair_68 okX10_looks lX10_170 rfl (by first | assumption | rfl) (by first | decide | omega) (Nat.le_of_ble_eq_true rfl) (Nat.le_of_ble_eq_true rfl) (by omega) ?_
                  refine m_looks hM2 (WW_cg hW1 (hF2.2.1 18 (by omega)) z105) j1 (by omega) (fun h3 y25 y26 y27 y28 y105 hF3 => ?_)
                  have hR3 := RM_X hR2 hF3.X
                  dsimp only [gPush]
                  refine V_iloadw4 dX10_pair_71 ?_
                  first | refine U_ifB_eq (tgt := 83) dX10_pair_73 (by decide) (by with_reducible rfl) (fun c73 => ?_) (fun c73 => ?_) | refine U_if_eq (tgt := 83) dX10_pair_73 (by decide) (by with_reducible rfl) (by omega) (fun c73 => ?_) (fun c73 => ?_) | refine V_if_eq (tgt := 83) dX10_pair_73 (by decide) (fun c73 => ?_) (fun c73 => ?_)
                  · skip
                    exact cant h3 _ c36 (Or.inl hci0) hR3 (hF1.tr (hF2.X.tr hF3.X))
                  · skip
                    omega
                · skip
                  omega
              · skip
                rw [if_pos c36] at hQ
                have hQ9 := hQ h hR FrD.rf
                refine V_bipush (v := -11) dX10_pair_39 (by decide) ?_
                refine V_iret dX10_pair_41 rfl rfl ?_
                exact hQ9
            · skip
              exact absurd c25 hne
    · have hh0 : highC (S.1.2.2.1 s).2.1 i' ≠ 0 := fun q => hci0 (hfi.mp q)
      refine V_iloadn1 dX10_pair_0 ?_
      refine V_callS1 (μ' := mX10_isSlot) dX10_pair_1 okX10_isSlot lX10_114 (Nat.le_of_ble_eq_true rfl) (Nat.le_of_ble_eq_true rfl) (by omega) ?_
      refine m_isSlot (by omega) ?_
      rw [hg2.1]
      dsimp only [gPush]
      first | refine U_ifB_eq (tgt := 28) dX10_pair_4 (by decide) (by with_reducible rfl) (fun c4 => ?_) (fun c4 => ?_) | refine U_if_eq (tgt := 28) dX10_pair_4 (by decide) (by with_reducible rfl) (by omega) (fun c4 => ?_) (fun c4 => ?_) | refine V_if_eq (tgt := 28) dX10_pair_4 (by decide) (fun c4 => ?_) (fun c4 => ?_)
      · skip
        cases c4
      · skip
        refine V_aloadn0 dX10_pair_7 ?_
        refine V_iloadn2 dX10_pair_8 ?_
        refine V_callV1 (μ' := mX10_isSign) dX10_pair_9 okX10_isSign lX10_173 rfl (by first | assumption | rfl) (by first | decide | omega) (Nat.le_of_ble_eq_true rfl) (Nat.le_of_ble_eq_true rfl) (by omega) ?_
        refine m_isSign (by omega) (by omega) hn5 r0 ?_
        rw [hg2.2.1]
        dsimp only [gPush]
        first | refine U_ifB_eq (tgt := 28) dX10_pair_12 (by decide) (by with_reducible rfl) (fun c12 => ?_) (fun c12 => ?_) | refine U_if_eq (tgt := 28) dX10_pair_12 (by decide) (by with_reducible rfl) (by omega) (fun c12 => ?_) (fun c12 => ?_) | refine V_if_eq (tgt := 28) dX10_pair_12 (by decide) (fun c12 => ?_) (fun c12 => ?_)
        · skip
          cases c12
        · skip
          refine V_aloadn0 dX10_pair_15 ?_
          refine V_iloadn3 dX10_pair_16 ?_
          refine V_callV1 (μ' := mX10_isSign) dX10_pair_17 okX10_isSign lX10_173 rfl (by first | assumption | rfl) (by first | decide | omega) (Nat.le_of_ble_eq_true rfl) (Nat.le_of_ble_eq_true rfl) (by omega) ?_
          refine m_isSign (by omega) (by omega) hn5 r0 ?_
          rw [hg2.2.2.1]
          dsimp only [gPush]
          first | refine U_ifB_eq (tgt := 28) dX10_pair_20 (by decide) (by with_reducible rfl) (fun c20 => ?_) (fun c20 => ?_) | refine U_if_eq (tgt := 28) dX10_pair_20 (by decide) (by with_reducible rfl) (by omega) (fun c20 => ?_) (fun c20 => ?_) | refine V_if_eq (tgt := 28) dX10_pair_20 (by decide) (fun c20 => ?_) (fun c20 => ?_)
          · skip
            cases c20
          · skip
            refine V_iloadn2 dX10_pair_23 ?_
            refine V_iloadn3 dX10_pair_24 ?_
            first | refine U_icmp_ne (tgt := 30) dX10_pair_25 (by decide) (by with_reducible rfl) (by with_reducible rfl) (by omega) (by omega) (fun c25 => ?_) (fun c25 => ?_) | refine V_icmp_ne (tgt := 30) dX10_pair_25 (by decide) (fun c25 => ?_) (fun c25 => ?_)
            · skip
              refine V_aloadn0 dX10_pair_30 ?_
              refine V_getR dX10_pair_31 fX10_16 (by first | assumption | rfl) (by first | decide | omega) (by first | assumption | exact ML_4 (by assumption) | exact ML_5 (by assumption) | exact ML_6 (by assumption) | exact ML_7 (by assumption) | exact ML_8 (by assumption) | exact ML_9 (by assumption) | exact ML_10 (by assumption) | exact ML_11 (by assumption) | exact ML_12 (by assumption) | exact ML_13 (by assumption) | exact ML_15 (by assumption) | exact ML_16 (by assumption) | exact ML_17 (by assumption) | exact ML_20 (by assumption) | exact ML_23 (by assumption) | exact ML_24 (by assumption) | exact ML_30 (by assumption) | exact ML_31 (by assumption) | exact ML_32 (by assumption) | exact ML_33 (by assumption) | exact ML_35 (by assumption) | exact ML_36 (by assumption) | exact ML_37 (by assumption) | exact ML_38 (by assumption) | exact ML_41 (by assumption) | exact ML_42 (by assumption) | exact ML_43 (by assumption) | exact ML_44 (by assumption) | exact ML_45 (by assumption) | rfl) ?_
              refine V_iloadn1 dX10_pair_34 ?_
              refine U_iald dX10_pair_35 (by with_reducible rfl) (by first | assumption | rfl) (by first | decide | omega) (by omega) (by first | assumption | exact ML_4 (by assumption) | exact ML_5 (by assumption) | exact ML_6 (by assumption) | exact ML_7 (by assumption) | exact ML_8 (by assumption) | exact ML_9 (by assumption) | exact ML_10 (by assumption) | exact ML_11 (by assumption) | exact ML_12 (by assumption) | exact ML_13 (by assumption) | exact ML_15 (by assumption) | exact ML_16 (by assumption) | exact ML_17 (by assumption) | exact ML_20 (by assumption) | exact ML_23 (by assumption) | exact ML_24 (by assumption) | exact ML_30 (by assumption) | exact ML_31 (by assumption) | exact ML_32 (by assumption) | exact ML_33 (by assumption) | exact ML_35 (by assumption) | exact ML_36 (by assumption) | exact ML_37 (by assumption) | exact ML_38 (by assumption) | exact ML_41 (by assumption) | exact ML_42 (by assumption) | exact ML_43 (by assumption) | exact ML_44 (by assumption) | exact ML_45 (by assumption) | rfl) ?_
              first | refine U_ifB_ne (tgt := 42) dX10_pair_36 (by decide) (by with_reducible rfl) (fun c36 => ?_) (fun c36 => ?_) | refine U_if_ne (tgt := 42) dX10_pair_36 (by decide) (by with_reducible rfl) (by omega) (fun c36 => ?_) (fun c36 => ?_) | refine V_if_ne (tgt := 42) dX10_pair_36 (by decide) (fun c36 => ?_) (fun c36 => ?_)
              · skip
                refine V_aloadn0 dX10_pair_42 ?_
                refine V_iloadn1 dX10_pair_43 ?_
                refine V_callV1 (μ' := mX10_takes) dX10_pair_44 okX10_takes lX10_146 rfl (by first | assumption | rfl) (by first | decide | omega) (Nat.le_of_ble_eq_true rfl) (Nat.le_of_ble_eq_true rfl) (by omega) ?_
                refine m_takes hs hR hWT hn5 c36 (fun h1 hk1 hW1 hL1 hR1 hF1 => ?_)
                have hM1 := hR1.1
                dsimp only [gPush]
                refine V_aloadn0 dX10_pair_47 ?_
                refine V_iloadn2 dX10_pair_48 ?_
                refine V_callV1 (μ' := mX10_looks) dX10_pair_49 okX10_looks lX10_170 rfl (by first | assumption | rfl) (by first | decide | omega) (Nat.le_of_ble_eq_true rfl) (Nat.le_of_ble_eq_true rfl) (by omega) ?_
                refine m_looks hM1 hW1 i1 (by omega) (fun h2 z25 z26 z27 z28 z105 hF2 => ?_)
                have hR2 := RM_X hR1 hF2.X
                have hM2 := hR2.1
                dsimp only [gPush]
                refine V_aloadn0 dX10_pair_52 ?_
                refine V_getI dX10_pair_53 fX10_164 (Or.inl rfl) (by first | assumption | rfl) (by first | decide | omega) (by first | assumption | exact ML_4 (by assumption) | exact ML_5 (by assumption) | exact ML_6 (by assumption) | exact ML_7 (by assumption) | exact ML_8 (by assumption) | exact ML_9 (by assumption) | exact ML_10 (by assumption) | exact ML_11 (by assumption) | exact ML_12 (by assumption) | exact ML_13 (by assumption) | exact ML_15 (by assumption) | exact ML_16 (by assumption) | exact ML_17 (by assumption) | exact ML_20 (by assumption) | exact ML_23 (by assumption) | exact ML_24 (by assumption) | exact ML_30 (by assumption) | exact ML_31 (by assumption) | exact ML_32 (by assumption) | exact ML_33 (by assumption) | exact ML_35 (by assumption) | exact ML_36 (by assumption) | exact ML_37 (by assumption) | exact ML_38 (by assumption) | exact ML_41 (by assumption) | exact ML_42 (by assumption) | exact ML_43 (by assumption) | exact ML_44 (by assumption) | exact ML_45 (by assumption) | rfl) ?_
                first | refine U_if_le (tgt := 63) dX10_pair_56 (by decide) (by with_reducible rfl) (by omega) (fun c56 => ?_) (fun c56 => ?_) | refine V_if_le (tgt := 63) dX10_pair_56 (by decide) (fun c56 => ?_) (fun c56 => ?_)
                · skip
                  omega
                · skip
                  refine V_iconst (v := nI 1) dX10_pair_59 (by decide) ?_
                  refine V_goto (tgt := 64) dX10_pair_60 (by decide) ?_
                  refine V_istorew4 dX10_pair_64 (by decide) rfl ?_
                  refine V_aloadn0 dX10_pair_66 ?_
                  refine V_iloadn3 dX10_pair_67 ?_
                  refine V_callV1 (μ' := mX10_looks) dX10_pair_68 okX10_looks lX10_170 rfl (by first | assumption | rfl) (by first | decide | omega) (Nat.le_of_ble_eq_true rfl) (Nat.le_of_ble_eq_true rfl) (by omega) ?_
                  refine m_looks hM2 (WW_cg hW1 (hF2.2.1 18 (by omega)) z105) j1 (by omega) (fun h3 y25 y26 y27 y28 y105 hF3 => ?_)
                  have hR3 := RM_X hR2 hF3.X
                  dsimp only [gPush]
                  refine V_iloadw4 dX10_pair_71 ?_
                  first | refine U_ifB_eq (tgt := 83) dX10_pair_73 (by decide) (by with_reducible rfl) (fun c73 => ?_) (fun c73 => ?_) | refine U_if_eq (tgt := 83) dX10_pair_73 (by decide) (by with_reducible rfl) (by omega) (fun c73 => ?_) (fun c73 => ?_) | refine V_if_eq (tgt := 83) dX10_pair_73 (by decide) (fun c73 => ?_) (fun c73 => ?_)
                  · skip
                    omega
                  · skip
                    refine V_aloadn0 dX10_pair_76 ?_
                    refine V_getI dX10_pair_77 fX10_164 (Or.inl rfl) (by first | assumption | rfl) (by first | decide | omega) (by first | assumption | exact ML_4 (by assumption) | exact ML_5 (by assumption) | exact ML_6 (by assumption) | exact ML_7 (by assumption) | exact ML_8 (by assumption) | exact ML_9 (by assumption) | exact ML_10 (by assumption) | exact ML_11 (by assumption) | exact ML_12 (by assumption) | exact ML_13 (by assumption) | exact ML_15 (by assumption) | exact ML_16 (by assumption) | exact ML_17 (by assumption) | exact ML_20 (by assumption) | exact ML_23 (by assumption) | exact ML_24 (by assumption) | exact ML_30 (by assumption) | exact ML_31 (by assumption) | exact ML_32 (by assumption) | exact ML_33 (by assumption) | exact ML_35 (by assumption) | exact ML_36 (by assumption) | exact ML_37 (by assumption) | exact ML_38 (by assumption) | exact ML_41 (by assumption) | exact ML_42 (by assumption) | exact ML_43 (by assumption) | exact ML_44 (by assumption) | exact ML_45 (by assumption) | rfl) ?_
                    first | refine U_ifB_ne (tgt := 86) dX10_pair_80 (by decide) (by with_reducible rfl) (fun c80 => ?_) (fun c80 => ?_) | refine U_if_ne (tgt := 86) dX10_pair_80 (by decide) (by with_reducible rfl) (by omega) (fun c80 => ?_) (fun c80 => ?_) | refine V_if_ne (tgt := 86) dX10_pair_80 (by decide) (fun c80 => ?_) (fun c80 => ?_)
                    · skip
                      exact two h3 _ c36 (fun z => z.elim hci0 (fun e => c80 (hfj.mpr e))) hR3 (hF1.tr (hF2.X.tr hF3.X))
                    · skip
                      exact cant h3 _ c36 (Or.inr (hfj.mp c80)) hR3 (hF1.tr (hF2.X.tr hF3.X))
              · skip
                rw [if_pos c36] at hQ
                have hQ9 := hQ h hR FrD.rf
                refine V_bipush (v := -11) dX10_pair_39 (by decide) ?_
                refine V_iret dX10_pair_41 rfl rfl ?_
                exact hQ9
            · skip
              exact absurd c25 hne
  · have hQ9 := hQ h hR FrD.rf
    have eq0 : g_pair S x i j = -1 := if_neg hg
    rw [eq0] at hQ9
    refine V_iloadn1 dX10_pair_0 ?_
    refine V_callS1 (μ' := mX10_isSlot) dX10_pair_1 okX10_isSlot lX10_114 (Nat.le_of_ble_eq_true rfl) (Nat.le_of_ble_eq_true rfl) (by omega) ?_
    refine m_isSlot (by omega) ?_
    dsimp only [gPush]
    first | refine U_ifB_eq (tgt := 28) dX10_pair_4 (by decide) (by with_reducible rfl) (fun c4 => ?_) (fun c4 => ?_) | refine U_if_eq (tgt := 28) dX10_pair_4 (by decide) (by with_reducible rfl) (by omega) (fun c4 => ?_) (fun c4 => ?_) | refine V_if_eq (tgt := 28) dX10_pair_4 (by decide) (fun c4 => ?_) (fun c4 => ?_)
    · skip
      refine V_iconst (v := -1) dX10_pair_28 (by decide) ?_
      refine V_iret dX10_pair_29 rfl rfl ?_
      exact hQ9
    · skip
      refine V_aloadn0 dX10_pair_7 ?_
      refine V_iloadn2 dX10_pair_8 ?_
      refine V_callV1 (μ' := mX10_isSign) dX10_pair_9 okX10_isSign lX10_173 rfl (by first | assumption | rfl) (by first | decide | omega) (Nat.le_of_ble_eq_true rfl) (Nat.le_of_ble_eq_true rfl) (by omega) ?_
      refine m_isSign (by omega) (by omega) hn5 r0 ?_
      dsimp only [gPush]
      first | refine U_ifB_eq (tgt := 28) dX10_pair_12 (by decide) (by with_reducible rfl) (fun c12 => ?_) (fun c12 => ?_) | refine U_if_eq (tgt := 28) dX10_pair_12 (by decide) (by with_reducible rfl) (by omega) (fun c12 => ?_) (fun c12 => ?_) | refine V_if_eq (tgt := 28) dX10_pair_12 (by decide) (fun c12 => ?_) (fun c12 => ?_)
      · skip
        refine V_iconst (v := -1) dX10_pair_28 (by decide) ?_
        refine V_iret dX10_pair_29 rfl rfl ?_
        exact hQ9
      · skip
        refine V_aloadn0 dX10_pair_15 ?_
        refine V_iloadn3 dX10_pair_16 ?_
        refine V_callV1 (μ' := mX10_isSign) dX10_pair_17 okX10_isSign lX10_173 rfl (by first | assumption | rfl) (by first | decide | omega) (Nat.le_of_ble_eq_true rfl) (Nat.le_of_ble_eq_true rfl) (by omega) ?_
        refine m_isSign (by omega) (by omega) hn5 r0 ?_
        dsimp only [gPush]
        first | refine U_ifB_eq (tgt := 28) dX10_pair_20 (by decide) (by with_reducible rfl) (fun c20 => ?_) (fun c20 => ?_) | refine U_if_eq (tgt := 28) dX10_pair_20 (by decide) (by with_reducible rfl) (by omega) (fun c20 => ?_) (fun c20 => ?_) | refine V_if_eq (tgt := 28) dX10_pair_20 (by decide) (fun c20 => ?_) (fun c20 => ?_)
        · skip
          refine V_iconst (v := -1) dX10_pair_28 (by decide) ?_
          refine V_iret dX10_pair_29 rfl rfl ?_
          exact hQ9
        · skip
          refine V_iloadn2 dX10_pair_23 ?_
          refine V_iloadn3 dX10_pair_24 ?_
          first | refine U_icmp_ne (tgt := 30) dX10_pair_25 (by decide) (by with_reducible rfl) (by with_reducible rfl) (by omega) (by omega) (fun c25 => ?_) (fun c25 => ?_) | refine V_icmp_ne (tgt := 30) dX10_pair_25 (by decide) (fun c25 => ?_) (fun c25 => ?_)
          · skip
            exact absurd (by rw [c4, c12, c20, decide_eq_true c25]; rfl) hg
          · skip
            refine V_iconst (v := -1) dX10_pair_28 (by decide) ?_
            refine V_iret dX10_pair_29 rfl rfl ?_
            exact hQ9

end C69
