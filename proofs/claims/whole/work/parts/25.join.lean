/-! ===== the class: fillings, read with a shape behind ===== -/
def psum (L : List Nat) (r : Nat) : Nat := (L.take r).sum
theorem psum_succ {L : List Nat} {r : Nat} (hr : r < L.length) : psum L (r + 1) = psum L r + L.getD r 0 := by
  unfold psum
  rw [List.take_succ, List.sum_append, List.getD_eq_getElem?_getD, List.getElem?_eq_getElem hr]
  simp
theorem psum_le (L : List Nat) (r : Nat) : psum L r ≤ L.sum := by
  have : L.sum = psum L r + (L.drop r).sum := by unfold psum; rw [← List.sum_append, List.take_append_drop]
  omega
theorem psum_all {L : List Nat} {r : Nat} (h : L.length ≤ r) : psum L r = L.sum := by unfold psum; rw [List.take_of_length_le h]
theorem psum_z (L : List Nat) : psum L 0 = 0 := rfl
def segF (c : List Nat) (s l : Nat) : List Nat := (c.drop s).take l
/-- rows q and below read, the lowest first -/
def rdK (L c : List Nat) : Nat → List Nat
  | 0 => []
  | k + 1 => rdK L c k ++ segF c (psum L (L.length - 1 - k)) (L.getD (L.length - 1 - k) 0)
def bhK (L : List Nat) : Nat → List Nat
  | 0 => []
  | k + 1 => bhK L k ++ List.replicate (L.getD (L.length - 1 - k) 0) (L.length - 1 - k + 1)
def joinW (L c L2 : List Nat) : List Nat := rdK L c L.length ++ bhK L2 L2.length
theorem segF_len {c : List Nat} {s l : Nat} (h : s + l ≤ c.length) : (segF c s l).length = l := by
  unfold segF
  rw [List.length_take, List.length_drop]
  omega
theorem segF_get {c : List Nat} {s l j : Nat} (hj : j < l) : (segF c s l).getD j 0 = c.getD (s + j) 0 := by
  unfold segF
  rw [List.getD_eq_getElem?_getD, List.getElem?_take, if_pos hj, List.getElem?_drop, List.getD_eq_getElem?_getD]
theorem rdK_len {L c : List Nat} (hc : L.sum ≤ c.length) : ∀ k, k ≤ L.length → (rdK L c k).length + psum L (L.length - k) = L.sum
  | 0, _ => by rw [rdK, Nat.sub_zero, psum_all (Nat.le_refl _)]; simp
  | k + 1, hk => by
    have ih := rdK_len hc k (by omega)
    have e : L.length - k = L.length - (k + 1) + 1 := by omega
    have hle := psum_le L (L.length - k)
    rw [e, psum_succ (by omega)] at ih hle
    rw [rdK, List.length_append, segF_len (by rw [show L.length - 1 - k = L.length - (k + 1) by omega]; omega), show L.length - 1 - k = L.length - (k + 1) by omega]
    omega
theorem bhK_len (L : List Nat) : ∀ k, k ≤ L.length → (bhK L k).length + psum L (L.length - k) = L.sum
  | 0, _ => by rw [bhK, Nat.sub_zero, psum_all (Nat.le_refl _)]; simp
  | k + 1, hk => by
    have ih := bhK_len L k (by omega)
    have e : L.length - k = L.length - (k + 1) + 1 := by omega
    rw [e, psum_succ (by omega)] at ih
    rw [bhK, List.length_append, List.length_replicate, show L.length - 1 - k = L.length - (k + 1) by omega]
    omega
theorem joinW_len {L c L2 : List Nat} (hc : L.sum ≤ c.length) : (joinW L c L2).length = L.sum + L2.sum := by
  have h1 := rdK_len hc L.length (Nat.le_refl _)
  have h2 := bhK_len L2 L2.length (Nat.le_refl _)
  rw [Nat.sub_self, psum_z] at h1 h2
  unfold joinW
  rw [List.length_append]
  omega
theorem getD_rep {n x j : Nat} (hj : j < n) : (List.replicate n x).getD j 0 = x := by
  rw [List.getD_eq_getElem?_getD, List.getElem?_replicate, if_pos hj]; rfl
theorem rdK_le {L c : List Nat} {b : Nat} (hc : ∀ j, c.getD j 0 ≤ b) : ∀ k j, (rdK L c k).getD j 0 ≤ b
  | 0, j => by simp [rdK]
  | k + 1, j => by
    rw [rdK, getD_app]
    split
    · exact rdK_le hc k j
    · unfold segF
      rw [List.getD_eq_getElem?_getD, List.getElem?_take]
      split
      · rw [List.getElem?_drop, ← List.getD_eq_getElem?_getD]; exact hc _
      · exact Nat.zero_le _
theorem bhK_le {L : List Nat} {b : Nat} (hb : L.length ≤ b) : ∀ k, k ≤ L.length → ∀ j, (bhK L k).getD j 0 ≤ b
  | 0, _, j => by simp [bhK]
  | k + 1, hk, j => by
    rw [bhK, getD_app]
    split
    · exact bhK_le hb k (by omega) j
    · rw [List.getD_eq_getElem?_getD, List.getElem?_replicate]
      split
      · show L.length - 1 - k + 1 ≤ b; omega
      · exact Nat.zero_le _
theorem joinW_le {L c L2 : List Nat} {b : Nat} (hc : ∀ j, c.getD j 0 ≤ b) (hb : L2.length ≤ b) (j : Nat) : (joinW L c L2).getD j 0 ≤ b := by
  unfold joinW
  rw [getD_app]
  split
  · exact rdK_le hc _ j
  · exact bhK_le hb _ (Nat.le_refl _) _
section C25
variable {Γ : gM} {d : Nat} {h : gH} {Q : Option Value → gH → Prop}
set_option maxRecDepth 100000 in
set_option maxHeartbeats 4000000 in
theorem c_join {s s2 : Nat} {L L2 c : List Nat} (hd : 1 ≤ d) (r2 : gR h 67 2 = some 70) (r7 : gR h 67 6 = some 71) (hT : TL h 71) (hS : ShL h s) (hI : ShI h s L) (hS2 : ShL h s2) (hI2 : ShI h s2 L2) (hs : s + 2 ≤ 71 ∨ 74 ≤ s) (hs2 : s2 + 2 ≤ 71 ∨ 74 ≤ s2) (hc : L.sum ≤ c.length) (hc6 : c.length ≤ 6) (hcI : ∀ j, j < c.length → gI h 70 j = nI (c.getD j 0)) (hc9 : ∀ j, c.getD j 0 ≤ 9) (hsum : L.sum + L2.sum ≤ 6) (hQ : ∀ h', TI h' 71 1 (joinW L c L2) [] → Fr1 h h' 71 74 → Q none h') : V Γ mX1_join d 124 124 h 0 [some (.ref 67), some (.ref s), some (.ref s2), none, none, none, none] [] Q := by
  obtain ⟨l0, l1, lt, lr⟩ := id hS
  obtain ⟨k0, k1, kt, kr⟩ := id hS2
  obtain ⟨a0, a1, a2, a3, a4, a5⟩ := id hI
  obtain ⟨b0, b1, b2, b3, b4, b5⟩ := id hI2
  have tr : gR h 71 2 = some 72 := hT.2.2.2.2.1
  have hlen := joinW_len (L2 := L2) hc
  -- the second loop: the shape behind
  have loop2 : ∀ m h1 (x1 : Int32) v4, m ≤ L2.length → gI h1 71 0 = nI 1 → gI h1 71 1 = nI (L.sum + L2.sum) → gI h1 71 3 = nI 0 → (∀ j, j < (rdK L c L.length ++ bhK L2 (L2.length - m)).length → gI h1 72 j = nI ((rdK L c L.length ++ bhK L2 (L2.length - m)).getD j 0)) → Fr1 h h1 71 74 → V Γ mX1_join d 124 124 h1 97 [some (.ref 67), some (.ref s), some (.ref s2), some (.int x1), some (.int (nI (rdK L c L.length ++ bhK L2 (L2.length - m)).length)), some (.int (nI m - nI 1)), v4] [] Q := by
    intro m
    induction m with
    | zero =>
      intro h1 x1 v4 hm z0 z1 z3 zw hF
      rw [Nat.sub_zero] at zw ⊢
      refine V_iloadw5 dX1_join_97 ?_
      refine V_if_lt (tgt := 146) dX1_join_99 (by decide) (fun c99 => ?_) (fun c99 => ?_)
      · skip
        refine V_ret dX1_join_146 rfl ?_
        refine hQ h1 ⟨z0, by rw [hlen]; exact z1, z3, zw, fun r hr => absurd hr (Nat.not_lt_zero _), by rw [hlen]; exact hsum, by decide, fun j => joinW_le hc9 (by omega) j, fun r => by simp, by decide⟩ hF
      · skip
        exact absurd ((gdec_lt (by omega)).mpr rfl) c99
    | succ m ih =>
      intro h1 x1 v4 hm z0 z1 z3 zw hF
      have hrow := bhK_len L2 (L2.length - (m + 1)) (by omega)
      have hrd := rdK_len hc L.length (Nat.le_refl _)
      rw [Nat.sub_self, psum_z] at hrd
      have hps := psum_succ (L := L2) (r := m) (by omega)
      rw [show L2.length - (L2.length - (m + 1)) = m + 1 by omega] at hrow
      have hbk : bhK L2 (L2.length - m) = bhK L2 (L2.length - (m + 1)) ++ List.replicate (L2.getD m 0) (m + 1) := by
        rw [show L2.length - m = L2.length - (m + 1) + 1 by omega, bhK, show L2.length - 1 - (L2.length - (m + 1)) = m by omega]
      generalize hW : rdK L c L.length ++ bhK L2 (L2.length - (m + 1)) = W at zw
      have hWl : W.length + L2.getD m 0 + psum L2 m = L.sum + L2.sum := by rw [← hW, List.length_append]; omega
      have hn7 := b5 m
      have inner : ∀ k j h2 (x1 : Int32), L2.getD m 0 - j = k → j ≤ L2.getD m 0 → gI h2 71 0 = nI 1 → gI h2 71 1 = nI (L.sum + L2.sum) → gI h2 71 3 = nI 0 → (∀ i, i < W.length + j → gI h2 72 i = nI ((W ++ List.replicate (L2.getD m 0) (m + 1)).getD i 0)) → Fr1 h h2 71 74 → V Γ mX1_join d 124 124 h2 105 [some (.ref 67), some (.ref s), some (.ref s2), some (.int x1), some (.int (nI (W.length + j))), some (.int (nI m)), some (.int (nI j))] [] Q := by
        intro k
        induction k using Nat.strongRecOn with
        | _ k ih2 =>
          intro j h2 x1 hk hj y0 y1 y3 yw hF2
          have r7' : gR h2 67 6 = some 71 := by rw [hF2.2.2]; exact r7
          have kr' : gR h2 s2 2 = some (s2 + 1) := by rw [hF2.2.2]; exact kr
          have tr' : gR h2 71 2 = some 72 := by rw [hF2.2.2]; exact tr
          have w1 : gI h2 (s2 + 1) m = nI (L2.getD m 0) := by rw [hF2.1 (s2 + 1) (by omega)]; exact b2 m (by omega)
          refine V_iloadw6 dX1_join_105 ?_
          refine V_aloadn2 dX1_join_107 ?_
          refine V_getR dX1_join_108 fX1_102 (by first | assumption | rfl) (by first | decide | omega) (by first | assumption | rfl) ?_
          refine V_iloadw5 dX1_join_111 ?_
          refine U_iald dX1_join_113 (by with_reducible rfl) (by first | assumption | rfl) (by first | decide | omega) (by omega) (by first | assumption | rfl) ?_
          first | refine U_icmp_ge (tgt := 140) dX1_join_114 (by decide) (by with_reducible rfl) (by with_reducible rfl) (by omega) (by omega) (fun c114 => ?_) (fun c114 => ?_) | refine V_icmp_ge (tgt := 140) dX1_join_114 (by decide) (fun c114 => ?_) (fun c114 => ?_)
          · skip
            have e : j = L2.getD m 0 := by omega
            refine V_iinc5 dX1_join_140 (by first | exact gdecS _ | rfl) (by decide) rfl ?_
            refine V_goto (tgt := 97) dX1_join_143 (by decide) ?_
            have e2 : W.length + j = (rdK L c L.length ++ bhK L2 (L2.length - m)).length := by rw [hbk, ← List.append_assoc, hW, List.length_append, List.length_replicate, e]
            rw [e2]
            refine ih h2 _ _ (by omega) y0 y1 y3 (fun i hi => ?_) hF2
            rw [← e2] at hi
            rw [hbk, ← List.append_assoc, hW]; exact yw i hi
          · skip
            refine V_aloadn0 dX1_join_117 ?_
            refine V_getR dX1_join_118 fX1_24 (by first | assumption | rfl) (by first | decide | omega) (by first | assumption | rfl) ?_
            refine V_getR dX1_join_121 fX1_105 (by first | assumption | rfl) (by first | decide | omega) (by first | assumption | rfl) ?_
            refine V_iloadw4 dX1_join_124 ?_
            refine V_iloadw5 dX1_join_126 ?_
            refine V_iconst (v := nI 1) dX1_join_128 (by decide) ?_
            first | refine U_iadd dX1_join_129 (by with_reducible rfl) (by with_reducible rfl) ?_ | refine V_iadd dX1_join_129 ?_
            refine U_iast dX1_join_130 (by with_reducible rfl) (by first | assumption | rfl) (by first | decide | omega) (by omega) ?_
            refine V_iinc4 dX1_join_131 (by first | exact ginc1 _ | rfl) (by decide) rfl ?_
            refine V_iinc6 dX1_join_134 (by first | exact ginc1 _ | rfl) (by decide) rfl ?_
            refine V_goto (tgt := 105) dX1_join_137 (by decide) ?_
            refine ih2 _ (by omega) (j + 1) _ _ rfl (by omega) (by rw [gI_sI, if_neg (by omega)]; exact y0) (by rw [gI_sI, if_neg (by omega)]; exact y1) (by rw [gI_sI, if_neg (by omega)]; exact y3) (fun i hi => ?_) (fr_sI hF2 (by omega) (by omega))
            rw [gI_sI]
            by_cases ei : i = W.length + j
            · rw [if_pos ⟨rfl, ei⟩, ei, getD_app, if_neg (by omega), getD_rep (by omega)]
            · rw [if_neg (fun z => ei z.2)]; exact yw i (by omega)
      rw [gdecP]
      refine V_iloadw5 dX1_join_97 ?_
      refine V_if_lt (tgt := 146) dX1_join_99 (by decide) (fun c99 => ?_) (fun c99 => ?_)
      · skip
        exact absurd c99 (nI_pos (by omega))
      · skip
        refine V_iconst (v := nI 0) dX1_join_102 (by decide) ?_
        refine V_istorew6 dX1_join_103 (by decide) rfl ?_
        refine inner _ 0 h1 _ rfl (by omega) z0 z1 z3 (fun i hi => ?_) hF
        rw [getD_app, if_pos (by omega)]; exact zw i (by omega)
  have loop1 : ∀ m h1 v4, m ≤ L.length → gI h1 71 0 = nI 1 → gI h1 71 1 = nI (L.sum + L2.sum) → gI h1 71 3 = nI 0 → (∀ j, j < (rdK L c (L.length - m)).length → gI h1 72 j = nI ((rdK L c (L.length - m)).getD j 0)) → Fr1 h h1 71 74 → V Γ mX1_join d 124 124 h1 32 [some (.ref 67), some (.ref s), some (.ref s2), some (.int (nI (psum L m))), some (.int (nI (rdK L c (L.length - m)).length)), some (.int (nI m - nI 1)), v4] [] Q := by
    intro m
    induction m with
    | zero =>
      intro h1 v4 hm z0 z1 z3 zw hF
      rw [Nat.sub_zero] at zw ⊢
      have w0 : gI h1 s2 0 = nI L2.length := by rw [hF.1 s2 (by omega)]; exact b0
      refine V_iloadw5 dX1_join_32 ?_
      refine V_if_lt (tgt := 89) dX1_join_34 (by decide) (fun c34 => ?_) (fun c34 => ?_)
      · skip
        refine V_aloadn2 dX1_join_89 ?_
        refine V_getI dX1_join_90 fX1_75 (Or.inl rfl) (by first | assumption | rfl) (by first | decide | omega) (by first | assumption | rfl) ?_
        refine V_iconst (v := nI 1) dX1_join_93 (by decide) ?_
        refine V_isub dX1_join_94 ?_
        refine V_istorew5 dX1_join_95 (by decide) rfl ?_
        have hl := loop2 L2.length h1 (nI (psum L 0)) v4 (Nat.le_refl _) z0 z1 z3 (by rw [Nat.sub_self, bhK, List.append_nil]; exact zw) hF
        rw [Nat.sub_self, bhK, List.append_nil] at hl
        exact hl
      · skip
        exact absurd ((gdec_lt (by omega)).mpr rfl) c34
    | succ m ih =>
      intro h1 v4 hm z0 z1 z3 zw hF
      have r2' : gR h1 67 2 = some 70 := by rw [hF.2.2]; exact r2
      have r7' : gR h1 67 6 = some 71 := by rw [hF.2.2]; exact r7
      have lr' : gR h1 s 2 = some (s + 1) := by rw [hF.2.2]; exact lr
      have tr' : gR h1 71 2 = some 72 := by rw [hF.2.2]; exact tr
      have w1 : gI h1 (s + 1) m = nI (L.getD m 0) := by rw [hF.1 (s + 1) (by omega)]; exact a2 m (by omega)
      have hps := psum_succ (L := L) (r := m) (by omega)
      have hpl := psum_le L (m + 1)
      have hrow := rdK_len hc (L.length - (m + 1)) (by omega)
      rw [show L.length - (L.length - (m + 1)) = m + 1 by omega] at hrow
      have hrk : rdK L c (L.length - m) = rdK L c (L.length - (m + 1)) ++ segF c (psum L m) (L.getD m 0) := by
        rw [show L.length - m = L.length - (m + 1) + 1 by omega, rdK, show L.length - 1 - (L.length - (m + 1)) = m by omega]
      have hlen2 : (rdK L c (L.length - m)).length = (rdK L c (L.length - (m + 1))).length + L.getD m 0 := by rw [hrk, List.length_append, segF_len (by omega)]
      have h5 := a5 m
      generalize hh2 : sIa h1 72 (va_cpy (gI h1 70) (gI h1 72) (psum L m) (rdK L c (L.length - (m + 1))).length (L.getD m 0)) = h2
      have f2 : Fr1 h1 h2 72 73 := by rw [← hh2]; exact ⟨fun a ha => by rw [gI_sIa, if_neg (by omega)], rfl, rfl⟩
      have lr'' : gR h2 s 2 = some (s + 1) := by rw [f2.2.2]; exact lr'
      have w2 : gI h2 (s + 1) m = nI (L.getD m 0) := by rw [f2.1 (s + 1) (by omega)]; exact w1
      rw [gdecP]
      refine V_iloadw5 dX1_join_32 ?_
      refine V_if_lt (tgt := 89) dX1_join_34 (by decide) (fun c34 => ?_) (fun c34 => ?_)
      · skip
        exact absurd c34 (nI_pos (by omega))
      · skip
        refine V_iloadn3 dX1_join_37 ?_
        refine V_aloadn1 dX1_join_38 ?_
        refine V_getR dX1_join_39 fX1_102 (by first | assumption | rfl) (by first | decide | omega) (by first | assumption | rfl) ?_
        refine V_iloadw5 dX1_join_42 ?_
        refine U_iald dX1_join_44 (by with_reducible rfl) (by first | assumption | rfl) (by first | decide | omega) (by omega) (by first | assumption | rfl) ?_
        first | refine U_isub dX1_join_45 (by with_reducible rfl) (by with_reducible rfl) (by omega) ?_ | refine V_isub dX1_join_45 ?_
        rw [show psum L (m + 1) - L.getD m 0 = psum L m by omega]
        refine V_istoren3 dX1_join_46 (by decide) rfl ?_
        refine V_aloadn0 dX1_join_47 ?_
        refine V_getR dX1_join_48 fX1_18 (by first | assumption | rfl) (by first | decide | omega) (by first | assumption | rfl) ?_
        refine V_iloadn3 dX1_join_51 ?_
        refine V_aloadn0 dX1_join_52 ?_
        refine V_getR dX1_join_53 fX1_24 (by first | assumption | rfl) (by first | decide | omega) (by first | assumption | rfl) ?_
        refine V_getR dX1_join_56 fX1_105 (by first | assumption | rfl) (by first | decide | omega) (by first | assumption | rfl) ?_
        refine V_iloadw4 dX1_join_59 ?_
        refine V_aloadn1 dX1_join_61 ?_
        refine V_getR dX1_join_62 fX1_102 (by first | assumption | rfl) (by first | decide | omega) (by first | assumption | rfl) ?_
        refine V_iloadw5 dX1_join_65 ?_
        refine U_iald dX1_join_67 (by with_reducible rfl) (by first | assumption | rfl) (by first | decide | omega) (by omega) (by first | assumption | rfl) ?_
        first | refine U_copyI dX1_join_68 (by with_reducible rfl) (by with_reducible rfl) (by with_reducible rfl) lX1_46 (by first | assumption | rfl) (by first | assumption | rfl) (by first | decide | omega) (by first | decide | omega) (by omega) (by omega) (Nat.le_of_ble_eq_true rfl) (by omega) ?_ | refine U_copyL dX1_join_68 (by with_reducible rfl) (by with_reducible rfl) (by with_reducible rfl) lX1_46 (by first | assumption | rfl) (by first | assumption | rfl) (by first | decide | omega) (by first | decide | omega) (by omega) (by omega) (Nat.le_of_ble_eq_true rfl) (by omega) ?_
        rw [hh2]
        refine V_iloadw4 dX1_join_71 ?_
        refine V_aloadn1 dX1_join_73 ?_
        refine V_getR dX1_join_74 fX1_102 (by first | assumption | rfl) (by first | decide | omega) (by first | assumption | rfl) ?_
        refine V_iloadw5 dX1_join_77 ?_
        refine U_iald dX1_join_79 (by with_reducible rfl) (by first | assumption | rfl) (by first | decide | omega) (by omega) (by first | assumption | rfl) ?_
        first | refine U_iadd dX1_join_80 (by with_reducible rfl) (by with_reducible rfl) ?_ | refine V_iadd dX1_join_80 ?_
        refine V_istorew4 dX1_join_81 (by decide) rfl ?_
        refine V_iinc5 dX1_join_83 (by first | exact gdecS _ | rfl) (by decide) rfl ?_
        refine V_goto (tgt := 32) dX1_join_86 (by decide) ?_
        rw [← hlen2]
        refine ih h2 _ (by omega) (by rw [f2.1 71 (by omega)]; exact z0) (by rw [f2.1 71 (by omega)]; exact z1) (by rw [f2.1 71 (by omega)]; exact z3) (fun j hj => ?_) (hF.tr (f2.wd (by omega) (by omega)))
        rw [← hh2, gI_sIa, if_pos rfl, hrk, getD_app]
        by_cases e : j < (rdK L c (L.length - (m + 1))).length
        · rw [if_pos e, pk_cpy_out (Or.inl e)]; exact zw j e
        · rw [if_neg e, pk_cpy_in (by omega) (by omega), segF_get (by omega), hF.1 70 (by omega)]; exact hcI _ (by omega)
  have e0 : ∀ a, a ≠ 71 → gI (sI (sI (sI h 71 0 (nI 1)) 71 1 (nI (L.sum + L2.sum))) 71 3 (nI 0)) a = gI h a := fun a ha => by
    funext b
    rw [gI_sI, if_neg (by omega), gI_sI, if_neg (by omega), gI_sI, if_neg (by omega)]
  refine V_aloadn0 dX1_join_0 ?_
  refine V_getR dX1_join_1 fX1_24 (by first | assumption | rfl) (by first | decide | omega) (by first | assumption | rfl) ?_
  refine V_aloadn1 dX1_join_4 ?_
  refine V_getI dX1_join_5 fX1_68 (Or.inl rfl) (by first | assumption | rfl) (by first | decide | omega) (by first | assumption | rfl) ?_
  refine V_aloadn2 dX1_join_8 ?_
  refine V_getI dX1_join_9 fX1_68 (Or.inl rfl) (by first | assumption | rfl) (by first | decide | omega) (by first | assumption | rfl) ?_
  first | refine U_iadd dX1_join_12 (by with_reducible rfl) (by with_reducible rfl) ?_ | refine V_iadd dX1_join_12 ?_
  refine V_callV1 (μ' := mX8_becomeWordOf) dX1_join_13 okX8_becomeWordOf lX1_98 rfl (by first | assumption | rfl) (by first | decide | omega) (Nat.le_of_ble_eq_true rfl) (Nat.le_of_ble_eq_true rfl) (by omega) ?_
  refine c_becomeWordOf hT ?_
  generalize hh1 : sI (sI (sI h 71 0 (nI 1)) 71 1 (nI (L.sum + L2.sum))) 71 3 (nI 0) = h1
  have f1 : Fr1 h h1 71 74 := by rw [← hh1]; exact fr_sI (fr_sI (fr_sI Fr1.rf (by omega) (by omega)) (by omega) (by omega)) (by omega) (by omega)
  have w0 : gI h1 s 0 = nI L.length := by rw [f1.1 s (by omega)]; exact a0
  have w1 : gI h1 s 1 = nI L.sum := by rw [f1.1 s (by omega)]; exact a1
  have z : gI h1 71 0 = nI 1 ∧ gI h1 71 1 = nI (L.sum + L2.sum) ∧ gI h1 71 3 = nI 0 := by rw [← hh1]; simp [gI_sI]
  dsimp only [gPush]
  refine V_aloadn1 dX1_join_16 ?_
  refine V_getI dX1_join_17 fX1_68 (Or.inl rfl) (by first | assumption | rfl) (by first | decide | omega) (by first | assumption | rfl) ?_
  refine V_istoren3 dX1_join_20 (by decide) rfl ?_
  refine V_iconst (v := nI 0) dX1_join_21 (by decide) ?_
  refine V_istorew4 dX1_join_22 (by decide) rfl ?_
  refine V_aloadn1 dX1_join_24 ?_
  refine V_getI dX1_join_25 fX1_75 (Or.inl rfl) (by first | assumption | rfl) (by first | decide | omega) (by first | assumption | rfl) ?_
  refine V_iconst (v := nI 1) dX1_join_28 (by decide) ?_
  refine V_isub dX1_join_29 ?_
  refine V_istorew5 dX1_join_30 (by decide) rfl ?_
  have hl := loop1 L.length h1 none (Nat.le_refl _) z.1 z.2.1 z.2.2 (fun j hj => by rw [Nat.sub_self] at hj; exact absurd hj (Nat.not_lt_zero _)) f1
  rw [Nat.sub_self, psum_all (Nat.le_refl _)] at hl
  exact hl
end C25
