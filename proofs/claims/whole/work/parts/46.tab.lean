/-! ===== tableaux: rows that don't fall, columns that rise ===== -/
def TbP (n : Nat) : Nat → List (List Nat) → Prop
  | _, [] => True
  | b, r :: P => r ≠ [] ∧ r.Pairwise (· ≤ ·) ∧ (∀ x ∈ r, b < x ∧ x ≤ n) ∧ TbP n (r.headD 0) P
theorem TbP_mono {n : Nat} {b b' : Nat} : ∀ P : List (List Nat), TbP n b P → b' ≤ b → TbP n b' P
  | [], _, _ => trivial
  | _ :: _, h, hb => ⟨h.1, h.2.1, fun x hx => ⟨by have := (h.2.2.1 x hx).1; omega, (h.2.2.1 x hx).2⟩, h.2.2.2⟩
theorem fg_all : ∀ (r : List Nat) (x : Nat), fg r x = r.length → ∀ y ∈ r, y ≤ x
  | [], x, _, y, hy => by simp at hy
  | a :: l, x, h, y, hy => by
    unfold fg at h
    by_cases c : x < a
    · rw [if_pos c] at h; simp at h
    · rw [if_neg c] at h
      rcases List.mem_cons.mp hy with rfl | hy
      · omega
      · exact fg_all l x (by simpa using h) y hy
theorem fg_set : ∀ (r : List Nat) (x : Nat), r.Pairwise (· ≤ ·) → fg r x < r.length → (r.set (fg r x) x).Pairwise (· ≤ ·) ∧ x < r.getD (fg r x) 0 ∧ (∀ y ∈ r.set (fg r x) x, y ∈ r ∨ y = x) ∧ (r.set (fg r x) x).headD 0 ≤ x ∧ (r.set (fg r x) x).headD 0 ≤ r.headD 0
  | [], x, _, h => by simp at h
  | a :: l, x, hs, h => by
    obtain ⟨ha, hl⟩ := List.pairwise_cons.mp hs
    unfold fg at h ⊢
    by_cases c : x < a
    · rw [if_pos c]
      refine ⟨?_, ?_, ?_, ?_, ?_⟩
      · rw [List.set_cons_zero]
        exact List.pairwise_cons.mpr ⟨fun y hy => by have := ha y hy; omega, hl⟩
      · exact c
      · intro y hy
        rw [List.set_cons_zero] at hy
        rcases List.mem_cons.mp hy with rfl | hy
        · exact Or.inr rfl
        · exact Or.inl (List.mem_cons_of_mem _ hy)
      · exact Nat.le_refl _
      · exact Nat.le_of_lt c
    · rw [if_neg c] at h ⊢
      obtain ⟨i1, i2, i3, i4, i5⟩ := fg_set l x hl (by simpa using h)
      refine ⟨?_, ?_, ?_, ?_, ?_⟩
      · rw [List.set_cons_succ]
        refine List.pairwise_cons.mpr ⟨fun y hy => ?_, i1⟩
        rcases i3 y hy with h1 | h1
        · exact ha y h1
        · omega
      · rw [List.getD_cons_succ]; exact i2
      · intro y hy
        rw [List.set_cons_succ] at hy
        rcases List.mem_cons.mp hy with rfl | hy
        · exact Or.inl List.mem_cons_self
        · rcases i3 y hy with h1 | h1
          · exact Or.inl (List.mem_cons_of_mem _ h1)
          · exact Or.inr h1
      · rw [List.set_cons_succ]
        show a ≤ x
        omega
      · rw [List.set_cons_succ]
        exact Nat.le_refl _
theorem headD_app {r : List Nat} {x : Nat} (h : r ≠ []) : (r ++ [x]).headD 0 = r.headD 0 := by
  cases r with
  | nil => exact absurd rfl h
  | cons a l => rfl
theorem snoc_ok {n b x : Nat} {r : List Nat} (h1 : r.Pairwise (· ≤ ·)) (h2 : ∀ y ∈ r, b < y ∧ y ≤ n) (hx : ∀ y ∈ r, y ≤ x) (hb : b < x) (hn : x ≤ n) : (r ++ [x]).Pairwise (· ≤ ·) ∧ ∀ y ∈ r ++ [x], b < y ∧ y ≤ n := by
  refine ⟨List.pairwise_append.mpr ⟨h1, by simp, fun y hy z hz => ?_⟩, fun y hy => ?_⟩
  · simp at hz; rw [hz]; exact hx y hy
  · rcases List.mem_append.mp hy with hy | hy
    · exact h2 y hy
    · simp at hy; rw [hy]; exact ⟨hb, hn⟩
theorem TbP_ins {n : Nat} : ∀ (P : List (List Nat)) (b x : Nat), TbP n b P → b < x → x ≤ n → TbP n b (ins P x)
  | [], b, x, _, hb, hn => ⟨by simp, by simp, fun y hy => by simp at hy; rw [hy]; exact ⟨hb, hn⟩, trivial⟩
  | r :: P, b, x, h, hb, hn => by
    obtain ⟨h1, h2, h3, h4⟩ := h
    unfold ins
    by_cases c : fg r x = r.length
    · rw [if_pos c]
      obtain ⟨s1, s2⟩ := snoc_ok h2 h3 (fg_all r x c) hb hn
      exact ⟨by simp, s1, s2, by rw [headD_app h1]; exact h4⟩
    · rw [if_neg c]
      have hlt : fg r x < r.length := by have := fg_le r x; omega
      obtain ⟨i1, i2, i3, i4, i5⟩ := fg_set r x h2 hlt
      have hy : r.getD (fg r x) 0 ∈ r := by
        rw [List.getD_eq_getElem?_getD, List.getElem?_eq_getElem hlt]
        exact List.getElem_mem _
      refine ⟨fun q => h1 (by simpa using congrArg List.length q), i1, fun y hy => ?_, ?_⟩
      · rcases i3 y hy with q | q
        · exact h3 y q
        · rw [q]; exact ⟨hb, hn⟩
      · exact TbP_ins P _ _ (TbP_mono P h4 i5) (by omega) (h3 _ hy).2
theorem TbP_insW {n : Nat} {w : List Nat} (hw : LtW n w) : ∀ k, k ≤ w.length → TbP n 0 (insW w k)
  | 0, _ => trivial
  | k + 1, hk => by
    have h1 := hw k (by omega)
    exact TbP_ins _ 0 _ (TbP_insW hw k (by omega)) (by omega) h1.2
theorem TbP_len {n : Nat} : ∀ (P : List (List Nat)) (b : Nat), TbP n b P → b ≤ n → P.length + b ≤ n
  | [], b, _, hb => by simp; exact hb
  | r :: P, b, h, hb => by
    obtain ⟨h1, h2, h3, h4⟩ := h
    cases r with
    | nil => exact absurd rfl h1
    | cons a l =>
      have h5 := h3 a List.mem_cons_self
      have h6 := TbP_len P a h4 h5.2
      rw [List.length_cons]
      omega
theorem TbP_ne {n : Nat} : ∀ (P : List (List Nat)) (b : Nat), TbP n b P → neL P
  | [], _, _ => fun r hr => by simp at hr
  | r :: P, b, h => fun q hq => by
    rcases List.mem_cons.mp hq with rfl | hq
    · exact List.length_pos_iff.mpr h.1
    · exact TbP_ne P _ h.2.2.2 q hq
def bdR (P : List (List Nat)) (b r : Nat) : Nat := if r = 0 then b else (P.getD (r - 1) []).headD 0
theorem TbP_add {n : Nat} : ∀ (P : List (List Nat)) (b r x : Nat), TbP n b P → r ≤ P.length → bdR P b r < x → x ≤ n → (∀ y ∈ P.getD r [], y ≤ x) → TbP n b (addR P r x)
  | [], b, r, x, _, hr, hb, hn, _ => by
    have e : r = 0 := by simpa using hr
    subst e
    have hb2 : b < x := hb
    exact ⟨by simp, by simp, fun y hy => by simp at hy; rw [hy]; exact ⟨hb2, hn⟩, trivial⟩
  | a :: l, b, 0, x, h, hr, hb, hn, hy => by
    obtain ⟨h1, h2, h3, h4⟩ := h
    have hb2 : b < x := hb
    obtain ⟨s1, s2⟩ := snoc_ok h2 h3 hy hb2 hn
    have e : addR (a :: l) 0 x = (a ++ [x]) :: l := by unfold addR; rw [if_pos (by simp)]; rfl
    rw [e]
    exact ⟨by simp, s1, s2, by rw [headD_app h1]; exact h4⟩
  | a :: l, b, r + 1, x, h, hr, hb, hn, hy => by
    obtain ⟨h1, h2, h3, h4⟩ := h
    have e : addR (a :: l) (r + 1) x = a :: addR l r x := by
      unfold addR
      by_cases c : r < l.length
      · rw [if_pos (by simpa using c), if_pos c]; rfl
      · rw [if_neg (by simpa using c), if_neg c]; rfl
    rw [e]
    refine ⟨h1, h2, h3, TbP_add l _ r x h4 (by simpa using hr) ?_ hn (by simpa using hy)⟩
    unfold bdR at hb ⊢
    rw [if_neg (by omega), show r + 1 - 1 = r by omega] at hb
    by_cases c : r = 0
    · subst c
      exact hb
    · rw [if_neg c]
      obtain ⟨q, rfl⟩ : ∃ q, r = q + 1 := ⟨r - 1, by omega⟩
      rw [List.getD_cons_succ] at hb
      exact hb
theorem pw_get {r : List Nat} (h : r.Pairwise (· ≤ ·)) {i j : Nat} (hij : i ≤ j) (hj : j < r.length) : r.getD i 0 ≤ r.getD j 0 := by
  rw [List.getD_eq_getElem?_getD, List.getD_eq_getElem?_getD, List.getElem?_eq_getElem (by omega : i < r.length), List.getElem?_eq_getElem hj]
  by_cases e : i = j
  · subst e; exact Nat.le_refl _
  · exact List.pairwise_iff_getElem.mp h i j (by omega) hj (by omega)
theorem headD_get (r : List Nat) : r.headD 0 = r.getD 0 0 := by cases r <;> rfl
theorem TbP_row {n : Nat} : ∀ (P : List (List Nat)) (b r : Nat), TbP n b P → (P.getD r []).Pairwise (· ≤ ·)
  | [], _, r, _ => by simp
  | a :: l, b, 0, h => h.2.1
  | a :: l, b, r + 1, h => by rw [List.getD_cons_succ]; exact TbP_row l _ r h.2.2.2
theorem TbP_tk {n : Nat} {P : List (List Nat)} {r x : Nat} (h : TbP n 0 P) (hr : r ≤ P.length) (hk : tkB P r x = true) (h1 : 1 ≤ x) (hn : x ≤ n) : TbP n 0 (addR P r x) := by
  unfold tkB at hk
  simp only [Bool.and_eq_true, Bool.or_eq_true, decide_eq_true_eq] at hk
  obtain ⟨k1, k2, k3⟩ := hk
  refine TbP_add P 0 r x h hr ?_ hn (fun y hy => ?_)
  · unfold bdR
    rcases k3 with k3 | k3
    · rw [if_pos k3]; omega
    · by_cases e : r = 0
      · rw [if_pos e]; omega
      · rw [if_neg e, headD_get]
        have := pw_get (TbP_row P 0 (r - 1) h) (Nat.zero_le (P.getD r []).length) k3.1
        omega
  · obtain ⟨p, hp, rfl⟩ := List.getElem_of_mem hy
    have h2 := pw_get (TbP_row P 0 r h) (i := p) (j := (P.getD r []).length - 1) (by omega) (by omega)
    rw [List.getD_eq_getElem?_getD, List.getElem?_eq_getElem hp] at h2
    have h3 : (P.getD r [])[p] ≤ (P.getD r []).getD ((P.getD r []).length - 1) 0 := h2
    rcases k2 with k2 | k2
    · omega
    · omega
theorem rn_one : ∀ r : List Nat, r ≠ [] → r.Pairwise (· ≤ ·) → rnL r = [r.length]
  | [], h, _ => absurd rfl h
  | [_], _, _ => rfl
  | a :: b :: r, _, hs => by
    obtain ⟨ha, hl⟩ := List.pairwise_cons.mp hs
    have ih := rn_one (b :: r) (by simp) hl
    unfold rnL
    rw [if_pos (ha b List.mem_cons_self), ih]
    rfl
theorem rn_app : ∀ (u r : List Nat), r ≠ [] → r.Pairwise (· ≤ ·) → (u = [] ∨ r.headD 0 < u.getD (u.length - 1) 0) → rnL (u ++ r) = rnL u ++ [r.length]
  | [], r, h1, h2, _ => by rw [List.nil_append, rn_one r h1 h2]; rfl
  | [a], r, h1, h2, h3 => by
    cases r with
    | nil => exact absurd rfl h1
    | cons b l =>
      rcases h3 with h3 | h3
      · cases h3
      · have h4 : b < a := h3
        show rnL (a :: b :: l) = _
        unfold rnL
        rw [if_neg (by omega), rn_one (b :: l) (by simp) h2]
        rfl
  | a :: b :: u, r, h1, h2, h3 => by
    have ih := rn_app (b :: u) r h1 h2 (Or.inr (by
      rcases h3 with h3 | h3
      · cases h3
      · simpa using h3))
    show rnL (a :: b :: (u ++ r)) = _
    rw [List.cons_append] at ih
    conv => lhs; unfold rnL
    conv => rhs; unfold rnL
    rw [ih]
    obtain ⟨c, cs, e⟩ := rnL_ne b u
    rw [e]
    by_cases hc : a ≤ b
    · rw [if_pos hc, if_pos hc]; rfl
    · rw [if_neg hc, if_neg hc]; rfl
theorem rdL_last {P : List (List Nat)} {r : List Nat} (h : r ≠ []) : (rdL (r :: P)).getD ((rdL (r :: P)).length - 1) 0 = r.getD (r.length - 1) 0 := by
  have hp := List.length_pos_iff.mpr h
  rw [rdL_cons, getD_app, List.length_append, if_neg (by omega)]
  congr 1
  omega
theorem rn_rdL {n : Nat} : ∀ (P : List (List Nat)) (b : Nat), TbP n b P → (rnL (rdL P)).reverse = P.map List.length
  | [], _, _ => rfl
  | r :: P, b, h => by
    obtain ⟨h1, h2, h3, h4⟩ := h
    have ih := rn_rdL P _ h4
    have e : rnL (rdL P ++ r) = rnL (rdL P) ++ [r.length] := by
      refine rn_app _ _ h1 h2 ?_
      cases P with
      | nil => left; rfl
      | cons q P =>
        right
        obtain ⟨g1, g2, g3, -⟩ := h4
        rw [rdL_last g1]
        have hp := List.length_pos_iff.mpr g1
        have := (g3 (q.getD (q.length - 1) 0) (by
          rw [List.getD_eq_getElem?_getD, List.getElem?_eq_getElem (by omega : q.length - 1 < q.length)]
          exact List.getElem_mem _)).1
        exact this
    rw [rdL_cons, e, List.reverse_append, ih]
    rfl
theorem rdL_lt {n : Nat} : ∀ (P : List (List Nat)) (b : Nat), TbP n b P → ∀ x ∈ rdL P, 1 ≤ x ∧ x ≤ n
  | [], _, _, x, hx => by simp [rdL] at hx
  | r :: P, b, h, x, hx => by
    obtain ⟨h1, h2, h3, h4⟩ := h
    rw [rdL_cons] at hx
    rcases List.mem_append.mp hx with hx | hx
    · exact rdL_lt P _ h4 x hx
    · have := h3 x hx; omega
theorem LtW_mem {n : Nat} {w : List Nat} (h : ∀ x ∈ w, 1 ≤ x ∧ x ≤ n) : LtW n w := fun p hp => by
  rw [List.getD_eq_getElem?_getD, List.getElem?_eq_getElem hp]
  exact h _ (List.getElem_mem hp)
theorem WT_P {n : Nat} {P : List (List Nat)} (h : TbP n 0 P) (hs : szL P ≤ 6) : WT n (2, rdL P, P.map List.length) :=
  WT_tab (by rw [rdL_len]; exact hs) (LtW_mem (rdL_lt P 0 h)) (rn_rdL P 0 h).symm
theorem WT_ins {n : Nat} {w : List Nat} (hw : LtW n w) (hl : w.length ≤ 6) : WT n (2, rdL (insW w w.length), (insW w w.length).map List.length) :=
  WT_P (TbP_insW hw _ (Nat.le_refl _)) (by rw [insW_sz]; exact hl)
/-- what the text tells is a tableau -/
theorem TbP_tab {B : List Nat} {n : Nat} : ∀ (f a row : Nat) (P : List (List Nat)), row ≤ P.length → TbP n 0 P → szL P ≤ 6 → TbP n 0 (tabF B n f a row P).2.2 ∧ szL (tabF B n f a row P).2.2 ≤ 6
  | 0, a, row, P, _, h, hs => ⟨h, hs⟩
  | f + 1, a, row, P, hr, h, hs => by
    unfold tabF
    by_cases c1 : skp B a < B.length
    · rw [if_pos c1]
      by_cases c2 : B.getD (skp B a) 0 = 47 ∧ row < P.length
      · rw [if_pos c2]
        exact TbP_tab f _ _ P (by omega) h hs
      · rw [if_neg c2]
        by_cases c3 : (49 ≤ B.getD (skp B a) 0 ∧ B.getD (skp B a) 0 ≤ 48 + n) ∧ tkB P row (B.getD (skp B a) 0 - 48) = true
        · rw [if_pos c3]
          have ha := addR_add (P := P) (r := row) (x := B.getD (skp B a) 0 - 48) hr
          have hz := tkB_sz c3.2
          exact TbP_tab f _ _ _ (by rw [ha.2.1]; omega) (TbP_tk h hr c3.2 (by omega) (by omega)) (by rw [ha.2.2]; omega)
        · rw [if_neg c3]
          exact ⟨h, hs⟩
    · rw [if_neg c1]
      exact ⟨h, hs⟩
theorem LtW_tw {n : Nat} {w : List Nat} (hw : LtW n w) : LtW n (twF w n) := fun p hp => by
  rw [twF_len] at hp
  rw [twF_get hp]
  have := hw (w.length - 1 - p) (by omega)
  omega
theorem rIt_ok {n i : Nat} {w : List Nat} (hl : w.length ≤ 6) (hw : LtW n w) (hi : 1 ≤ i) (hin : i < n) : ∀ k, (rIt w i k).length = w.length ∧ LtW n (rIt w i k) ∧ rnL (rIt w i k) = rnL w
  | 0 => ⟨rfl, hw, rfl⟩
  | k + 1 => by
    obtain ⟨h1, h2, h3⟩ := rIt_ok hl hw hi hin k
    exact ⟨by rw [rIt, raiseW_len, h1], LtW_raise h2 hi (by omega), by rw [rIt, rn_raise (by omega) hi, h3]⟩
theorem lIt_ok {n i : Nat} {w : List Nat} (hl : w.length ≤ 6) (hw : LtW n w) (hi : 1 ≤ i) (hin : i < n) : ∀ k, (lIt w i k).length = w.length ∧ LtW n (lIt w i k) ∧ rnL (lIt w i k) = rnL w
  | 0 => ⟨rfl, hw, rfl⟩
  | k + 1 => by
    obtain ⟨h1, h2, h3⟩ := lIt_ok hl hw hi hin k
    exact ⟨by rw [lIt, lowerW_len, h1], LtW_lower h2 (by omega), by rw [lIt, rn_lower (by omega) hi, h3]⟩
theorem mvW_ok {n i act : Nat} {w : List Nat} (hl : w.length ≤ 6) (hw : LtW n w) (hi : 1 ≤ i) (hin : i < n) : (mvW act w i).length = w.length ∧ LtW n (mvW act w i) ∧ rnL (mvW act w i) = rnL w := by
  unfold mvW
  split
  · exact rIt_ok hl hw hi hin _
  · split
    · exact lIt_ok hl hw hi hin _
    · split
      · obtain ⟨h1, h2, h3⟩ := lIt_ok hl hw hi hin (lowC w i - highC w i)
        obtain ⟨g1, g2, g3⟩ := rIt_ok (w := lIt w i (lowC w i - highC w i)) (by omega) h2 hi hin (highC w i - lowC w i)
        exact ⟨by rw [g1, h1], g2, by rw [g3, h3]⟩
      · exact ⟨rfl, hw, rfl⟩
theorem WT_move {n kd : Nat} {w L w' : List Nat} (hW : WT n (kd, w, L)) (hz : kd ≠ 0) (h1 : w'.length = w.length) (h2 : LtW n w') (h3 : rnL w' = rnL w) : WT n (kd, w', L) :=
  ⟨hW.1, by show w'.length ≤ 6; rw [h1]; exact hW.2.1, h2, fun q => absurd q hz, hW.2.2.2.2.1, fun q => by show L = (rnL w').reverse; rw [h3]; exact hW.2.2.2.2.2 q⟩
theorem WT_pf {n act i kd : Nat} {w L : List Nat} (hW : WT n (kd, w, L)) (hz : kd ≠ 0) (hi : act ≠ 5 → 1 ≤ i ∧ i < n) : WT n (kd, (pfW act kd w L i n).1, (pfW act kd w L i n).2) := by
  have hl : w.length ≤ 6 := hW.2.1
  have hw : LtW n w := hW.2.2.1
  unfold pfW
  by_cases a0 : act = 0
  · rw [if_pos a0]
    obtain ⟨i1, i2⟩ := hi (by omega)
    exact WT_move hW hz (raiseW_len w i) (LtW_raise hw i1 (by omega)) (rn_raise hl i1)
  rw [if_neg a0]
  by_cases a1 : act = 1
  · rw [if_pos a1]
    obtain ⟨i1, i2⟩ := hi (by omega)
    exact WT_move hW hz (lowerW_len w i) (LtW_lower hw i2) (rn_lower hl i1)
  rw [if_neg a1]
  by_cases a5 : act = 5
  · rw [if_pos a5]
    unfold turnW
    by_cases k2 : kd = 2
    · subst k2
      rw [if_pos rfl]
      have := WT_ins (LtW_tw hw) (by rw [twF_len]; exact hl)
      rw [twF_len] at this
      exact this
    · rw [if_neg k2]
      refine ⟨hW.1, by show (twF w n).length ≤ 6; rw [twF_len]; exact hl, LtW_tw hw, fun q => absurd q hz, hW.2.2.2.2.1, fun q => absurd q k2⟩
  · rw [if_neg a5]
    obtain ⟨i1, i2⟩ := hi a5
    obtain ⟨m1, m2, m3⟩ := mvW_ok (act := act) hl hw i1 i2
    exact WT_move hW hz m1 m2 m3
