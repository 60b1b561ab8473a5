/-! ===== raising and lowering see three kinds of letters alone: i, i + 1, others ===== -/
def k3 (i a : Nat) : Nat := if a = i then 1 else if a = i + 1 then 2 else 0
theorem k3_1 (i a : Nat) : k3 i a = 1 ↔ a = i := by
  unfold k3
  by_cases h : a = i
  · simp [h]
  · by_cases h2 : a = i + 1 <;> simp [h, h2]
theorem k3_2 (i a : Nat) : k3 i a = 2 ↔ a = i + 1 := by
  unfold k3
  by_cases h : a = i
  · subst h; simp
  · by_cases h2 : a = i + 1 <;> simp [h, h2]
theorem k3_get {i : Nat} (hi : 1 ≤ i) (w : List Nat) (p : Nat) : (w.map (k3 i)).getD p 0 = k3 i (w.getD p 0) := by
  rw [List.getD_eq_getElem?_getD, List.getD_eq_getElem?_getD, List.getElem?_map]
  cases w[p]? with
  | some a => rfl
  | none =>
    show 0 = k3 i 0
    unfold k3
    rw [if_neg (by omega), if_neg (by omega)]
theorem lkF_k3 {i : Nat} (hi : 1 ≤ i) (w : List Nat) : ∀ p, lkF (w.map (k3 i)) 1 p = lkF w i p
  | 0 => rfl
  | p + 1 => by
    have ih := lkF_k3 hi w p
    unfold lkF
    rw [ih, k3_get hi]
    simp only [k3_1, show (1 + 1) = 2 from rfl, k3_2]
theorem rkF_k3 {i : Nat} (hi : 1 ≤ i) (w : List Nat) (n : Nat) : ∀ q, rkF (w.map (k3 i)) 1 n q = rkF w i n q
  | 0 => rfl
  | q + 1 => by
    have ih := rkF_k3 hi w n q
    unfold rkF
    rw [ih, k3_get hi]
    simp only [k3_1, show (1 + 1) = 2 from rfl, k3_2]
theorem lowC_k3 {i : Nat} (hi : 1 ≤ i) (w : List Nat) : lowC (w.map (k3 i)) 1 = lowC w i := by unfold lowC; rw [lkF_k3 hi, List.length_map]
theorem llC_k3 {i : Nat} (hi : 1 ≤ i) (w : List Nat) : llC (w.map (k3 i)) 1 = llC w i := by unfold llC; rw [lkF_k3 hi, List.length_map]
theorem highC_k3 {i : Nat} (hi : 1 ≤ i) (w : List Nat) : highC (w.map (k3 i)) 1 = highC w i := by unfold highC; rw [rkF_k3 hi, List.length_map]
theorem fhC_k3 {i : Nat} (hi : 1 ≤ i) (w : List Nat) : fhC (w.map (k3 i)) 1 = fhC w i := by unfold fhC; rw [rkF_k3 hi, List.length_map]
/-- places of open ones, from the left: the first one first -/
def skF (w : List Nat) (i : Nat) : Nat → List Nat
  | 0 => []
  | p + 1 => if w.getD p 0 = i + 1 then skF w i p ++ [p] else if w.getD p 0 = i then (skF w i p).dropLast else skF w i p
theorem skF_k3 {i : Nat} (hi : 1 ≤ i) (w : List Nat) : ∀ p, skF (w.map (k3 i)) 1 p = skF w i p
  | 0 => rfl
  | p + 1 => by
    have ih := skF_k3 hi w p
    unfold skF
    rw [ih, k3_get hi]
    simp only [k3_1, show (1 + 1) = 2 from rfl, k3_2]
theorem skF_len (w : List Nat) (i : Nat) : ∀ p, (skF w i p).length = (lkF w i p).1
  | 0 => rfl
  | p + 1 => by
    have ih := skF_len w i p
    unfold skF lkF
    by_cases h1 : w.getD p 0 = i + 1
    · rw [if_pos h1, if_pos h1, List.length_append, ih]; rfl
    · rw [if_neg h1, if_neg h1]
      by_cases h2 : w.getD p 0 = i
      · rw [if_pos h2, List.length_dropLast, ih]
        by_cases h3 : 0 < (lkF w i p).1
        · rw [if_pos ⟨h2, h3⟩]
        · rw [if_neg (fun q => h3 q.2), if_pos h2]
          show _ = (lkF w i p).1
          omega
      · rw [if_neg h2, if_neg (fun q => h2 q.1), if_neg h2, ih]
/-- all words of m letters 0, 1, 2 -/
def w3 : Nat → List (List Nat)
  | 0 => [[]]
  | m + 1 => (w3 m).flatMap (fun v => [0 :: v, 1 :: v, 2 :: v])
theorem w3_mem : ∀ v : List Nat, (∀ x ∈ v, x ≤ 2) → v ∈ w3 v.length
  | [], _ => by simp [w3]
  | a :: v, h => by
    have ih := w3_mem v (fun x hx => h x (List.mem_cons_of_mem _ hx))
    have ha := h a List.mem_cons_self
    show a :: v ∈ w3 (v.length + 1)
    unfold w3
    rw [List.mem_flatMap]
    refine ⟨v, ih, ?_⟩
    match a, ha with
    | 0, _ => simp
    | 1, _ => simp
    | 2, _ => simp
    | k + 3, h => omega
def chR (v : List Nat) (f : Nat) (u : List Nat) : Bool := v.getD (f - 1) 0 == 2 && (llC u 1 == f && (highC u 1 + 1 == highC v 1 && (lowC u 1 == lowC v 1 + 1 && ((f == 1 || v.getD (f - 2) 0 != 2) && v.getD f 0 != 1))))
def chL (v : List Nat) (l : Nat) (u : List Nat) : Bool := v.getD (l - 1) 0 == 1 && (fhC u 1 == l && (highC u 1 == highC v 1 + 1 && (lowC u 1 + 1 == lowC v 1 && ((l == 1 || v.getD (l - 2) 0 != 2) && v.getD l 0 != 1))))
def ch3 (v : List Nat) : Bool := (skF v 1 v.length).length == highC v 1 && ((fhC v 1 == 0 || (skF v 1 v.length).getD 0 0 + 1 == fhC v 1) && ((fhC v 1 == 0 || chR v (fhC v 1) (v.set (fhC v 1 - 1) 1)) && (llC v 1 == 0 || chL v (llC v 1) (v.set (llC v 1 - 1) 2))))
theorem ch3_0 : (w3 0).all ch3 = true := by decide +kernel
theorem ch3_1 : (w3 1).all ch3 = true := by decide +kernel
theorem ch3_2 : (w3 2).all ch3 = true := by decide +kernel
theorem ch3_3 : (w3 3).all ch3 = true := by decide +kernel
theorem ch3_4 : (w3 4).all ch3 = true := by decide +kernel
theorem ch3_5 : (w3 5).all ch3 = true := by decide +kernel
theorem ch3_6 : (w3 6).all ch3 = true := by decide +kernel
theorem ch3_all {v : List Nat} (hl : v.length ≤ 6) (h : ∀ x ∈ v, x ≤ 2) : ch3 v = true := by
  have hm := w3_mem v h
  have key : (w3 v.length).all ch3 = true := by
    generalize v.length = m at hl
    match m, hl with
    | 0, _ => exact ch3_0
    | 1, _ => exact ch3_1
    | 2, _ => exact ch3_2
    | 3, _ => exact ch3_3
    | 4, _ => exact ch3_4
    | 5, _ => exact ch3_5
    | 6, _ => exact ch3_6
    | k + 7, h => omega
  exact List.all_eq_true.mp key v hm
theorem k3_le (i : Nat) (w : List Nat) : ∀ x ∈ w.map (k3 i), x ≤ 2 := by
  intro x hx
  obtain ⟨a, -, rfl⟩ := List.mem_map.mp hx
  unfold k3
  split
  · decide
  · split <;> decide
theorem k3_set1 (i k : Nat) (w : List Nat) : (w.map (k3 i)).set k 1 = (w.set k i).map (k3 i) := by
  rw [List.map_set, (k3_1 i i).mpr rfl]
theorem k3_set2 (i k : Nat) (w : List Nat) : (w.map (k3 i)).set k 2 = (w.set k (i + 1)).map (k3 i) := by
  rw [List.map_set, (k3_2 i (i + 1)).mpr rfl]
section W3
variable {w : List Nat} {i : Nat}
theorem sk_high (hl : w.length ≤ 6) (hi : 1 ≤ i) : (skF w i w.length).length = highC w i := by
  have h := ch3_all (v := w.map (k3 i)) (by rw [List.length_map]; exact hl) (k3_le i w)
  unfold ch3 at h
  rw [skF_k3 hi, highC_k3 hi, List.length_map] at h
  simp only [Bool.and_eq_true, beq_iff_eq] at h
  exact h.1
theorem sk_first (hl : w.length ≤ 6) (hi : 1 ≤ i) (hf : fhC w i ≠ 0) : (skF w i w.length).getD 0 0 + 1 = fhC w i := by
  have h := ch3_all (v := w.map (k3 i)) (by rw [List.length_map]; exact hl) (k3_le i w)
  unfold ch3 at h
  rw [skF_k3 hi, fhC_k3 hi, List.length_map] at h
  simp only [Bool.and_eq_true, Bool.or_eq_true, beq_iff_eq] at h
  rcases h.2.1 with h1 | h1
  · exact absurd h1 hf
  · exact h1
theorem fh_facts (hl : w.length ≤ 6) (hi : 1 ≤ i) (hf : fhC w i ≠ 0) : w.getD (fhC w i - 1) 0 = i + 1 ∧ llC (raiseW w i) i = fhC w i ∧ highC (raiseW w i) i + 1 = highC w i ∧ lowC (raiseW w i) i = lowC w i + 1 ∧ (fhC w i = 1 ∨ w.getD (fhC w i - 2) 0 ≠ i + 1) ∧ w.getD (fhC w i) 0 ≠ i := by
  have h := ch3_all (v := w.map (k3 i)) (by rw [List.length_map]; exact hl) (k3_le i w)
  unfold ch3 at h
  simp only [Bool.and_eq_true, Bool.or_eq_true, beq_iff_eq] at h
  have h1 := h.2.2.1
  rw [fhC_k3 hi, k3_set1] at h1
  rcases h1 with h1 | h1
  · exact absurd h1 hf
  unfold chR at h1
  rw [k3_get hi, k3_get hi, k3_get hi, llC_k3 hi, highC_k3 hi, highC_k3 hi, lowC_k3 hi, lowC_k3 hi] at h1
  simp only [Bool.and_eq_true, Bool.or_eq_true, beq_iff_eq, bne_iff_ne, ne_eq, k3_1, k3_2] at h1
  have e : raiseW w i = w.set (fhC w i - 1) i := by unfold raiseW; rw [if_neg hf]
  rw [e]
  exact ⟨h1.1, h1.2.1, h1.2.2.1, h1.2.2.2.1, h1.2.2.2.2.1, h1.2.2.2.2.2⟩
theorem ll_facts (hl : w.length ≤ 6) (hi : 1 ≤ i) (hf : llC w i ≠ 0) : w.getD (llC w i - 1) 0 = i ∧ fhC (lowerW w i) i = llC w i ∧ highC (lowerW w i) i = highC w i + 1 ∧ lowC (lowerW w i) i + 1 = lowC w i ∧ (llC w i = 1 ∨ w.getD (llC w i - 2) 0 ≠ i + 1) ∧ w.getD (llC w i) 0 ≠ i := by
  have h := ch3_all (v := w.map (k3 i)) (by rw [List.length_map]; exact hl) (k3_le i w)
  unfold ch3 at h
  simp only [Bool.and_eq_true, Bool.or_eq_true, beq_iff_eq] at h
  have h1 := h.2.2.2
  rw [llC_k3 hi, k3_set2] at h1
  rcases h1 with h1 | h1
  · exact absurd h1 hf
  unfold chL at h1
  rw [k3_get hi, k3_get hi, k3_get hi, fhC_k3 hi, highC_k3 hi, highC_k3 hi, lowC_k3 hi, lowC_k3 hi] at h1
  simp only [Bool.and_eq_true, Bool.or_eq_true, beq_iff_eq, bne_iff_ne, ne_eq, k3_1, k3_2] at h1
  have e : lowerW w i = w.set (llC w i - 1) (i + 1) := by unfold lowerW; rw [if_neg hf]
  rw [e]
  exact ⟨h1.1, h1.2.1, h1.2.2.1, h1.2.2.2.1, h1.2.2.2.2.1, h1.2.2.2.2.2⟩
theorem set_back {k x : Nat} (hk : k < w.length) (hx : w.getD k 0 = x) : w.set k x = w := by
  apply List.ext_getElem (by simp)
  intro p h1 h2
  rw [List.getElem_set]
  split
  · rename_i e
    subst e
    rw [List.getD_eq_getElem?_getD, List.getElem?_eq_getElem h2] at hx
    exact hx.symm
  · rfl
theorem lower_raise (hl : w.length ≤ 6) (hi : 1 ≤ i) (hf : fhC w i ≠ 0) : lowerW (raiseW w i) i = w := by
  obtain ⟨h1, h2, -⟩ := fh_facts hl hi hf
  have hle := fhC_le w i
  unfold lowerW
  rw [h2, if_neg hf]
  unfold raiseW
  rw [if_neg hf, List.set_set]
  exact set_back (by omega) h1
theorem raise_lower (hl : w.length ≤ 6) (hi : 1 ≤ i) (hf : llC w i ≠ 0) : raiseW (lowerW w i) i = w := by
  obtain ⟨h1, h2, -⟩ := ll_facts hl hi hf
  have hle := llC_le w i
  unfold raiseW
  rw [h2, if_neg hf]
  unfold lowerW
  rw [if_neg hf, List.set_set]
  exact set_back (by omega) h1
end W3
/-! ===== where rows end: runs that don't fall ===== -/
def rnL : List Nat → List Nat
  | [] => []
  | [_] => [1]
  | a :: b :: r => if a ≤ b then (match rnL (b :: r) with
    | [] => [1]
    | c :: cs => (c + 1) :: cs) else 1 :: rnL (b :: r)
theorem rnL_ne : ∀ (a : Nat) (r : List Nat), ∃ c cs, rnL (a :: r) = (c + 1) :: cs
  | a, [] => ⟨0, [], rfl⟩
  | a, b :: r => by
    obtain ⟨c, cs, e⟩ := rnL_ne b r
    unfold rnL
    by_cases h : a ≤ b
    · rw [if_pos h, e]; exact ⟨c + 1, cs, rfl⟩
    · rw [if_neg h]; exact ⟨0, _, rfl⟩
theorem rnL_sum : ∀ w : List Nat, (rnL w).sum = w.length
  | [] => rfl
  | [_] => rfl
  | a :: b :: r => by
    have ih := rnL_sum (b :: r)
    obtain ⟨c, cs, e⟩ := rnL_ne b r
    unfold rnL
    by_cases h : a ≤ b
    · rw [if_pos h]
      rw [e] at ih ⊢
      simp only [List.sum_cons, List.length_cons] at ih ⊢
      omega
    · rw [if_neg h]
      simp only [List.sum_cons, List.length_cons] at ih ⊢
      omega
theorem rnL_pos : ∀ w : List Nat, ∀ x ∈ rnL w, 0 < x
  | [], x, hx => by simp [rnL] at hx
  | [_], x, hx => by simp [rnL] at hx; omega
  | a :: b :: r, x, hx => by
    have ih := rnL_pos (b :: r)
    obtain ⟨c, cs, e⟩ := rnL_ne b r
    unfold rnL at hx
    by_cases h : a ≤ b
    · rw [if_pos h, e] at hx
      rcases List.mem_cons.mp hx with rfl | hx
      · omega
      · exact ih x (by rw [e]; exact List.mem_cons_of_mem _ hx)
    · rw [if_neg h] at hx
      rcases List.mem_cons.mp hx with rfl | hx
      · omega
      · exact ih x hx
theorem rnL_congr : ∀ (w w' : List Nat), w.length = w'.length → (∀ p, p + 1 < w.length → (w.getD p 0 ≤ w.getD (p + 1) 0 ↔ w'.getD p 0 ≤ w'.getD (p + 1) 0)) → rnL w = rnL w'
  | [], [], _, _ => rfl
  | [_], [_], _, _ => rfl
  | a :: b :: r, a' :: b' :: r', hl, hp => by
    have ih := rnL_congr (b :: r) (b' :: r') (by simpa using hl) (fun p h => by
      have := hp (p + 1) (by simpa using h)
      simpa using this)
    have h0 : a ≤ b ↔ a' ≤ b' := by
      have := hp 0 (by simp)
      simpa using this
    unfold rnL
    rw [ih]
    by_cases h : a ≤ b
    · rw [if_pos h, if_pos (h0.mp h)]
    · rw [if_neg h, if_neg (fun q => h (h0.mpr q))]
  | [], _ :: _, hl, _ => by simp at hl
  | _ :: _, [], hl, _ => by simp at hl
  | [_], _ :: _ :: _, hl, _ => by simp at hl
  | _ :: _ :: _, [_], hl, _ => by simp at hl
theorem rn_raise {w : List Nat} {i : Nat} (hl : w.length ≤ 6) (hi : 1 ≤ i) : rnL (raiseW w i) = rnL w := by
  by_cases hf : fhC w i = 0
  · unfold raiseW; rw [if_pos hf]
  obtain ⟨h1, -, -, -, h5, h6⟩ := fh_facts hl hi hf
  have hle := fhC_le w i
  unfold raiseW
  rw [if_neg hf]
  refine rnL_congr _ _ (by simp) (fun p hp => ?_)
  rw [List.length_set] at hp
  rw [getD_set_nat (by omega), getD_set_nat (by omega)]
  generalize fhC w i = f at *
  by_cases e1 : p = f - 1
  · rw [if_pos e1, if_neg (by omega)]
    have e2 : p + 1 = f := by omega
    rw [e2, e1, h1]
    constructor
    · intro h; omega
    · intro h; omega
  · rw [if_neg e1]
    by_cases e2 : p + 1 = f - 1
    · rw [if_pos e2, e2, h1]
      have e3 : p = f - 2 := by omega
      rw [e3]
      rcases h5 with h5 | h5
      · omega
      · constructor
        · intro h; omega
        · intro h; omega
    · rw [if_neg e2]
theorem rn_lower {w : List Nat} {i : Nat} (hl : w.length ≤ 6) (hi : 1 ≤ i) : rnL (lowerW w i) = rnL w := by
  by_cases hf : llC w i = 0
  · unfold lowerW; rw [if_pos hf]
  have h2 := raise_lower hl hi hf
  have h3 := rn_raise (w := lowerW w i) (by rw [lowerW_len]; exact hl) hi
  rw [h2] at h3
  exact h3.symm
