/-! ===== families of words: how many, what is reached ===== -/
def ctC (T c lo N : Nat) : Nat := ((List.range' lo N).filter (fun x => decide (crC T x = c))).length
theorem ctC_add (T c lo a b : Nat) : ctC T c lo (a + b) = ctC T c lo a + ctC T c (lo + a) b := by
  unfold ctC
  rw [← List.range'_append_1, List.filter_append, List.length_append]
theorem crQ_ct (T c : Nat) : ∀ k lo, crQ T c k lo = ctC T c lo (5 ^ k)
  | 0, lo => by
    unfold crQ ctC
    by_cases h : crC T lo = c
    · simp [h]
    · simp [h]
  | k + 1, lo => by
    unfold crQ
    rw [crQ_ct T c k lo, crQ_ct T c k, crQ_ct T c k, crQ_ct T c k, crQ_ct T c k]
    have e : 5 ^ (k + 1) = 5 ^ k + (5 ^ k + (5 ^ k + (5 ^ k + 5 ^ k))) := by rw [Nat.pow_succ]; omega
    rw [e, ctC_add, ctC_add, ctC_add, ctC_add]
    rw [show lo + 5 ^ k + 5 ^ k = lo + 2 * 5 ^ k by omega, show lo + 2 * 5 ^ k + 5 ^ k = lo + 3 * 5 ^ k by omega, show lo + 3 * 5 ^ k + 5 ^ k = lo + 4 * 5 ^ k by omega]
def crB (T b : Nat) : Nat → Nat → Bool
  | 0, lo => decide (crC T lo < b)
  | k + 1, lo => crB T b k lo && (crB T b k (lo + 5 ^ k) && (crB T b k (lo + 2 * 5 ^ k) && (crB T b k (lo + 3 * 5 ^ k) && crB T b k (lo + 4 * 5 ^ k))))
theorem crB4 : crB crT4 10 4 0 = true := by decide +kernel
theorem crB5 : crB crT5 26 5 0 = true := by decide +kernel
theorem crB6 : crB crT6 75 6 0 = true := by decide +kernel
theorem crB_s (T b : Nat) : ∀ k lo, crB T b k lo = true → ∀ x, lo ≤ x → x < lo + 5 ^ k → crC T x < b
  | 0, lo, h, x, h1, h2 => by
    have e : x = lo := by simp at h2; omega
    subst e
    simpa [crB] using h
  | k + 1, lo, h, x, h1, h2 => by
    unfold crB at h
    simp only [Bool.and_eq_true] at h
    obtain ⟨g1, g2, g3, g4, g5⟩ := h
    rw [Nat.pow_succ] at h2
    by_cases c1 : x < lo + 5 ^ k
    · exact crB_s T b k _ g1 x h1 c1
    by_cases c2 : x < lo + 2 * 5 ^ k
    · exact crB_s T b k _ g2 x (by omega) (by omega)
    by_cases c3 : x < lo + 3 * 5 ^ k
    · exact crB_s T b k _ g3 x (by omega) (by omega)
    by_cases c4 : x < lo + 4 * 5 ^ k
    · exact crB_s T b k _ g4 x (by omega) (by omega)
    · exact crB_s T b k _ g5 x (by omega) (by omega)
theorem fam_q {m k : Nat} (hm : m ≤ 6) (h3 : 4 ≤ m) (hk : ∃ x, x < 5 ^ m ∧ crC (crT m) x = k) : crQ (crT m) k m 0 ≤ 500 := by
  obtain ⟨x, hx, hxk⟩ := hk
  match m, hm, h3 with
  | 4, _, _ =>
    have hb := crB_s crT4 10 4 0 crB4 x (Nat.zero_le _) (by omega)
    have e : crC crT4 x = k := hxk
    have := crQ4_0 k (by omega)
    rw [Nat.zero_add] at this
    exact this
  | 5, _, _ =>
    have hb := crB_s crT5 26 5 0 crB5 x (Nat.zero_le _) (by omega)
    have e : crC crT5 x = k := hxk
    by_cases h1 : k < 15
    · have := crQ5_0 k h1
      rw [Nat.zero_add] at this
      exact this
    · have := crQ5_15 (k - 15) (by omega)
      rw [show 15 + (k - 15) = k by omega] at this
      exact this
  | 6, _, _ =>
    have hb := crB_s crT6 75 6 0 crB6 x (Nat.zero_le _) (by omega)
    have e : crC crT6 x = k := hxk
    by_cases h1 : k < 15
    · have := crQ6_0 k h1
      rw [Nat.zero_add] at this
      exact this
    by_cases h2 : k < 30
    · have := crQ6_15 (k - 15) (by omega)
      rw [show 15 + (k - 15) = k by omega] at this
      exact this
    by_cases h3 : k < 45
    · have := crQ6_30 (k - 30) (by omega)
      rw [show 30 + (k - 30) = k by omega] at this
      exact this
    by_cases h4 : k < 60
    · have := crQ6_45 (k - 45) (by omega)
      rw [show 45 + (k - 45) = k by omega] at this
      exact this
    · have := crQ6_60 (k - 60) (by omega)
      rw [show 60 + (k - 60) = k by omega] at this
      exact this
theorem fam_le5 {m k : Nat} (hm : m ≤ 6) {l : List Nat} (hn : l.Nodup) (hl : ∀ x ∈ l, x < 5 ^ m ∧ crC (crT m) x = k) : l.length ≤ 500 := by
  by_cases h3 : 4 ≤ m
  · cases l with
    | nil => exact Nat.zero_le _
    | cons x0 l0 =>
      have hq := fam_q hm h3 ⟨x0, hl x0 List.mem_cons_self⟩
      rw [crQ_ct] at hq
      refine Nat.le_trans (List.Nodup.length_le_of_subset hn (l₂ := (List.range' 0 (5 ^ m)).filter (fun x => decide (crC (crT m) x = k))) (fun x hx => ?_)) hq
      obtain ⟨g1, g2⟩ := hl x hx
      exact List.mem_filter.mpr ⟨List.mem_range'_1.mpr ⟨Nat.zero_le _, by omega⟩, by simpa using g2⟩
  · have h1 := List.Nodup.length_le_of_subset hn (l₂ := List.range (5 ^ m)) (fun x hx => List.mem_range.mpr (hl x hx).1)
    rw [List.length_range] at h1
    have h2 : 5 ^ m ≤ 5 ^ 3 := Nat.pow_le_pow_right (by decide) (by omega)
    omega
/-- the code is that of a word of the family -/
def famB (n : Nat) (w : List Nat) (c : Nat) : Bool := decide (c < n ^ w.length) && decide (clW (dcF n w.length c) = clW w)
theorem fam_le {n : Nat} {w l : List Nat} (hn2 : 2 ≤ n) (hn5 : n ≤ 5) (hw : w.length ≤ 6) (hn : l.Nodup) (hl : ∀ c ∈ l, famB n w c = true) : l.length ≤ 500 := by
  have h0 : 0 < n := by omega
  have hl' : ∀ c ∈ l, c < n ^ w.length ∧ clW (dcF n w.length c) = clW w := fun c hc => by
    have := hl c hc
    unfold famB at this
    simpa [Bool.and_eq_true] using this
  have lt : ∀ c, LtW 5 (dcF n w.length c) := fun c => (dcF_lt h0).mono hn5
  have h := fam_le5 (k := clW w) hw (l := l.map (fun c => cdF 5 (dcF n w.length c) w.length)) (by
    refine List.pairwise_map.mpr (hn.imp_of_mem (fun {a b} ha hb hab e => hab ?_))
    have e2 : dcF n w.length a = dcF n w.length b := cd_inj (by decide) (lt a) (lt b) (by rw [dcF_len, dcF_len]) (by rw [dcF_len, dcF_len]; exact e)
    have e3 := cdF_dcF h0 (hl' a ha).1
    rw [e2, cdF_dcF h0 (hl' b hb).1] at e3
    exact e3.symm) (fun x hx => by
    obtain ⟨c, hc, rfl⟩ := List.mem_map.mp hx
    refine ⟨?_, ?_⟩
    · have := cdF_lt (by decide) (lt c) w.length (by rw [dcF_len]; exact Nat.le_refl _)
      exact this
    · have := (hl' c hc).2
      unfold clW at this
      rw [dcF_len] at this
      exact this)
  rw [List.length_map] at h
  exact h
theorem famB_cd {n : Nat} {w u : List Nat} (h0 : 0 < n) (hu : LtW n u) (hl : u.length = w.length) : famB n w (cdF n u w.length) = decide (clW u = clW w) := by
  unfold famB
  have h1 := cdF_lt h0 hu u.length (Nat.le_refl _)
  have h2 := dcF_cdF h0 hu
  rw [hl] at h1 h2
  rw [decide_eq_true h1, Bool.true_and, h2]
theorem famB_lt {n c : Nat} {w : List Nat} (h : famB n w c = true) : c < n ^ w.length := by
  unfold famB at h
  simp only [Bool.and_eq_true, decide_eq_true_eq] at h
  exact h.1
/-- a word that can't be raised for i below n can't be raised at all -/
theorem top_n {n : Nat} {u : List Nat} (hl : u.length ≤ 6) (hu : LtW n u) (h : ∀ i, 1 ≤ i → i < n → fhC u i = 0) (i : Nat) (hi : 1 ≤ i) : fhC u i = 0 := by
  by_cases hin : i < n
  · exact h i hi hin
  · apply Classical.byContradiction
    intro hf
    have h1 := (fh_facts hl hi hf).1
    have hle := fhC_le u i
    have h2 := (hu (fhC u i - 1) (by omega)).2
    omega
theorem raise_less {n i : Nat} {u : List Nat} (hl : u.length ≤ 6) (hu : LtW n u) (hi : 1 ≤ i) (hf : fhC u i ≠ 0) : cdF 5 (raiseW u i) u.length < cdF 5 u u.length := by
  have hle := fhC_le u i
  have hs := cdF_set (n := 5) (k := fhC u i - 1) (fun p hp => (hu p hp).1) (by omega) (fh_facts hl hi hf).1 hi u.length (Nat.le_refl _) (by omega)
  have e : raiseW u i = u.set (fhC u i - 1) i := by unfold raiseW; rw [if_neg hf]
  rw [e, hs]
  have : 0 < 5 ^ (u.length - 1 - (fhC u i - 1)) := Nat.pow_pos (by decide)
  omega
/-- what holds of the highest word, and passes on by lowering, holds of the whole family -/
theorem fam_in {n m : Nat} {top : List Nat} {M : List Nat → Prop} (hn5 : n ≤ 5) (hm : m ≤ 6) (ht : top.length = m) (hT : LtW n top) (hh : ∀ i, 1 ≤ i → i < n → fhC top i = 0) (h0 : M top)
    (hc : ∀ u, u.length = m → LtW n u → M u → ∀ i, 1 ≤ i → i < n → llC u i ≠ 0 → M (lowerW u i)) : ∀ (k : Nat) (u : List Nat), cdF 5 u u.length = k → u.length = m → LtW n u → clW u = clW top → M u := by
  intro k
  induction k using Nat.strongRecOn with
  | _ k ih =>
    intro u hk hl hu hcl
    by_cases hx : ∀ i, 1 ≤ i → i < n → fhC u i = 0
    · have e := cl_top (w := u) (w' := top) (by omega) (hu.mono hn5) (hT.mono hn5) (by omega) (fun i h1 _ => top_n (by omega) hu hx i h1) (fun i h1 _ => top_n (by omega) hT hh i h1) hcl
      rw [e]; exact h0
    · obtain ⟨i, hi⟩ : ∃ i, 1 ≤ i ∧ i < n ∧ fhC u i ≠ 0 := by
        apply Classical.byContradiction
        intro hno
        exact hx (fun i h1 h2 => Classical.byContradiction (fun h3 => hno ⟨i, h1, h2, h3⟩))
      obtain ⟨h1, h2, hf⟩ := hi
      have hr := raise_less (by omega) hu h1 hf
      have hlen : (raiseW u i).length = u.length := raiseW_len u i
      have hM := ih (cdF 5 (raiseW u i) (raiseW u i).length) (by rw [hlen]; omega) (raiseW u i) rfl (by omega) (LtW_raise hu h1 (by omega)) (by rw [cl_raise (by omega) (hu.mono hn5) h1 (by omega)]; exact hcl)
      have hlow := hc (raiseW u i) (by omega) (LtW_raise hu h1 (by omega)) hM i h1 h2 (by rw [(fh_facts (by omega) h1 hf).2.1]; exact hf)
      rw [lower_raise (by omega) h1 hf] at hlow
      exact hlow
theorem sum_set : ∀ (w : List Nat) (k x : Nat), k < w.length → (w.set k x).sum + w.getD k 0 = w.sum + x
  | [], k, x, h => by simp at h
  | a :: w, 0, x, _ => by simp; omega
  | a :: w, k + 1, x, h => by
    have ih := sum_set w k x (by simpa using h)
    simp only [List.set_cons_succ, List.sum_cons, List.getD_cons_succ]
    omega
theorem sum_raise {w : List Nat} {i : Nat} (hl : w.length ≤ 6) (hi : 1 ≤ i) (hf : fhC w i ≠ 0) : (raiseW w i).sum + 1 = w.sum := by
  have hle := fhC_le w i
  have h := sum_set w (fhC w i - 1) i (by omega)
  rw [(fh_facts hl hi hf).1] at h
  unfold raiseW
  rw [if_neg hf]
  omega
theorem sum_lower {w : List Nat} {i : Nat} (hl : w.length ≤ 6) (hi : 1 ≤ i) (hf : llC w i ≠ 0) : (lowerW w i).sum = w.sum + 1 := by
  have hle := llC_le w i
  have h := sum_set w (llC w i - 1) (i + 1) (by omega)
  rw [(ll_facts hl hi hf).1] at h
  unfold lowerW
  rw [if_neg hf]
  omega
theorem sum_le {n : Nat} : ∀ w : List Nat, LtW n w → w.sum ≤ n * w.length
  | [], _ => by simp
  | a :: w, h => by
    have ih := sum_le w (fun p hp => by
      have := h (p + 1) (by simpa using hp)
      simpa using this)
    have ha := h 0 (by simp)
    simp only [List.getD_cons_zero] at ha
    rw [List.sum_cons, List.length_cons, Nat.mul_succ]
    omega
theorem rLF_none : ∀ (w : List Nat) (i k : Nat), rLF w i k = none → ∀ j, i ≤ j → j < i + k → fhC w j = 0
  | w, i, 0, _, j, h1, h2 => by omega
  | w, i, k + 1, h, j, h1, h2 => by
    unfold rLF at h
    by_cases hf : fhC w i ≠ 0
    · rw [if_pos hf] at h; cases h
    · rw [if_neg hf] at h
      by_cases e : j = i
      · subst e; exact Classical.not_not.mp hf
      · exact rLF_none w (i + 1) k h j (by omega) (by omega)
theorem rLF_some : ∀ (w : List Nat) (i k : Nat) (w' : List Nat), rLF w i k = some w' → ∃ j, i ≤ j ∧ j < i + k ∧ fhC w j ≠ 0 ∧ w' = raiseW w j ∧ ∀ q, i ≤ q → q < j → fhC w q = 0
  | w, i, 0, w', h => by cases h
  | w, i, k + 1, w', h => by
    unfold rLF at h
    by_cases hf : fhC w i ≠ 0
    · rw [if_pos hf] at h
      cases h
      exact ⟨i, Nat.le_refl _, by omega, hf, rfl, fun q h1 h2 => by omega⟩
    · rw [if_neg hf] at h
      obtain ⟨j, g1, g2, g3, g4, g5⟩ := rLF_some w (i + 1) k w' h
      refine ⟨j, by omega, by omega, g3, g4, fun q h1 h2 => ?_⟩
      by_cases e : q = i
      · subst e; exact Classical.not_not.mp hf
      · exact g5 q (by omega) h2
theorem lLF_none : ∀ (w : List Nat) (i k : Nat), lLF w i k = none → ∀ j, i ≤ j → j < i + k → llC w j = 0
  | w, i, 0, _, j, h1, h2 => by omega
  | w, i, k + 1, h, j, h1, h2 => by
    unfold lLF at h
    by_cases hf : llC w i ≠ 0
    · rw [if_pos hf] at h; cases h
    · rw [if_neg hf] at h
      by_cases e : j = i
      · subst e; exact Classical.not_not.mp hf
      · exact lLF_none w (i + 1) k h j (by omega) (by omega)
theorem lLF_some : ∀ (w : List Nat) (i k : Nat) (w' : List Nat), lLF w i k = some w' → ∃ j, i ≤ j ∧ j < i + k ∧ llC w j ≠ 0 ∧ w' = lowerW w j ∧ ∀ q, i ≤ q → q < j → llC w q = 0
  | w, i, 0, w', h => by cases h
  | w, i, k + 1, w', h => by
    unfold lLF at h
    by_cases hf : llC w i ≠ 0
    · rw [if_pos hf] at h
      cases h
      exact ⟨i, Nat.le_refl _, by omega, hf, rfl, fun q h1 h2 => by omega⟩
    · rw [if_neg hf] at h
      obtain ⟨j, g1, g2, g3, g4, g5⟩ := lLF_some w (i + 1) k w' h
      refine ⟨j, by omega, by omega, g3, g4, fun q h1 h2 => ?_⟩
      by_cases e : q = i
      · subst e; exact Classical.not_not.mp hf
      · exact g5 q (by omega) h2
/-- raised as often as can be: the highest of the family -/
theorem top_ok {n : Nat} (hn2 : 2 ≤ n) (hn5 : n ≤ 5) : ∀ (f : Nat) (w : List Nat), w.length ≤ 6 → LtW n w → w.sum ≤ f → (toTop n f w).2.length = w.length ∧ LtW n (toTop n f w).2 ∧ clW (toTop n f w).2 = clW w ∧ (∀ i, 1 ≤ i → i < n → fhC (toTop n f w).2 i = 0) ∧ (toTop n f w).1 ≤ f ∧ rnL (toTop n f w).2 = rnL w
  | 0, w, hl, hw, hs => by
    refine ⟨rfl, hw, rfl, fun i h1 h2 => ?_, Nat.le_refl _, rfl⟩
    apply Classical.byContradiction
    intro hf
    have := sum_raise hl h1 hf
    omega
  | f + 1, w, hl, hw, hs => by
    unfold toTop
    cases hr : rLF w 1 (n - 1) with
    | none =>
      refine ⟨rfl, hw, rfl, fun i h1 h2 => rLF_none w 1 (n - 1) hr i h1 (by omega), Nat.zero_le _, rfl⟩
    | some w' =>
      obtain ⟨j, g1, g2, g3, g4, -⟩ := rLF_some w 1 (n - 1) w' hr
      subst g4
      have hsum := sum_raise hl g1 g3
      have hlen := raiseW_len w j
      obtain ⟨i1, i2, i3, i4, i5, i6⟩ := top_ok hn2 hn5 f (raiseW w j) (by omega) (LtW_raise hw g1 (by omega)) (by omega)
      refine ⟨by rw [i1, hlen], i2, by rw [i3]; exact cl_raise hl (hw.mono hn5) g1 (by omega), i4, Nat.succ_le_succ i5, by rw [i6]; exact rn_raise hl g1⟩
theorem foot_ok {n : Nat} (hn2 : 2 ≤ n) : ∀ (f : Nat) (w : List Nat), w.length ≤ 6 → LtW n w → n * w.length ≤ w.sum + f → (toFoot n f w).2.length = w.length ∧ LtW n (toFoot n f w).2 ∧ (∀ i, 1 ≤ i → i < n → llC (toFoot n f w).2 i = 0) ∧ (toFoot n f w).1 ≤ f
  | 0, w, hl, hw, hs => by
    refine ⟨rfl, hw, fun i h1 h2 => ?_, Nat.le_refl _⟩
    apply Classical.byContradiction
    intro hf
    have h3 := sum_lower hl h1 hf
    have h4 := sum_le (lowerW w i) (LtW_lower hw h2)
    rw [lowerW_len] at h4
    omega
  | f + 1, w, hl, hw, hs => by
    unfold toFoot
    cases hr : lLF w 1 (n - 1) with
    | none =>
      refine ⟨rfl, hw, fun i h1 h2 => lLF_none w 1 (n - 1) hr i h1 (by omega), Nat.zero_le _⟩
    | some w' =>
      obtain ⟨j, g1, g2, g3, g4, -⟩ := lLF_some w 1 (n - 1) w' hr
      subst g4
      have hsum := sum_lower hl g1 g3
      have hlen := lowerW_len w j
      obtain ⟨i1, i2, i3, i4⟩ := foot_ok hn2 f (lowerW w j) (by omega) (LtW_lower hw (by omega)) (by rw [hlen]; omega)
      exact ⟨by rw [i1, hlen], i2, i3, Nat.succ_le_succ i4⟩
