/-! ===== fillings with a shape behind ===== -/
def rdm (g : Nat → List Nat) : Nat → List Nat
  | 0 => []
  | m + 1 => g m ++ rdm g m
theorem rdL_map (g : Nat → List Nat) : ∀ m, rdL ((List.range m).map g) = rdm g m
  | 0 => rfl
  | m + 1 => by
    rw [List.range_succ, List.map_append, rdm, ← rdL_map g m]
    simp [rdL]
theorem rdm_z {g : Nat → List Nat} {l : Nat} (hz : ∀ r, l ≤ r → g r = []) : ∀ m, l ≤ m → rdm g m = rdm g l
  | 0, h => by rw [show l = 0 by omega]
  | m + 1, h => by
    by_cases e : l = m + 1
    · rw [e]
    · rw [rdm, hz m (by omega), List.nil_append, rdm_z hz m (by omega)]
theorem getD_z {L : List Nat} {r : Nat} (h : L.length ≤ r) : L.getD r 0 = 0 := by rw [List.getD_eq_getElem?_getD, List.getElem?_eq_none h]; rfl
theorem rdK_m (L c : List Nat) : ∀ k, k ≤ L.length → rdK L c k ++ rdm (fun r => segF c (psum L r) (L.getD r 0)) (L.length - k) = rdm (fun r => segF c (psum L r) (L.getD r 0)) L.length
  | 0, _ => by rw [rdK, List.nil_append, Nat.sub_zero]
  | k + 1, h => by
    rw [← rdK_m L c k (by omega), rdK, List.append_assoc, show L.length - k = (L.length - (k + 1)) + 1 by omega, rdm, show L.length - 1 - k = L.length - (k + 1) by omega]
theorem bhK_m (L : List Nat) : ∀ k, k ≤ L.length → bhK L k ++ rdm (fun r => List.replicate (L.getD r 0) (r + 1)) (L.length - k) = rdm (fun r => List.replicate (L.getD r 0) (r + 1)) L.length
  | 0, _ => by rw [bhK, List.nil_append, Nat.sub_zero]
  | k + 1, h => by
    rw [← bhK_m L k (by omega), bhK, List.append_assoc, show L.length - k = (L.length - (k + 1)) + 1 by omega, rdm, show L.length - 1 - k = L.length - (k + 1) by omega]
theorem bq_m (L : List Nat) : ∀ m, bq L m = rdm (fun r => List.replicate (L.getD r 0) (r + 1)) m
  | 0 => rfl
  | m + 1 => by rw [bq, rdm, bq_m L m]
theorem mW_join {L c L1 : List Nat} (hL : L.length ≤ 6) (h1 : L1.length ≤ 6) : mW 1 (cutP L c) L1 = joinW L c L1 := by
  have a := rdK_m L c L.length (Nat.le_refl _)
  have b := bhK_m L1 L1.length (Nat.le_refl _)
  rw [Nat.sub_self, rdm, List.append_nil] at a b
  unfold mW joinW cutP
  rw [if_pos rfl, rdL_map, bq_m, a, b, rdm_z (l := L.length) (fun r hr => by rw [getD_z hr]; simp [segF]) 6 hL, rdm_z (l := L1.length) (fun r hr => by rw [getD_z hr]; rfl) 6 h1]
theorem bq_cnt (L : List Nat) (x : Nat) : ∀ m, (bq L m).count x = if 1 ≤ x ∧ x ≤ m then L.getD (x - 1) 0 else 0
  | 0 => by rw [if_neg (by omega)]; rfl
  | m + 1 => by
    rw [bq, List.count_append, List.count_replicate, bq_cnt L x m]
    by_cases e : x = m + 1
    · subst e
      rw [if_pos (by simp), if_neg (by omega), if_pos (by omega)]
      rfl
    · have ne : ¬ (m + 1 == x) = true := fun z => e (beq_iff_eq.mp z).symm
      rw [if_neg ne, Nat.zero_add]
      by_cases q : 1 ≤ x ∧ x ≤ m
      · rw [if_pos q, if_pos (by omega)]
      · rw [if_neg q, if_neg (by omega)]
theorem sumF_getD {L : List Nat} {n : Nat} (h : L.length ≤ n) : sumF (fun i => L.getD i 0) n = L.sum := by
  have key : ∀ m, sumF (fun i => L.getD i 0) m = psum L m := fun m => by
    induction m with
    | zero => rw [psum_z]; rfl
    | succ m ih => rw [sumF, ih, psum_s]
  rw [key, psum_all h]
theorem sumF_add9 (f g : Nat → Nat) : ∀ n, sumF f n + sumF g n = sumF (fun i => f i + g i) n
  | 0 => rfl
  | n + 1 => by rw [sumF, sumF, sumF, ← sumF_add9 f g n]; omega
theorem difOk_iff (L L1 : List Nat) : difOk L L1 = true ↔ ∀ i, i < 5 → L1.getD i 0 ≤ L.getD i 0 := by
  unfold difOk
  rw [List.all_eq_true]
  exact ⟨fun h i hi => of_decide_eq_true (h i (List.mem_range.mpr hi)), fun h i hi => decide_eq_true (h i (List.mem_range.mp hi))⟩
theorem tog_ok {n : Nat} {c L1 L3 : List Nat} (hn : n ≤ 5) (h1 : L1.length ≤ n) (h3 : L3.length ≤ n) (hc : ∀ y, y ∈ c → 1 ≤ y ∧ y ≤ n) : (∀ x, 1 ≤ x → x ≤ n → c.count x + L1.getD (x - 1) 0 = L3.getD (x - 1) 0) ↔ (okA c (fun x => L3.getD (x - 1) 0 - L1.getD (x - 1) 0) = true ∧ (L1.sum + c.length = L3.sum ∧ difOk L3 L1 = true)) := by
  have s1 := sumF_getD h1
  have s3 := sumF_getD h3
  have sc := cnt_sum n c hc
  have ex := exact_ok (A := fun x => L3.getD (x - 1) 0 - L1.getD (x - 1) 0) hc
  rw [difOk_iff]
  constructor
  · intro h
    have e := ex.mp (fun x a b => by have := h x a b; omega)
    refine ⟨e.1, ?_, fun i hi => ?_⟩
    · rw [← s1, ← s3, ← sc, sumF_add9]
      exact sumF_cg9 n (fun i hi => by have := h (i + 1) (by omega) (by omega); simp only [Nat.add_sub_cancel] at this; omega)
    · by_cases q : i < n
      · have := h (i + 1) (by omega) (by omega)
        simp only [Nat.add_sub_cancel] at this
        omega
      · rw [getD_z (by omega)]; exact Nat.zero_le _
  · intro h x a b
    have hs : sumF (fun i => (fun x => L3.getD (x - 1) 0 - L1.getD (x - 1) 0) (i + 1)) n = c.length := by
      have t := sumF_add9 (fun i => L3.getD i 0 - L1.getD i 0) (fun i => L1.getD i 0) n
      have t2 : sumF (fun i => L3.getD i 0 - L1.getD i 0 + L1.getD i 0) n = sumF (fun i => L3.getD i 0) n := sumF_cg9 n (fun i hi => by have := h.2.2 i (by omega); omega)
      rw [t2, s1, s3] at t
      have h21 := h.2.1
      simp only [Nat.add_sub_cancel]
      omega
    have e := ex.mpr ⟨h.1, hs⟩ x a b
    have d := h.2.2 (x - 1) (by omega)
    omega
theorem together_pure {n : Nat} {L L1 L3 : List Nat} (hn : n ≤ 5) (hS : ShP L) (h1 : L1.length ≤ n) (h3 : L3.length ≤ n) : foF 1 n L L1 (fun x => L3.getD (x - 1) 0) (lvF L n 12 [] 0 0) = if L1.sum + L.sum = L3.sum ∧ difOk L3 L1 = true then (sF L n (fun _ => nI 1) (cntB n L (some (74, L1))) 12 [] 0 0 (fun x => L3.getD (x - 1) 0 - L1.getD (x - 1) 0) (lN 1)).toInt32 else nI 0 := by
  have key : ∀ c, c ∈ lvF L n 12 [] 0 0 → (mOk 1 n (fun x => L3.getD (x - 1) 0) (cutP L c) L1 = true ↔ ((okA c (fun x => L3.getD (x - 1) 0 - L1.getD (x - 1) 0) && cntB n L (some (74, L1)) c) = true ∧ (L1.sum + L.sum = L3.sum ∧ difOk L3 L1 = true))) := by
    intro c hc
    obtain ⟨e1, e2⟩ := lv12 hc
    have hp := cut_perm (L := L) (c := c) (by have := hS.1; omega) (by omega)
    have hj := mW_join (L := L) (c := c) (L1 := L1) (by have := hS.1; omega) (by omega)
    unfold mOk
    rw [if_pos rfl, KX_iff 1 _ _ _ (by decide), hj, ← e1, Bool.and_eq_true]
    have hcn : ∀ x, 1 ≤ x → x ≤ n → (joinW L c L1).count x = c.count x + L1.getD (x - 1) 0 := by
      intro x a b
      rw [← hj]
      unfold mW
      rw [if_pos rfl, List.count_append, hp.count_eq x, bq_cnt, if_pos (by omega)]
    have t := tog_ok (c := c) hn h1 h3 e2
    constructor
    · intro h
      have u := t.mp (fun x a b => by rw [← hcn x a b]; exact h.2 x a b)
      exact ⟨⟨u.1, h.1⟩, u.2⟩
    · intro h
      have u := t.mpr ⟨h.1.1, h.2⟩
      exact ⟨h.1.2, fun x a b => by rw [hcn x a b]; exact u x a b⟩
  by_cases hs : L1.sum + L.sum = L3.sum ∧ difOk L3 L1 = true
  · rw [if_pos hs, sF_lv]
    have e : sm ((lvF L n 12 [] 0 0).map (fun c' => if (okA (c'.drop ([] : List Nat).length) (fun x => L3.getD (x - 1) 0 - L1.getD (x - 1) 0) && cntB n L (some (74, L1)) c') = true then lN 1 * prW (fun _ => nI 1) (c'.drop ([] : List Nat).length) else 0)) = sm ((lvF L n 12 [] 0 0).map (fun c => if (okA c (fun x => L3.getD (x - 1) 0 - L1.getD (x - 1) 0) && cntB n L (some (74, L1)) c) = true then 1 else 0)) := by
      refine sm_cg (fun c hc => ?_)
      rw [List.length_nil, List.drop_zero, prW_1]
      rfl
    rw [e, sm_I (b := fun c => okA c (fun x => L3.getD (x - 1) 0 - L1.getD (x - 1) 0) && cntB n L (some (74, L1)) c)]
    unfold foF
    refine smI_cg (fun c hc => ?_)
    have k := key c hc
    cases h1 : mOk 1 n (fun x => L3.getD (x - 1) 0) (cutP L c) L1 <;> cases h2 : (okA c (fun x => L3.getD (x - 1) 0 - L1.getD (x - 1) 0) && cntB n L (some (74, L1)) c)
    · rfl
    · rw [h1, h2] at k; exact absurd (k.mpr ⟨rfl, hs⟩) Bool.false_ne_true
    · rw [h1, h2] at k; exact absurd (k.mp rfl).1 Bool.false_ne_true
    · rfl
  · rw [if_neg hs]
    unfold foF
    refine smI_0 (fun c hc => ?_)
    have k := key c hc
    cases h1 : mOk 1 n (fun x => L3.getD (x - 1) 0) (cutP L c) L1
    · rfl
    · rw [h1] at k; exact absurd (k.mp rfl).2 hs
