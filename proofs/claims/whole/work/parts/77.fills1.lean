/-! ===== fillings: the class's sum over the list of all fillings ===== -/
def lvF (L : List Nat) (n : Nat) : Nat → List Nat → Nat → Nat → List (List Nat)
  | 0, _, _, _ => []
  | f + 1, c, row, col =>
    if L.sum ≤ c.length then [c]
    else if L.getD row 0 ≤ col then (if row < L.length then lvF L n f c (row + 1) 0 else [])
    else (List.range (n + 1 - lstF L c row col)).flatMap (fun j => lvF L n f (c ++ [lstF L c row col + j]) row (col + 1))
def prW (wt : Nat → Int32) : List Nat → Int64
  | [] => 1
  | y :: l => (wt y).toInt64 * prW wt l
def okA : List Nat → (Nat → Nat) → Bool
  | [], _ => true
  | y :: l, A => decide (0 < A y) && okA l (fun z => if z = y then A z - 1 else A z)
def sm : List Int64 → Int64
  | [] => 0
  | a :: l => a + sm l
theorem sm_app : ∀ a b, sm (a ++ b) = sm a + sm b
  | [], b => (Int64.zero_add _).symm
  | x :: a, b => by rw [List.cons_append, sm, sm, sm_app a b, Int64.add_assoc]
theorem sm_flat {α β : Type} (f : α → List β) (g : β → Int64) : ∀ l : List α, sm ((l.flatMap f).map g) = sm (l.map (fun x => sm ((f x).map g)))
  | [] => rfl
  | x :: l => by rw [List.flatMap_cons, List.map_append, sm_app, sm_flat f g l, List.map_cons, sm]
theorem sm_fold {P : Nat → Prop} [DecidablePred P] {g : Nat → Int64} : ∀ (l : List Nat) (acc : Int64), l.foldl (fun acc j => if P j then acc + g j else acc) acc = acc + sm (l.map (fun j => if P j then g j else 0))
  | [], acc => (Int64.add_zero _).symm
  | x :: l, acc => by
    rw [List.foldl_cons, sm_fold l, List.map_cons, sm]
    by_cases h : P x
    · rw [if_pos h, if_pos h, Int64.add_assoc]
    · rw [if_neg h, if_neg h, Int64.zero_add]
theorem sm_cg {α : Type} {f g : α → Int64} : ∀ {l : List α}, (∀ x, x ∈ l → f x = g x) → sm (l.map f) = sm (l.map g)
  | [], _ => rfl
  | x :: l, h => by rw [List.map_cons, List.map_cons, sm, sm, h x List.mem_cons_self, sm_cg (fun y hy => h y (List.mem_cons_of_mem _ hy))]
theorem sm_0 {α : Type} {f : α → Int64} : ∀ {l : List α}, (∀ x, x ∈ l → f x = 0) → sm (l.map f) = 0
  | [], _ => rfl
  | x :: l, h => by rw [List.map_cons, sm, h x List.mem_cons_self, sm_0 (fun y hy => h y (List.mem_cons_of_mem _ hy))]; rfl
theorem lv_pre (L : List Nat) (n : Nat) : ∀ f c row col c', c' ∈ lvF L n f c row col → ∃ e, c' = c ++ e
  | 0, _, _, _, _, h => by simp [lvF] at h
  | f + 1, c, row, col, c', h => by
    rw [lvF] at h
    split at h
    · exact ⟨[], by rw [List.append_nil]; exact List.mem_singleton.mp h⟩
    · split at h
      · split at h
        · exact lv_pre L n f _ _ _ _ h
        · cases h
      · obtain ⟨j, _, hj⟩ := List.mem_flatMap.mp h
        obtain ⟨e, rfl⟩ := lv_pre L n f _ _ _ _ hj
        exact ⟨_, List.append_assoc _ _ _⟩
theorem sF_lv (L : List Nat) (n : Nat) (wt : Nat → Int32) (cnt : List Nat → Bool) : ∀ f c row col A p, sF L n wt cnt f c row col A p = sm ((lvF L n f c row col).map (fun c' => if (okA (c'.drop c.length) A && cnt c') = true then p * prW wt (c'.drop c.length) else 0))
  | 0, _, _, _, _, _ => rfl
  | f + 1, c, row, col, A, p => by
    rw [sF, lvF]
    by_cases h1 : L.sum ≤ c.length
    · rw [if_pos h1, if_pos h1, List.map_cons, List.map_nil, sm, sm, List.drop_length, okA, prW, Bool.true_and, Int64.add_zero, Int64.mul_one]
      rfl
    · rw [if_neg h1, if_neg h1]
      by_cases h2 : L.getD row 0 ≤ col
      · rw [if_pos h2, if_pos h2]
        by_cases h3 : row < L.length
        · rw [if_pos h3, if_pos h3, sF_lv L n wt cnt f]
        · rw [if_neg h3, if_neg h3]; rfl
      · rw [if_neg h2, if_neg h2, sm_fold, sm_flat, show (lN 0 : Int64) = 0 from rfl, Int64.zero_add]
        refine sm_cg (fun j _ => ?_)
        generalize lstF L c row col + j = y
        have hdr : ∀ c', c' ∈ lvF L n f (c ++ [y]) row (col + 1) → c'.drop c.length = y :: c'.drop (c ++ [y]).length := by
          intro c' hc
          obtain ⟨e, rfl⟩ := lv_pre L n f _ _ _ _ hc
          rw [List.drop_left, List.append_assoc, List.drop_left, List.singleton_append]
        by_cases h4 : 0 < A y
        · rw [if_pos h4, sF_lv L n wt cnt f]
          refine sm_cg (fun c' hc => ?_)
          rw [hdr c' hc, okA, prW, decide_eq_true h4, Bool.true_and, Int64.mul_assoc]
        · rw [if_neg h4]
          refine (sm_0 (fun c' hc => ?_)).symm
          rw [hdr c' hc, okA, decide_eq_false h4, Bool.false_and, Bool.false_and, if_neg Bool.false_ne_true]
theorem okA_iff : ∀ (l : List Nat) (A : Nat → Nat), okA l A = true ↔ ∀ y, l.count y ≤ A y
  | [], A => by simp [okA]
  | y :: l, A => by
    rw [okA, Bool.and_eq_true, decide_eq_true_eq, okA_iff l]
    constructor
    · intro h z
      have h2 := h.2 z
      rw [List.count_cons]
      by_cases q : z = y
      · subst q; rw [if_pos rfl] at h2; have := h.1; simp; omega
      · rw [if_neg q] at h2
        have : ¬ (y == z) = true := fun e => q (beq_iff_eq.mp e).symm
        rw [if_neg this]; exact h2
    · intro h
      have hy := h y
      rw [List.count_cons_self] at hy
      refine ⟨by omega, fun z => ?_⟩
      have hz := h z
      rw [List.count_cons] at hz
      by_cases q : z = y
      · subst q; rw [if_pos rfl]; omega
      · rw [if_neg q]; omega
