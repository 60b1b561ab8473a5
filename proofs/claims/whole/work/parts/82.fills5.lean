/-! ===== fillings: the reference's judgement is the class's ===== -/
theorem lv_leaf (L : List Nat) (n : Nat) : ∀ f c row col c', c.length ≤ L.sum → col ≤ c.length → (∀ y, y ∈ c → 1 ≤ y ∧ y ≤ n) → c' ∈ lvF L n f c row col → c'.length = L.sum ∧ ∀ y, y ∈ c' → 1 ≤ y ∧ y ≤ n
  | 0, _, _, _, _, _, _, _, h => by simp [lvF] at h
  | f + 1, c, row, col, c', hl, hc, hy, h => by
    rw [lvF] at h
    split at h
    · rw [List.mem_singleton.mp h]; exact ⟨by omega, hy⟩
    · rename_i hlt
      split at h
      · split at h
        · exact lv_leaf L n f _ _ _ _ hl (Nat.zero_le _) hy h
        · cases h
      · obtain ⟨j, hj, hj2⟩ := List.mem_flatMap.mp h
        have hj3 := List.mem_range.mp hj
        have hlst1 : 1 ≤ lstF L c row col := by
          unfold lstF
          by_cases q0 : 0 < row
          · rw [if_pos q0]; omega
          · rw [if_neg q0]
            by_cases q1 : 0 < col
            · rw [if_pos q1]
              have hlt9 : c.length - 1 < c.length := by omega
              have em : c.getD (c.length - 1) 0 = c[c.length - 1] := by rw [List.getD_eq_getElem?_getD, List.getElem?_eq_getElem hlt9]; rfl
              rw [em]
              exact (hy _ (List.getElem_mem hlt9)).1
            · rw [if_neg q1]; exact Nat.le_refl _
        refine lv_leaf L n f _ _ _ _ (by rw [List.length_append, List.length_singleton]; omega) (by rw [List.length_append, List.length_singleton]; omega) (fun y hy2 => ?_) hj2
        rcases List.mem_append.mp hy2 with e | e
        · exact hy y e
        · rw [List.mem_singleton.mp e]; omega
theorem cut_flat (L c : List Nat) : ∀ m, ((List.range m).map (fun r => segF c (psum L r) (L.getD r 0))).flatten = c.take (psum L m)
  | 0 => by rw [psum_z]; rfl
  | m + 1 => by
    rw [List.range_succ, List.map_append, List.flatten_append, cut_flat L c m, psum_s, List.take_add]
    simp [segF]
theorem cut_perm {L c : List Nat} (hL : L.length ≤ 6) (hc : c.length ≤ L.sum) : (rdL (cutP L c)).Perm c := by
  have e : (cutP L c).flatten = c := by
    unfold cutP
    rw [cut_flat, psum_all hL, List.take_of_length_le hc]
  have p : (rdL (cutP L c)).Perm (cutP L c).flatten := (List.reverse_perm (cutP L c)).flatten
  rw [e] at p
  exact p
theorem ck_take (w : List Nat) (x : Nat) : ∀ k, k ≤ w.length → ck w x k = (w.take k).count x
  | 0, _ => by simp [ck]
  | k + 1, h => by
    rw [ck, ck_take w x k (by omega), List.take_succ, List.count_append]
    have e : w[k]? = some (w.getD k 0) := by rw [List.getD_eq_getElem?_getD, List.getElem?_eq_getElem (by omega)]; rfl
    rw [e]
    simp [List.count_cons]
theorem ck_all (w : List Nat) (x : Nat) : ck w x w.length = w.count x := by rw [ck_take w x _ (Nat.le_refl _), List.take_length]
def prG (g : Nat → Int64) : List Nat → Int64
  | [] => 1
  | y :: l => g y * prG g l
theorem prG_app (g : Nat → Int64) : ∀ a b, prG g (a ++ b) = prG g a * prG g b
  | [], b => (Int64.one_mul _).symm
  | y :: a, b => by rw [List.cons_append, prG, prG, prG_app g a b, Int64.mul_assoc]
theorem prG_mul (f g : Nat → Int64) : ∀ l, prG f l * prG g l = prG (fun y => f y * g y) l
  | [] => Int64.one_mul _
  | y :: l => by
    rw [prG, prG, prG, ← prG_mul f g l, Int64.mul_assoc, Int64.mul_assoc]
    congr 1
    rw [← Int64.mul_assoc, ← Int64.mul_assoc, Int64.mul_comm (prG f l) (g y)]
theorem prG_cg {f g : Nat → Int64} : ∀ {l : List Nat}, (∀ y, y ∈ l → f y = g y) → prG f l = prG g l
  | [], _ => rfl
  | y :: l, h => by rw [prG, prG, h y List.mem_cons_self, prG_cg (fun z hz => h z (List.mem_cons_of_mem _ hz))]
theorem prG_perm {g : Nat → Int64} {a b : List Nat} (h : a.Perm b) : prG g a = prG g b := by
  induction h with
  | nil => rfl
  | cons x _ ih => rw [prG, prG, ih]
  | swap x y l => rw [prG, prG, prG, prG, ← Int64.mul_assoc, ← Int64.mul_assoc, Int64.mul_comm (g y) (g x)]
  | trans _ _ ih1 ih2 => rw [ih1, ih2]
theorem prW_G (wt : Nat → Int32) : ∀ l, prW wt l = prG (fun y => (wt y).toInt64) l
  | [] => rfl
  | y :: l => by rw [prW, prG, prW_G wt l]
theorem pk_take (wt : Nat → Nat) (w : List Nat) (x : Nat) (a : Int64) : ∀ k, k ≤ w.length → pk wt w x a k = a * prG (fun y => if y = x then lN (wt x) else 1) (w.take k)
  | 0, _ => by rw [pk, List.take_zero, prG, Int64.mul_one]
  | k + 1, h => by
    have e : w[k]? = some (w.getD k 0) := by rw [List.getD_eq_getElem?_getD, List.getElem?_eq_getElem (by omega)]; rfl
    rw [pk, pk_take wt w x a k (by omega), List.take_succ, e, prG_app, Int64.mul_assoc]
    congr 2
    show _ = prG _ [w.getD k 0]
    rw [prG, prG, Int64.mul_one]
theorem PX_G (wt : Nat → Nat) (w : List Nat) : ∀ m, PX wt w m = prG (fun y => if 1 ≤ y ∧ y ≤ m then lN (wt y) else 1) w
  | 0 => by
    rw [PX, prG_cg (g := fun _ => 1) (fun y _ => by rw [if_neg (by omega)])]
    induction w with
    | nil => rfl
    | cons y l ih => rw [prG, ← ih]; rfl
  | m + 1 => by
    rw [PX, pk_take wt w (m + 1) _ _ (Nat.le_refl _), List.take_length, PX_G wt w m, prG_mul]
    refine prG_cg (fun y _ => ?_)
    by_cases e : y = m + 1
    · rw [if_neg (by omega), if_pos e, if_pos (by omega), e, Int64.one_mul]
    · rw [if_neg e, Int64.mul_one]
      by_cases q : 1 ≤ y ∧ y ≤ m
      · rw [if_pos q, if_pos (by omega)]
      · rw [if_neg q, if_neg (by omega)]
theorem KX_iff (mode : Nat) (D : Nat → Nat) (w : List Nat) (ok : Bool) (hm : mode ≠ 2) : ∀ n, KX mode D w ok n = true ↔ ok = true ∧ ∀ x, 1 ≤ x → x ≤ n → w.count x = D x
  | 0 => by rw [KX]; exact ⟨fun h => ⟨h, fun x a b => absurd a (by omega)⟩, fun h => h.1⟩
  | n + 1 => by
    rw [KX, Bool.and_eq_true, KX_iff mode D w ok hm n, decide_eq_false hm, Bool.false_or, decide_eq_true_eq, ck_all]
    constructor
    · intro h
      refine ⟨h.1.1, fun x a b => ?_⟩
      by_cases e : x = n + 1
      · rw [e]; exact h.2
      · exact h.1.2 x a (by omega)
    · intro h
      exact ⟨⟨h.1, fun x a b => h.2 x a (by omega)⟩, h.2 (n + 1) (by omega) (Nat.le_refl _)⟩
theorem cnt_sum (n : Nat) : ∀ c : List Nat, (∀ y, y ∈ c → 1 ≤ y ∧ y ≤ n) → sumF (fun i => c.count (i + 1)) n = c.length
  | [], _ => by
    have : ∀ m, sumF (fun i => ([] : List Nat).count (i + 1)) m = 0 := fun m => by
      induction m with
      | zero => rfl
      | succ m ih => rw [sumF, ih]; rfl
    exact this n
  | y :: c, h => by
    have hy := h y List.mem_cons_self
    have ih := cnt_sum n c (fun z hz => h z (List.mem_cons_of_mem _ hz))
    have key : ∀ m, sumF (fun i => (y :: c).count (i + 1)) m = sumF (fun i => c.count (i + 1)) m + (if y ≤ m then 1 else 0) := fun m => by
      induction m with
      | zero => rw [if_neg (by omega)]; rfl
      | succ m ihm =>
        rw [sumF, sumF, ihm, List.count_cons]
        by_cases e : y = m + 1
        · subst e; rw [if_neg (show ¬ m + 1 ≤ m by omega), if_pos (show (m + 1 == m + 1) = true by simp), if_pos (Nat.le_refl (m + 1))]; omega
        · have ne : ¬ (y == m + 1) = true := fun z => e (beq_iff_eq.mp z)
          rw [if_neg ne]
          by_cases q : y ≤ m
          · rw [if_pos q, if_pos (by omega)]; omega
          · rw [if_neg q, if_neg (by omega)]; omega
    rw [key n, if_pos hy.2, ih, List.length_cons]
theorem sumF_eq {f g : Nat → Nat} : ∀ n, (∀ i, i < n → f i ≤ g i) → sumF f n = sumF g n → ∀ i, i < n → f i = g i
  | 0, _, _, i, hi => absurd hi (Nat.not_lt_zero _)
  | n + 1, h, e, i, hi => by
    have hle : ∀ m, m ≤ n → sumF f m ≤ sumF g m := fun m => by
      induction m with
      | zero => intro _; exact Nat.le_refl _
      | succ m ih => intro hm; have a := ih (by omega); have b := h m (by omega); rw [sumF, sumF]; omega
    rw [sumF, sumF] at e
    have a := hle n (Nat.le_refl _)
    have b := h n (by omega)
    by_cases q : i = n
    · subst q; omega
    · exact sumF_eq n (fun j hj => h j (by omega)) (by omega) i (by omega)
theorem sumF_cg9 {f g : Nat → Nat} : ∀ n, (∀ i, i < n → f i = g i) → sumF f n = sumF g n
  | 0, _ => rfl
  | n + 1, h => by rw [sumF, sumF, sumF_cg9 n (fun i hi => h i (by omega)), h n (by omega)]
theorem cnt_out {n y : Nat} {c : List Nat} (h : ∀ y, y ∈ c → 1 ≤ y ∧ y ≤ n) (hy : ¬ (1 ≤ y ∧ y ≤ n)) : c.count y = 0 := List.count_eq_zero.mpr (fun z => hy (h y z))
/-- exact content: no letter more than allowed, and as many in all -/
theorem exact_ok {n : Nat} {c : List Nat} {A : Nat → Nat} (h : ∀ y, y ∈ c → 1 ≤ y ∧ y ≤ n) : (∀ x, 1 ≤ x → x ≤ n → c.count x = A x) ↔ (okA c A = true ∧ sumF (fun i => A (i + 1)) n = c.length) := by
  have hs := cnt_sum n c h
  rw [okA_iff]
  constructor
  · intro q
    refine ⟨fun y => ?_, by rw [← hs]; exact sumF_cg9 n (fun i hi => (q (i + 1) (by omega) (by omega)).symm)⟩
    by_cases z : 1 ≤ y ∧ y ≤ n
    · rw [q y z.1 z.2]; exact Nat.le_refl _
    · rw [cnt_out h z]; exact Nat.zero_le _
  · intro q x a b
    have e := sumF_eq n (f := fun i => c.count (i + 1)) (g := fun i => A (i + 1)) (fun i _ => q.1 (i + 1)) (by rw [hs, q.2]) (x - 1) (by omega)
    simp only [show x - 1 + 1 = x by omega] at e
    exact e
theorem sm_I {b : List Nat → Bool} : ∀ l : List (List Nat), (sm (l.map (fun c => if b c = true then 1 else 0))).toInt32 = smI (l.map (fun c => gBo (b c)))
  | [] => rfl
  | c :: l => by
    rw [List.map_cons, List.map_cons, sm, smI, Int64.toInt32_add, sm_I l]
    cases b c <;> rfl
theorem prW_1 : ∀ l : List Nat, prW (fun _ => nI 1) l = 1
  | [] => rfl
  | y :: l => by rw [prW, prW_1 l]; rfl
