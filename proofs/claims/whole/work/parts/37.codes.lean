/-! ===== codes of words to a base ===== -/
def cdF (n : Nat) (w : List Nat) : Nat → Nat
  | 0 => 0
  | p + 1 => cdF n w p * n + w.getD p 0 - 1
def dcF (n m c : Nat) : List Nat := (List.range m).map (fun p => 1 + c / n ^ (m - 1 - p) % n)
/-- letters 1 to n -/
def LtW (n : Nat) (w : List Nat) : Prop := ∀ p, p < w.length → 1 ≤ w.getD p 0 ∧ w.getD p 0 ≤ n
theorem dcF_len (n m c : Nat) : (dcF n m c).length = m := by simp [dcF]
theorem dcF_get {n m c p : Nat} (hp : p < m) : (dcF n m c).getD p 0 = 1 + c / n ^ (m - 1 - p) % n := by
  rw [List.getD_eq_getElem?_getD]
  simp [dcF, hp]
theorem dcF_lt {n m c : Nat} (hn : 0 < n) : LtW n (dcF n m c) := by
  intro p hp
  rw [dcF_len] at hp
  rw [dcF_get hp]
  have := Nat.mod_lt (c / n ^ (m - 1 - p)) hn
  omega
theorem cdF_lt {n : Nat} {w : List Nat} (hn : 0 < n) (hw : LtW n w) : ∀ p, p ≤ w.length → cdF n w p < n ^ p
  | 0, _ => by simp [cdF]
  | p + 1, hp => by
    have ih := cdF_lt hn hw p (by omega)
    have hx := hw p (by omega)
    unfold cdF
    rw [Nat.pow_succ]
    have h1 : (cdF n w p + 1) * n ≤ n ^ p * n := Nat.mul_le_mul_right n ih
    rw [Nat.succ_mul] at h1
    omega
theorem cdF_dc {n m c : Nat} (hn : 0 < n) : ∀ p, p ≤ m → cdF n (dcF n m c) p = c / n ^ (m - p) % n ^ p
  | 0, _ => by simp [cdF, Nat.mod_one]
  | p + 1, hp => by
    have ih := cdF_dc (n := n) (m := m) (c := c) hn p (by omega)
    unfold cdF
    rw [ih, dcF_get (by omega), show m - 1 - p = m - (p + 1) by omega]
    have e1 : c / n ^ (m - p) = c / n ^ (m - (p + 1)) / n := by
      rw [Nat.div_div_eq_div_mul, ← Nat.pow_succ, show (m - (p + 1)).succ = m - p by omega]
    rw [e1]
    generalize c / n ^ (m - (p + 1)) = x
    rw [Nat.pow_succ, Nat.mul_comm (n ^ p) n, Nat.mod_mul]
    have h2 := Nat.mul_comm (x / n % n ^ p) n
    omega
theorem cdF_dcF {n m c : Nat} (hn : 0 < n) (hc : c < n ^ m) : cdF n (dcF n m c) m = c := by
  rw [cdF_dc hn m (Nat.le_refl _), Nat.sub_self, Nat.pow_zero, Nat.div_one, Nat.mod_eq_of_lt hc]
theorem cdF_inj {n : Nat} {w w' : List Nat} (hn : 0 < n) (hw : LtW n w) (hw' : LtW n w') : ∀ p, p ≤ w.length → p ≤ w'.length → cdF n w p = cdF n w' p → ∀ q, q < p → w.getD q 0 = w'.getD q 0
  | 0, _, _, _ => fun q hq => absurd hq (Nat.not_lt_zero _)
  | p + 1, h1, h2, e => by
    have ih := cdF_inj hn hw hw' p (by omega) (by omega)
    have a1 := hw p (by omega)
    have a2 := hw' p (by omega)
    unfold cdF at e
    have e1 : cdF n w p * n + (w.getD p 0 - 1) = cdF n w' p * n + (w'.getD p 0 - 1) := by omega
    have d1 : (cdF n w p * n + (w.getD p 0 - 1)) / n = cdF n w p := by
      rw [Nat.mul_comm, Nat.mul_add_div hn, Nat.div_eq_of_lt (by omega), Nat.add_zero]
    have d2 : (cdF n w' p * n + (w'.getD p 0 - 1)) / n = cdF n w' p := by
      rw [Nat.mul_comm, Nat.mul_add_div hn, Nat.div_eq_of_lt (by omega), Nat.add_zero]
    rw [e1, d2] at d1
    rw [← d1] at e1
    intro q hq
    by_cases hqp : q = p
    · subst hqp; omega
    · exact ih d1.symm q (by omega)
theorem cd_inj {n : Nat} {w w' : List Nat} (hn : 0 < n) (hw : LtW n w) (hw' : LtW n w') (hl : w.length = w'.length) (e : cdF n w w.length = cdF n w' w'.length) : w = w' :=
  list_ext0 hl (cdF_inj hn hw hw' w.length (Nat.le_refl _) (by omega) (by rw [e, hl]))
theorem dcF_cdF {n : Nat} {w : List Nat} (hn : 0 < n) (hw : LtW n w) : dcF n w.length (cdF n w w.length) = w := by
  refine cd_inj hn (dcF_lt hn) hw (dcF_len _ _ _) ?_
  rw [dcF_len, cdF_dcF hn (cdF_lt hn hw _ (Nat.le_refl _))]
/-- a letter that is lessened by one -/
theorem cdF_set {n x k : Nat} {w : List Nat} (hw : ∀ q, q < w.length → 1 ≤ w.getD q 0) (hk : k < w.length) (hx : w.getD k 0 = x + 1) (hx1 : 1 ≤ x) : ∀ p, p ≤ w.length → k < p → cdF n w p = cdF n (w.set k x) p + n ^ (p - 1 - k)
  | 0, _, h => absurd h (Nat.not_lt_zero _)
  | p + 1, hp, hkp => by
    have low : ∀ q, q ≤ k → cdF n (w.set k x) q = cdF n w q := by
      intro q
      induction q with
      | zero => intro _; rfl
      | succ q ih =>
        intro hq
        unfold cdF
        rw [ih (by omega), getD_set_nat hk, if_neg (by omega)]
    unfold cdF
    rw [getD_set_nat hk]
    by_cases e : p = k
    · subst e
      rw [if_pos rfl, low p (Nat.le_refl _), hx, show p + 1 - 1 - p = 0 by omega, Nat.pow_zero]
      omega
    · have h1 := hw p (by omega)
      rw [if_neg e, cdF_set hw hk hx hx1 p (by omega) (by omega), show p + 1 - 1 - k = (p - 1 - k) + 1 by omega, Nat.pow_succ, Nat.add_mul]
      omega
/-! ===== the tables of families lifted to words ===== -/
def scR (i : Nat) : List Nat → Nat → Nat × Nat → Nat × Nat
  | [], _, s => s
  | a :: r, k, s => scR i r (k + 1) (crN i a k s.1 s.2)
def cdR : List Nat → Nat → Nat
  | [], _ => 0
  | a :: r, k => (a - 1) * 5 ^ k + cdR r (k + 1)
theorem crN_no {i a k : Nat} {s : Nat × Nat} (h1 : a ≠ i) (h2 : a ≠ i + 1) : crN i a k s.1 s.2 = s := by
  unfold crN
  rw [if_neg h1, if_neg h2]
theorem crK_sound {T H : Nat} : ∀ (m k c : Nat) (s1 s2 s3 s4 : Nat × Nat) (r : List Nat), crK T H m k c s1 s2 s3 s4 = true → r.length = m → (∀ a ∈ r, 1 ≤ a ∧ a ≤ 5) → crK T H 0 (k + m) (c + cdR r k) (scR 1 r k s1) (scR 2 r k s2) (scR 3 r k s3) (scR 4 r k s4) = true
  | 0, k, c, s1, s2, s3, s4, r, h, hr, ha => by
    cases r with
    | nil => exact h
    | cons a r => simp at hr
  | m + 1, k, c, s1, s2, s3, s4, r, h, hr, ha => by
    cases r with
    | nil => simp at hr
    | cons a r =>
      have hr2 : r.length = m := by simpa using hr
      have ha2 := fun b hb => ha b (List.mem_cons_of_mem _ hb)
      have ha1 := ha a List.mem_cons_self
      rw [crK] at h
      simp only [Bool.and_eq_true] at h
      obtain ⟨g1, g2, g3, g4, g5⟩ := h
      have hk : k + (m + 1) = k + 1 + m := by omega
      rw [hk]
      simp only [scR, cdR]
      match a, ha1 with
      | 1, _ =>
        have q := crK_sound m _ _ _ _ _ _ r g1 hr2 ha2
        rw [crN_no (i := 2) (by decide) (by decide), crN_no (i := 3) (by decide) (by decide), crN_no (i := 4) (by decide) (by decide)]
        rw [show c + ((1 - 1) * 5 ^ k + cdR r (k + 1)) = c + cdR r (k + 1) by omega]
        exact q
      | 2, _ =>
        have q := crK_sound m _ _ _ _ _ _ r g2 hr2 ha2
        rw [crN_no (i := 3) (by decide) (by decide), crN_no (i := 4) (by decide) (by decide)]
        rw [show c + ((2 - 1) * 5 ^ k + cdR r (k + 1)) = c + 5 ^ k + cdR r (k + 1) by omega]
        exact q
      | 3, _ =>
        have q := crK_sound m _ _ _ _ _ _ r g3 hr2 ha2
        rw [crN_no (i := 1) (by decide) (by decide), crN_no (i := 4) (by decide) (by decide)]
        rw [show c + ((3 - 1) * 5 ^ k + cdR r (k + 1)) = c + 2 * 5 ^ k + cdR r (k + 1) by omega]
        exact q
      | 4, _ =>
        have q := crK_sound m _ _ _ _ _ _ r g4 hr2 ha2
        rw [crN_no (i := 1) (by decide) (by decide), crN_no (i := 2) (by decide) (by decide)]
        rw [show c + ((4 - 1) * 5 ^ k + cdR r (k + 1)) = c + 3 * 5 ^ k + cdR r (k + 1) by omega]
        exact q
      | 5, _ =>
        have q := crK_sound m _ _ _ _ _ _ r g5 hr2 ha2
        rw [crN_no (i := 1) (by decide) (by decide), crN_no (i := 2) (by decide) (by decide), crN_no (i := 3) (by decide) (by decide)]
        rw [show c + ((5 - 1) * 5 ^ k + cdR r (k + 1)) = c + 4 * 5 ^ k + cdR r (k + 1) by omega]
        exact q
      | 0, h => omega
      | j + 6, h => omega
theorem scR_app (i a : Nat) : ∀ (r : List Nat) (k : Nat) (s : Nat × Nat), scR i (r ++ [a]) k s = crN i a (k + r.length) (scR i r k s).1 (scR i r k s).2
  | [], k, s => rfl
  | b :: r, k, s => by
    show scR i (r ++ [a]) (k + 1) _ = _
    rw [scR_app i a r (k + 1)]
    show crN i a (k + 1 + r.length) _ _ = crN i a (k + (r.length + 1)) _ _
    rw [show k + 1 + r.length = k + (r.length + 1) by omega]
    rfl
theorem cdR_app (a : Nat) : ∀ (r : List Nat) (k : Nat), cdR (r ++ [a]) k = cdR r k + (a - 1) * 5 ^ (k + r.length)
  | [], k => by simp [cdR]
  | b :: r, k => by
    show (b - 1) * 5 ^ k + cdR (r ++ [a]) (k + 1) = (b - 1) * 5 ^ k + cdR r (k + 1) + (a - 1) * 5 ^ (k + (r.length + 1))
    rw [cdR_app a r (k + 1), show k + 1 + r.length = k + (r.length + 1) by omega]
    omega
theorem rev_get {w : List Nat} {q : Nat} (hq : q < w.length) : w.reverse.take (q + 1) = w.reverse.take q ++ [w.getD (w.length - 1 - q) 0] := by
  rw [List.take_succ]
  congr 1
  rw [List.getElem?_reverse hq, List.getD_eq_getElem?_getD, List.getElem?_eq_getElem (by omega)]
  rfl
theorem scR_rk (w : List Nat) (i : Nat) : ∀ q, q ≤ w.length → scR i (w.reverse.take q) 0 (0, 0) = ((rkF w i w.length q).1, if (rkF w i w.length q).2.2 = 0 then 0 else w.length + 1 - (rkF w i w.length q).2.2)
  | 0, _ => by simp [scR, rkF]
  | q + 1, hq => by
    have ih := scR_rk w i q (by omega)
    have ok := rkF_ok w i w.length q (by omega)
    rw [rev_get (by omega), scR_app, ih]
    have hl : (w.reverse.take q).length = q := by simp; omega
    rw [hl]
    simp only [Nat.zero_add]
    generalize hR : rkF w i w.length q = R at ok ⊢
    unfold rkF
    rw [hR]
    generalize w.getD (w.length - 1 - q) 0 = a
    obtain ⟨R1, R2, R3⟩ := R
    unfold crN
    by_cases h1 : a = i
    · rw [if_pos h1, if_pos h1]
    · rw [if_neg h1, if_neg h1]
      by_cases h2 : a = i + 1
      · by_cases h3 : R1 = 0
        · subst h3
          simp only [h2, if_true, true_and, Nat.lt_irrefl, if_false]
          rw [if_neg (by omega)]
          simp only [Prod.mk.injEq, true_and]
          omega
        · have h4 : 0 < R1 := Nat.pos_of_ne_zero h3
          simp only [h2, if_true, true_and, h3, h4, if_false]
      · simp only [h2, if_false, false_and]
theorem scR_fh (w : List Nat) (i : Nat) : (scR i w.reverse 0 (0, 0)).2 = if fhC w i = 0 then 0 else w.length + 1 - fhC w i := by
  have h := scR_rk w i w.length (Nat.le_refl _)
  rw [List.take_of_length_le (by simp)] at h
  rw [h]
  rfl
theorem cdR_cd {w : List Nat} (hw : ∀ p, p < w.length → 1 ≤ w.getD p 0) : ∀ q, q ≤ w.length → cdF 5 w w.length = cdF 5 w (w.length - q) * 5 ^ q + cdR (w.reverse.take q) 0
  | 0, _ => by simp [cdR]
  | q + 1, hq => by
    have ih := cdR_cd hw q (by omega)
    rw [rev_get (by omega), cdR_app]
    have hl : (w.reverse.take q).length = q := by simp; omega
    rw [hl, Nat.zero_add]
    rw [ih]
    have e : w.length - q = (w.length - (q + 1)) + 1 := by omega
    have h1 := hw (w.length - (q + 1)) (by omega)
    rw [e]
    conv => lhs; unfold cdF
    rw [show w.length - 1 - q = w.length - (q + 1) by omega]
    have h2 : cdF 5 w (w.length - (q + 1)) * 5 + w.getD (w.length - (q + 1)) 0 - 1 = cdF 5 w (w.length - (q + 1)) * 5 + (w.getD (w.length - (q + 1)) 0 - 1) := by omega
    rw [h2, Nat.add_mul, Nat.mul_assoc, show 5 * 5 ^ q = 5 ^ (q + 1) by rw [Nat.pow_succ, Nat.mul_comm]]
    omega
theorem cdR_all {w : List Nat} (hw : ∀ p, p < w.length → 1 ≤ w.getD p 0) : cdR w.reverse 0 = cdF 5 w w.length := by
  have h := cdR_cd hw w.length (Nat.le_refl _)
  rw [List.take_of_length_le (by simp), Nat.sub_self] at h
  rw [h]
  simp [cdF]
/-- the family of a word -/
def clW (w : List Nat) : Nat := crC (crT w.length) (cdF 5 w w.length)
theorem LtW.mono {n m : Nat} {w : List Nat} (h : LtW n w) (hn : n ≤ m) : LtW m w := fun p hp => ⟨(h p hp).1, Nat.le_trans (h p hp).2 hn⟩
theorem crK_w {w : List Nat} (hl : w.length ≤ 6) (hw : LtW 5 w) : crK (crT w.length) (crH w.length) 0 w.length (cdF 5 w w.length) (scR 1 w.reverse 0 (0, 0)) (scR 2 w.reverse 0 (0, 0)) (scR 3 w.reverse 0 (0, 0)) (scR 4 w.reverse 0 (0, 0)) = true := by
  have key : crK (crT w.length) (crH w.length) w.length 0 0 (0, 0) (0, 0) (0, 0) (0, 0) = true := by
    generalize w.length = m at hl
    match m, hl with
    | 0, _ => exact crK0
    | 1, _ => exact crK1
    | 2, _ => exact crK2
    | 3, _ => exact crK3
    | 4, _ => exact crK4
    | 5, _ => exact crK5
    | 6, _ => exact crK6
    | k + 7, h => omega
  have h := crK_sound w.length 0 0 _ _ _ _ w.reverse key (by simp) (fun a ha => by
    rw [List.mem_reverse] at ha
    obtain ⟨p, hp, rfl⟩ := List.getElem_of_mem ha
    have := hw p hp
    rw [List.getD_eq_getElem?_getD, List.getElem?_eq_getElem hp] at this
    exact this)
  rw [cdR_all (fun p hp => (hw p hp).1), Nat.zero_add, Nat.zero_add] at h
  exact h
theorem LtW_set {n k x : Nat} {w : List Nat} (hw : LtW n w) (h1 : 1 ≤ x) (h2 : x ≤ n) : LtW n (w.set k x) := by
  intro p hp
  rw [List.length_set] at hp
  rw [List.getD_eq_getElem?_getD, List.getElem?_set]
  by_cases e : k = p
  · subst e
    rw [if_pos rfl, if_pos hp]
    exact ⟨h1, h2⟩
  · rw [if_neg e, ← List.getD_eq_getElem?_getD]
    exact hw p hp
theorem LtW_raise {n i : Nat} {w : List Nat} (hw : LtW n w) (hi : 1 ≤ i) (hin : i ≤ n) : LtW n (raiseW w i) := by
  unfold raiseW
  split
  · exact hw
  · exact LtW_set hw hi hin
theorem LtW_lower {n i : Nat} {w : List Nat} (hw : LtW n w) (hin : i < n) : LtW n (lowerW w i) := by
  unfold lowerW
  split
  · exact hw
  · exact LtW_set hw (by omega) (by omega)
/-- raising stays in the family -/
theorem cl_raise {w : List Nat} {i : Nat} (hl : w.length ≤ 6) (hw : LtW 5 w) (hi : 1 ≤ i) (hi4 : i ≤ 4) : clW (raiseW w i) = clW w := by
  by_cases hf : fhC w i = 0
  · unfold raiseW; rw [if_pos hf]
  have h := crK_w hl hw
  unfold crK at h
  simp only [Bool.and_eq_true] at h
  have hL : crL (crT w.length) (cdF 5 w w.length) (scR i w.reverse 0 (0, 0)).2 = true := by
    obtain ⟨g1, g2, g3, g4, -⟩ := h
    match i, hi, hi4 with
    | 1, _, _ => exact g1
    | 2, _, _ => exact g2
    | 3, _, _ => exact g3
    | 4, _, _ => exact g4
  rw [scR_fh, if_neg hf] at hL
  have hle := fhC_le w i
  unfold crL at hL
  rw [if_neg (by omega)] at hL
  have h1 := (fh_facts hl hi hf).1
  have hs := cdF_set (n := 5) (k := fhC w i - 1) (fun p hp => (hw p hp).1) (by omega) h1 hi w.length (Nat.le_refl _) (by omega)
  have e : raiseW w i = w.set (fhC w i - 1) i := by unfold raiseW; rw [if_neg hf]
  unfold clW
  rw [raiseW_len, e]
  have e2 : w.length + 1 - fhC w i - 1 = w.length - 1 - (fhC w i - 1) := by omega
  rw [e2] at hL
  have e3 : cdF 5 w w.length - 5 ^ (w.length - 1 - (fhC w i - 1)) = cdF 5 (w.set (fhC w i - 1) i) w.length := by omega
  rw [e3] at hL
  exact eq_of_beq hL
theorem cl_lower {w : List Nat} {i : Nat} (hl : w.length ≤ 6) (hw : LtW 5 w) (hi : 1 ≤ i) (hi4 : i ≤ 4) : clW (lowerW w i) = clW w := by
  by_cases hf : llC w i = 0
  · unfold lowerW; rw [if_pos hf]
  have h1 := cl_raise (w := lowerW w i) (by rw [lowerW_len]; exact hl) (LtW_lower hw (by omega)) hi hi4
  rw [raise_lower hl hi hf] at h1
  exact h1.symm
/-- a family has one highest word -/
theorem cl_top {w w' : List Nat} (hl : w.length ≤ 6) (hw : LtW 5 w) (hw' : LtW 5 w') (hll : w.length = w'.length) (h1 : ∀ i, 1 ≤ i → i ≤ 4 → fhC w i = 0) (h2 : ∀ i, 1 ≤ i → i ≤ 4 → fhC w' i = 0) (hc : clW w = clW w') : w = w' := by
  have key : ∀ v : List Nat, v.length ≤ 6 → LtW 5 v → (∀ i, 1 ≤ i → i ≤ 4 → fhC v i = 0) → (crH v.length >>> (14 * clW v)) % 16384 = cdF 5 v v.length := by
    intro v vl vw vf
    have h := crK_w vl vw
    unfold crK at h
    simp only [Bool.and_eq_true] at h
    obtain ⟨-, -, -, -, g⟩ := h
    rw [scR_fh, scR_fh, scR_fh, scR_fh, vf 1 (by decide) (by decide), vf 2 (by decide) (by decide), vf 3 (by decide) (by decide), vf 4 (by decide) (by decide)] at g
    simp only [if_true, Nat.add_zero, beq_iff_eq] at g
    exact g
  have k1 := key w hl hw h1
  have k2 := key w' (by omega) hw' h2
  rw [← hll, ← hc, k1] at k2
  exact cd_inj (by decide) hw hw' hll (by rw [k2, hll])
