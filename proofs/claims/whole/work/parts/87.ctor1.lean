/-! ===== constructors: what they make ===== -/
def hTh (h : gH) (t : Nat) : gH := sR (sR (sI h t 0 (nI 0)) t 2 (some (t + 1))) t 4 (some (t + 2))
def hX2 (h : gH) (t : Nat) : gH := sR (sR (sR h t 2 (some (t + 1))) t 3 (some (t + 2))) t 4 (some (t + 3))
def hX7 (h : gH) (t : Nat) : gH := sR h t 4 (some (t + 1))
def hX4 (h : gH) (t : Nat) : gH := sR h t 2 (some (t + 1))
def hX5 (h : gH) (t : Nat) : gH := sR (sI h t 0 (-1)) t 2 (some (t + 1))
def hX3 (h : gH) (t : Nat) : gH := sR (hX2 (sR (hTh h (t + 1)) t 4 (some (t + 1))) (t + 4)) t 5 (some (t + 4))
def hX0 (h : gH) (t : Nat) : gH := sR (hTh (sR (hTh (sR (sR (sI h t 1 (nI 3)) t 3 (some (t + 1))) t 4 (some (t + 2))) (t + 3)) t 5 (some (t + 3))) (t + 6)) t 6 (some (t + 6))
def hX1 (h : gH) (t : Nat) : gH := sR (hTh (sR (sR (sR h t 0 (some (t + 1))) t 1 (some (t + 2))) t 2 (some (t + 3))) (t + 4)) t 6 (some (t + 4))
def hX6L (h : gH) (b : Nat) : Nat → gH
  | 0 => sR (sR (sI (sI h b 0 (nI 3)) b 1 (nI 1)) b 2 (some (b + 1))) b 3 (some (b + 2))
  | i + 1 => sR (hTh (hX6L h b i) (b + 3 + 3 * i)) (b + 1) i (some (b + 3 + 3 * i))
def hFl (h : gH) (t : Nat) (x : Int32) : Nat → gH
  | 0 => h
  | i + 1 => sI (hFl h t x i) t i x
def hX6 (h : gH) (b : Nat) : gH := hFl (hX6L h b 6) (b + 2) (nI 1) 6
def hX9A (h : gH) : gH := sR (hTh (sR (hTh (sR (hX4 (sR (hX4 (sR (hX4 (sR (hX1 (sR (hX0 (sR (hX2 (sR (hX3 (sR (sR (hX7 (sR (hX6 (sR (hX6 h 1) 0 0 (some 1)) 22) 0 1 (some 22)) 43) 0 3 (some 43)) 0 4 (some 45)) 46) 0 5 (some 46)) 54) 0 6 (some 54)) 58) 0 7 (some 58)) 67) 0 8 (some 67)) 74) 0 9 (some 74)) 76) 0 10 (some 76)) 78) 0 11 (some 78)) 80) 0 12 (some 80)) 83) 0 13 (some 83)
def hX9L (h : gH) : Nat → gH
  | 0 => hX9A h
  | i + 1 => sR (hX5 (hX9L h i) (86 + 2 * i)) 45 i (some (86 + 2 * i))
theorem zI {N t k : Nat} {h : gH} {v : Int32} (ht : t < N) (z : gZ N h) : gZ N (sI h t k v) := gZ.sI z ht
theorem zR {N t k : Nat} {h : gH} {v : Option Nat} (ht : t < N) (z : gZ N h) : gZ N (sR h t k v) := gZ.sR z ht
theorem zTh {N t : Nat} {h : gH} (ht : t < N) (z : gZ N h) : gZ N (hTh h t) := zR ht (zR ht (zI ht z))
theorem zX2 {N t : Nat} {h : gH} (ht : t < N) (z : gZ N h) : gZ N (hX2 h t) := zR ht (zR ht (zR ht z))
theorem zX7 {N t : Nat} {h : gH} (ht : t < N) (z : gZ N h) : gZ N (hX7 h t) := zR ht z
theorem zX4 {N t : Nat} {h : gH} (ht : t < N) (z : gZ N h) : gZ N (hX4 h t) := zR ht z
theorem zX5 {N t : Nat} {h : gH} (ht : t < N) (z : gZ N h) : gZ N (hX5 h t) := zR ht (zI ht z)
theorem zX3 {N t : Nat} {h : gH} (ht : t + 4 < N) (z : gZ N h) : gZ N (hX3 h t) := zR (by omega) (zX2 (by omega) (zR (by omega) (zTh (by omega) z)))
theorem zX0 {N t : Nat} {h : gH} (ht : t + 6 < N) (z : gZ N h) : gZ N (hX0 h t) := zR (by omega) (zTh (by omega) (zR (by omega) (zTh (by omega) (zR (by omega) (zR (by omega) (zI (by omega) z))))))
theorem zX1 {N t : Nat} {h : gH} (ht : t + 4 < N) (z : gZ N h) : gZ N (hX1 h t) := zR (by omega) (zTh (by omega) (zR (by omega) (zR (by omega) (zR (by omega) z))))
theorem zFl {N t : Nat} {h : gH} {x : Int32} (ht : t < N) (z : gZ N h) : ∀ i, gZ N (hFl h t x i)
  | 0 => z
  | i + 1 => zI ht (zFl ht z i)
theorem zX6L {N b : Nat} {h : gH} : ∀ {i : Nat}, (b + 3 + 3 * i ≤ N) → gZ N h → gZ N (hX6L h b i)
  | 0, ht, z => zR (by omega) (zR (by omega) (zI (by omega) (zI (by omega) z)))
  | i + 1, ht, z => zR (by omega) (zTh (by omega) (zX6L (by omega) z))
theorem zX6 {N b : Nat} {h : gH} (ht : b + 21 ≤ N) (z : gZ N h) : gZ N (hX6 h b) := zFl (by omega) (zX6L (by omega) z) 6
theorem zX9A {N : Nat} {h : gH} (ht : 86 ≤ N) (z : gZ N h) : gZ N (hX9A h) := by
  unfold hX9A
  repeat (first | with_reducible refine zR (by omega) ?_ | with_reducible refine zTh (by omega) ?_ | with_reducible refine zX2 (by omega) ?_ | with_reducible refine zX3 (by omega) ?_ | with_reducible refine zX4 (by omega) ?_ | with_reducible refine zX7 (by omega) ?_ | with_reducible refine zX0 (by omega) ?_ | with_reducible refine zX1 (by omega) ?_ | with_reducible refine zX6 (by omega) ?_)
  exact z
theorem zX9L {N : Nat} {h : gH} : ∀ {i : Nat}, (86 + 2 * i ≤ N) → gZ N h → gZ N (hX9L h i)
  | 0, ht, z => zX9A (by omega) z
  | i + 1, ht, z => zR (by omega) (zX5 (by omega) (zX9L (by omega) z))
theorem rTh {h : gH} {t a k : Nat} (ha : a ≠ t) : gR (hTh h t) a k = gR h a k := by
  unfold hTh
  rw [gR_sR, if_neg (fun q => ha q.1), gR_sR, if_neg (fun q => ha q.1), gR_sI]
theorem rX5 {h : gH} {t a k : Nat} (ha : a ≠ t) : gR (hX5 h t) a k = gR h a k := by
  unfold hX5
  rw [gR_sR, if_neg (fun q => ha q.1), gR_sI]
theorem rX6L {h : gH} {b : Nat} : ∀ i, gR (hX6L h b i) b 2 = some (b + 1) ∧ gR (hX6L h b i) b 3 = some (b + 2)
  | 0 => by
    unfold hX6L
    rw [gR_sR, if_neg (by omega), gR_sR, if_pos ⟨rfl, rfl⟩, gR_sR, if_pos ⟨rfl, rfl⟩]
    exact ⟨rfl, rfl⟩
  | i + 1 => by
    unfold hX6L
    rw [gR_sR, if_neg (by omega), rTh (by omega), gR_sR, if_neg (by omega), rTh (by omega)]
    exact rX6L i
theorem rX9L {h : gH} : ∀ i, gR (hX9L h i) 0 4 = some 45
  | 0 => rfl
  | i + 1 => by
    unfold hX9L
    rw [gR_sR, if_neg (by omega), rX5 (by omega)]
    exact rX9L i
section C87
variable {Γ : gM} {d : Nat} {h : gH} {Q : Option Value → gH → Prop} {t : Nat}
set_option maxRecDepth 100000 in
set_option maxHeartbeats 4000000 in
theorem i_Th (l0 : lay t = some (.inr 8)) (l1 : lay (t + 1) = some (.inl (0, 6))) (l2 : lay (t + 2) = some (.inl (0, 6))) (hz : gZ (t + 1) h) (hd : 1 ≤ d) (hQ : Q none (hTh h t)) : V Γ mX8_init d (t + 1) (t + 3) h 0 [some (.ref t)] [] Q := by
  refine V_aloadn0 dX8_init_0 ?_
  refine V_objInit dX8_init_1 lX8_3 (Nat.le_of_ble_eq_true rfl) (by omega) ?_
  refine V_aloadn0 dX8_init_4 ?_
  refine V_iconst (v := nI 0) dX8_init_5 (by decide) ?_
  refine V_putI dX8_init_6 fX8_11 (by first | assumption | rfl) (by first | decide | omega) ?_
  refine V_aloadn0 dX8_init_9 ?_
  refine V_bipush (v := nI 6) dX8_init_10 (by decide) ?_
  refine V_newI dX8_init_12 gArrI (by first | assumption | rfl) (by first | decide | omega) (by (repeat (first | with_reducible refine zI (by omega) ?_ | with_reducible refine zR (by omega) ?_ | with_reducible refine zTh (by omega) ?_ | with_reducible refine zX2 (by omega) ?_ | with_reducible refine zX3 (by omega) ?_ | with_reducible refine zX4 (by omega) ?_ | with_reducible refine zX5 (by omega) ?_ | with_reducible refine zX7 (by omega) ?_ | with_reducible refine zX0 (by omega) ?_ | with_reducible refine zX1 (by omega) ?_ | with_reducible refine zX6 (by omega) ?_ | with_reducible refine zX6L (by omega) ?_ | with_reducible refine zX9A (by omega) ?_ | with_reducible refine zX9L (by omega) ?_)); exact gZ.mono (by assumption) (by omega)) ?_
  refine V_putF dX8_init_14 fX8_15 rfl rfl (by first | assumption | rfl) (by first | decide | omega) ?_
  refine V_aloadn0 dX8_init_17 ?_
  refine V_bipush (v := nI 6) dX8_init_18 (by decide) ?_
  refine V_newI dX8_init_20 gArrI (by first | assumption | rfl) (by first | decide | omega) (by (repeat (first | with_reducible refine zI (by omega) ?_ | with_reducible refine zR (by omega) ?_ | with_reducible refine zTh (by omega) ?_ | with_reducible refine zX2 (by omega) ?_ | with_reducible refine zX3 (by omega) ?_ | with_reducible refine zX4 (by omega) ?_ | with_reducible refine zX5 (by omega) ?_ | with_reducible refine zX7 (by omega) ?_ | with_reducible refine zX0 (by omega) ?_ | with_reducible refine zX1 (by omega) ?_ | with_reducible refine zX6 (by omega) ?_ | with_reducible refine zX6L (by omega) ?_ | with_reducible refine zX9A (by omega) ?_ | with_reducible refine zX9L (by omega) ?_)); exact gZ.mono (by assumption) (by omega)) ?_
  refine V_putF dX8_init_22 fX8_19 rfl rfl (by first | assumption | rfl) (by first | decide | omega) ?_
  refine V_ret dX8_init_25 rfl ?_
  exact hQ
set_option maxRecDepth 100000 in
set_option maxHeartbeats 4000000 in
theorem i_X2 (l0 : lay t = some (.inr 2)) (l1 : lay (t + 1) = some (.inl (0, 6))) (l2 : lay (t + 2) = some (.inl (0, 36))) (l3 : lay (t + 3) = some (.inl (0, 36))) (hz : gZ (t + 1) h) (hd : 1 ≤ d) (hQ : Q none (hX2 h t)) : V Γ mX2_init d (t + 1) (t + 4) h 0 [some (.ref t)] [] Q := by
  refine V_aloadn0 dX2_init_0 ?_
  refine V_objInit dX2_init_1 lX2_3 (Nat.le_of_ble_eq_true rfl) (by omega) ?_
  refine V_aloadn0 dX2_init_4 ?_
  refine V_bipush (v := nI 6) dX2_init_5 (by decide) ?_
  refine V_newI dX2_init_7 gArrI (by first | assumption | rfl) (by first | decide | omega) (by (repeat (first | with_reducible refine zI (by omega) ?_ | with_reducible refine zR (by omega) ?_ | with_reducible refine zTh (by omega) ?_ | with_reducible refine zX2 (by omega) ?_ | with_reducible refine zX3 (by omega) ?_ | with_reducible refine zX4 (by omega) ?_ | with_reducible refine zX5 (by omega) ?_ | with_reducible refine zX7 (by omega) ?_ | with_reducible refine zX0 (by omega) ?_ | with_reducible refine zX1 (by omega) ?_ | with_reducible refine zX6 (by omega) ?_ | with_reducible refine zX6L (by omega) ?_ | with_reducible refine zX9A (by omega) ?_ | with_reducible refine zX9L (by omega) ?_)); exact gZ.mono (by assumption) (by omega)) ?_
  refine V_putF dX2_init_9 fX2_9 rfl rfl (by first | assumption | rfl) (by first | decide | omega) ?_
  refine V_aloadn0 dX2_init_12 ?_
  refine V_bipush (v := nI 36) dX2_init_13 (by decide) ?_
  refine V_newI dX2_init_15 gArrI (by first | assumption | rfl) (by first | decide | omega) (by (repeat (first | with_reducible refine zI (by omega) ?_ | with_reducible refine zR (by omega) ?_ | with_reducible refine zTh (by omega) ?_ | with_reducible refine zX2 (by omega) ?_ | with_reducible refine zX3 (by omega) ?_ | with_reducible refine zX4 (by omega) ?_ | with_reducible refine zX5 (by omega) ?_ | with_reducible refine zX7 (by omega) ?_ | with_reducible refine zX0 (by omega) ?_ | with_reducible refine zX1 (by omega) ?_ | with_reducible refine zX6 (by omega) ?_ | with_reducible refine zX6L (by omega) ?_ | with_reducible refine zX9A (by omega) ?_ | with_reducible refine zX9L (by omega) ?_)); exact gZ.mono (by assumption) (by omega)) ?_
  refine V_putF dX2_init_17 fX2_15 rfl rfl (by first | assumption | rfl) (by first | decide | omega) ?_
  refine V_aloadn0 dX2_init_20 ?_
  refine V_bipush (v := nI 36) dX2_init_21 (by decide) ?_
  refine V_newI dX2_init_23 gArrI (by first | assumption | rfl) (by first | decide | omega) (by (repeat (first | with_reducible refine zI (by omega) ?_ | with_reducible refine zR (by omega) ?_ | with_reducible refine zTh (by omega) ?_ | with_reducible refine zX2 (by omega) ?_ | with_reducible refine zX3 (by omega) ?_ | with_reducible refine zX4 (by omega) ?_ | with_reducible refine zX5 (by omega) ?_ | with_reducible refine zX7 (by omega) ?_ | with_reducible refine zX0 (by omega) ?_ | with_reducible refine zX1 (by omega) ?_ | with_reducible refine zX6 (by omega) ?_ | with_reducible refine zX6L (by omega) ?_ | with_reducible refine zX9A (by omega) ?_ | with_reducible refine zX9L (by omega) ?_)); exact gZ.mono (by assumption) (by omega)) ?_
  refine V_putF dX2_init_25 fX2_18 rfl rfl (by first | assumption | rfl) (by first | decide | omega) ?_
  refine V_ret dX2_init_28 rfl ?_
  exact hQ
set_option maxRecDepth 100000 in
set_option maxHeartbeats 4000000 in
theorem i_X7 (l0 : lay t = some (.inr 7)) (l1 : lay (t + 1) = some (.inl (0, 60))) (hz : gZ (t + 1) h) (hd : 1 ≤ d) (hQ : Q none (hX7 h t)) : V Γ mX7_init d (t + 1) (t + 2) h 0 [some (.ref t)] [] Q := by
  refine V_aloadn0 dX7_init_0 ?_
  refine V_objInit dX7_init_1 lX7_3 (Nat.le_of_ble_eq_true rfl) (by omega) ?_
  refine V_aloadn0 dX7_init_4 ?_
  refine V_bipush (v := nI 60) dX7_init_5 (by decide) ?_
  refine V_newI dX7_init_7 gArrI (by first | assumption | rfl) (by first | decide | omega) (by (repeat (first | with_reducible refine zI (by omega) ?_ | with_reducible refine zR (by omega) ?_ | with_reducible refine zTh (by omega) ?_ | with_reducible refine zX2 (by omega) ?_ | with_reducible refine zX3 (by omega) ?_ | with_reducible refine zX4 (by omega) ?_ | with_reducible refine zX5 (by omega) ?_ | with_reducible refine zX7 (by omega) ?_ | with_reducible refine zX0 (by omega) ?_ | with_reducible refine zX1 (by omega) ?_ | with_reducible refine zX6 (by omega) ?_ | with_reducible refine zX6L (by omega) ?_ | with_reducible refine zX9A (by omega) ?_ | with_reducible refine zX9L (by omega) ?_)); exact gZ.mono (by assumption) (by omega)) ?_
  refine V_putF dX7_init_9 fX7_9 rfl rfl (by first | assumption | rfl) (by first | decide | omega) ?_
  refine V_ret dX7_init_12 rfl ?_
  exact hQ
set_option maxRecDepth 100000 in
set_option maxHeartbeats 4000000 in
theorem i_X4 (l0 : lay t = some (.inr 4)) (l1 : lay (t + 1) = some (.inl (0, 6))) (hz : gZ (t + 1) h) (hd : 1 ≤ d) (hQ : Q none (hX4 h t)) : V Γ mX4_init d (t + 1) (t + 2) h 0 [some (.ref t)] [] Q := by
  refine V_aloadn0 dX4_init_0 ?_
  refine V_objInit dX4_init_1 lX4_3 (Nat.le_of_ble_eq_true rfl) (by omega) ?_
  refine V_aloadn0 dX4_init_4 ?_
  refine V_bipush (v := nI 6) dX4_init_5 (by decide) ?_
  refine V_newI dX4_init_7 gArrI (by first | assumption | rfl) (by first | decide | omega) (by (repeat (first | with_reducible refine zI (by omega) ?_ | with_reducible refine zR (by omega) ?_ | with_reducible refine zTh (by omega) ?_ | with_reducible refine zX2 (by omega) ?_ | with_reducible refine zX3 (by omega) ?_ | with_reducible refine zX4 (by omega) ?_ | with_reducible refine zX5 (by omega) ?_ | with_reducible refine zX7 (by omega) ?_ | with_reducible refine zX0 (by omega) ?_ | with_reducible refine zX1 (by omega) ?_ | with_reducible refine zX6 (by omega) ?_ | with_reducible refine zX6L (by omega) ?_ | with_reducible refine zX9A (by omega) ?_ | with_reducible refine zX9L (by omega) ?_)); exact gZ.mono (by assumption) (by omega)) ?_
  refine V_putF dX4_init_9 fX4_9 rfl rfl (by first | assumption | rfl) (by first | decide | omega) ?_
  refine V_ret dX4_init_12 rfl ?_
  exact hQ
set_option maxRecDepth 100000 in
set_option maxHeartbeats 4000000 in
theorem i_X5 (l0 : lay t = some (.inr 5)) (l1 : lay (t + 1) = some (.inl (1, 40))) (hz : gZ (t + 1) h) (hd : 1 ≤ d) (hQ : Q none (hX5 h t)) : V Γ mX5_init d (t + 1) (t + 2) h 0 [some (.ref t)] [] Q := by
  refine V_aloadn0 dX5_init_0 ?_
  refine V_objInit dX5_init_1 lX5_3 (Nat.le_of_ble_eq_true rfl) (by omega) ?_
  refine V_aloadn0 dX5_init_4 ?_
  refine V_iconst (v := -1) dX5_init_5 (by decide) ?_
  refine V_putI dX5_init_6 fX5_9 (by first | assumption | rfl) (by first | decide | omega) ?_
  refine V_aloadn0 dX5_init_9 ?_
  refine V_bipush (v := nI 40) dX5_init_10 (by decide) ?_
  refine V_newL dX5_init_12 gArrL (by first | assumption | rfl) (by first | decide | omega) (by (repeat (first | with_reducible refine zI (by omega) ?_ | with_reducible refine zR (by omega) ?_ | with_reducible refine zTh (by omega) ?_ | with_reducible refine zX2 (by omega) ?_ | with_reducible refine zX3 (by omega) ?_ | with_reducible refine zX4 (by omega) ?_ | with_reducible refine zX5 (by omega) ?_ | with_reducible refine zX7 (by omega) ?_ | with_reducible refine zX0 (by omega) ?_ | with_reducible refine zX1 (by omega) ?_ | with_reducible refine zX6 (by omega) ?_ | with_reducible refine zX6L (by omega) ?_ | with_reducible refine zX9A (by omega) ?_ | with_reducible refine zX9L (by omega) ?_)); exact gZ.mono (by assumption) (by omega)) ?_
  refine V_putF dX5_init_14 fX5_15 rfl rfl (by first | assumption | rfl) (by first | decide | omega) ?_
  refine V_ret dX5_init_17 rfl ?_
  exact hQ
set_option maxRecDepth 100000 in
set_option maxHeartbeats 4000000 in
theorem i_X3 (l0 : lay t = some (.inr 3)) (a0 : lay (t + 1) = some (.inr 8)) (a1 : lay (t + 2) = some (.inl (0, 6))) (a2 : lay (t + 3) = some (.inl (0, 6))) (b0 : lay (t + 4) = some (.inr 2)) (b1 : lay (t + 5) = some (.inl (0, 6))) (b2 : lay (t + 6) = some (.inl (0, 36))) (b3 : lay (t + 7) = some (.inl (0, 36))) (hz : gZ (t + 1) h) (hd : 2 ≤ d) (hQ : Q none (hX3 h t)) : V Γ mX3_init d (t + 1) (t + 8) h 0 [some (.ref t)] [] Q := by
  refine V_aloadn0 dX3_init_0 ?_
  refine V_objInit dX3_init_1 lX3_3 (Nat.le_of_ble_eq_true rfl) (by omega) ?_
  refine V_aloadn0 dX3_init_4 ?_
  refine V_new (ci := 8) dX3_init_5 rfl ⟨cX3_9, nX8⟩ (by first | assumption | rfl) (by first | decide | omega) (by (repeat (first | with_reducible refine zI (by omega) ?_ | with_reducible refine zR (by omega) ?_ | with_reducible refine zTh (by omega) ?_ | with_reducible refine zX2 (by omega) ?_ | with_reducible refine zX3 (by omega) ?_ | with_reducible refine zX4 (by omega) ?_ | with_reducible refine zX5 (by omega) ?_ | with_reducible refine zX7 (by omega) ?_ | with_reducible refine zX0 (by omega) ?_ | with_reducible refine zX1 (by omega) ?_ | with_reducible refine zX6 (by omega) ?_ | with_reducible refine zX6L (by omega) ?_ | with_reducible refine zX9A (by omega) ?_ | with_reducible refine zX9L (by omega) ?_)); exact gZ.mono (by assumption) (by omega)) ?_
  first | refine V_dupa dX3_init_8 ?_ | refine V_dupi dX3_init_8 ?_
  refine V_callIN (N1 := t + 4) (μ' := mX8_init) dX3_init_9 okX8_init lX3_11 (Nat.le_of_ble_eq_true rfl) (by decide) (by omega) (by omega) (by omega) ?_
  refine i_Th (t := t + 1) a0 a1 a2 (gZ.mono hz (by omega)) (by omega) ?_
  dsimp only [gPush]
  refine V_putF dX3_init_12 fX3_12 rfl rfl (by first | assumption | rfl) (by first | decide | omega) ?_
  refine V_aloadn0 dX3_init_15 ?_
  refine V_new (ci := 2) dX3_init_16 rfl ⟨cX3_18, nX2⟩ (by first | assumption | rfl) (by first | decide | omega) (by (repeat (first | with_reducible refine zI (by omega) ?_ | with_reducible refine zR (by omega) ?_ | with_reducible refine zTh (by omega) ?_ | with_reducible refine zX2 (by omega) ?_ | with_reducible refine zX3 (by omega) ?_ | with_reducible refine zX4 (by omega) ?_ | with_reducible refine zX5 (by omega) ?_ | with_reducible refine zX7 (by omega) ?_ | with_reducible refine zX0 (by omega) ?_ | with_reducible refine zX1 (by omega) ?_ | with_reducible refine zX6 (by omega) ?_ | with_reducible refine zX6L (by omega) ?_ | with_reducible refine zX9A (by omega) ?_ | with_reducible refine zX9L (by omega) ?_)); exact gZ.mono (by assumption) (by omega)) ?_
  first | refine V_dupa dX3_init_19 ?_ | refine V_dupi dX3_init_19 ?_
  refine V_callIN (N1 := t + 8) (μ' := mX2_init) dX3_init_20 okX2_init lX3_20 (Nat.le_of_ble_eq_true rfl) (by decide) (by omega) (by omega) (by omega) ?_
  refine i_X2 (t := t + 4) b0 b1 b2 b3 (by (repeat (first | with_reducible refine zI (by omega) ?_ | with_reducible refine zR (by omega) ?_ | with_reducible refine zTh (by omega) ?_ | with_reducible refine zX2 (by omega) ?_ | with_reducible refine zX3 (by omega) ?_ | with_reducible refine zX4 (by omega) ?_ | with_reducible refine zX5 (by omega) ?_ | with_reducible refine zX7 (by omega) ?_ | with_reducible refine zX0 (by omega) ?_ | with_reducible refine zX1 (by omega) ?_ | with_reducible refine zX6 (by omega) ?_ | with_reducible refine zX6L (by omega) ?_ | with_reducible refine zX9A (by omega) ?_ | with_reducible refine zX9L (by omega) ?_)); exact gZ.mono (by assumption) (by omega)) (by omega) ?_
  dsimp only [gPush]
  refine V_putF dX3_init_23 fX3_21 rfl rfl (by first | assumption | rfl) (by first | decide | omega) ?_
  refine V_ret dX3_init_26 rfl ?_
  exact hQ
set_option maxRecDepth 100000 in
set_option maxHeartbeats 4000000 in
theorem i_X0 (l0 : lay t = some (.inr 0)) (l1 : lay (t + 1) = some (.inl (1, 245))) (l2 : lay (t + 2) = some (.inl (0, 512))) (a0 : lay (t + 3) = some (.inr 8)) (a1 : lay (t + 4) = some (.inl (0, 6))) (a2 : lay (t + 5) = some (.inl (0, 6))) (b0 : lay (t + 6) = some (.inr 8)) (b1 : lay (t + 7) = some (.inl (0, 6))) (b2 : lay (t + 8) = some (.inl (0, 6))) (hz : gZ (t + 1) h) (hd : 2 ≤ d) (hQ : Q none (hX0 h t)) : V Γ mX0_init d (t + 1) (t + 9) h 0 [some (.ref t)] [] Q := by
  refine V_aloadn0 dX0_init_0 ?_
  refine V_objInit dX0_init_1 lX0_3 (Nat.le_of_ble_eq_true rfl) (by omega) ?_
  refine V_aloadn0 dX0_init_4 ?_
  refine V_iconst (v := nI 3) dX0_init_5 (by decide) ?_
  refine V_putI dX0_init_6 fX0_9 (by first | assumption | rfl) (by first | decide | omega) ?_
  refine V_aloadn0 dX0_init_9 ?_
  refine V_sipush (v := nI 245) dX0_init_10 (by decide) ?_
  refine V_newL dX0_init_13 gArrL (by first | assumption | rfl) (by first | decide | omega) (by (repeat (first | with_reducible refine zI (by omega) ?_ | with_reducible refine zR (by omega) ?_ | with_reducible refine zTh (by omega) ?_ | with_reducible refine zX2 (by omega) ?_ | with_reducible refine zX3 (by omega) ?_ | with_reducible refine zX4 (by omega) ?_ | with_reducible refine zX5 (by omega) ?_ | with_reducible refine zX7 (by omega) ?_ | with_reducible refine zX0 (by omega) ?_ | with_reducible refine zX1 (by omega) ?_ | with_reducible refine zX6 (by omega) ?_ | with_reducible refine zX6L (by omega) ?_ | with_reducible refine zX9A (by omega) ?_ | with_reducible refine zX9L (by omega) ?_)); exact gZ.mono (by assumption) (by omega)) ?_
  refine V_putF dX0_init_15 fX0_15 rfl rfl (by first | assumption | rfl) (by first | decide | omega) ?_
  refine V_aloadn0 dX0_init_18 ?_
  refine V_sipush (v := nI 512) dX0_init_19 (by decide) ?_
  refine V_newI dX0_init_22 gArrI (by first | assumption | rfl) (by first | decide | omega) (by (repeat (first | with_reducible refine zI (by omega) ?_ | with_reducible refine zR (by omega) ?_ | with_reducible refine zTh (by omega) ?_ | with_reducible refine zX2 (by omega) ?_ | with_reducible refine zX3 (by omega) ?_ | with_reducible refine zX4 (by omega) ?_ | with_reducible refine zX5 (by omega) ?_ | with_reducible refine zX7 (by omega) ?_ | with_reducible refine zX0 (by omega) ?_ | with_reducible refine zX1 (by omega) ?_ | with_reducible refine zX6 (by omega) ?_ | with_reducible refine zX6L (by omega) ?_ | with_reducible refine zX9A (by omega) ?_ | with_reducible refine zX9L (by omega) ?_)); exact gZ.mono (by assumption) (by omega)) ?_
  refine V_putF dX0_init_24 fX0_19 rfl rfl (by first | assumption | rfl) (by first | decide | omega) ?_
  refine V_aloadn0 dX0_init_27 ?_
  refine V_new (ci := 8) dX0_init_28 rfl ⟨cX0_23, nX8⟩ (by first | assumption | rfl) (by first | decide | omega) (by (repeat (first | with_reducible refine zI (by omega) ?_ | with_reducible refine zR (by omega) ?_ | with_reducible refine zTh (by omega) ?_ | with_reducible refine zX2 (by omega) ?_ | with_reducible refine zX3 (by omega) ?_ | with_reducible refine zX4 (by omega) ?_ | with_reducible refine zX5 (by omega) ?_ | with_reducible refine zX7 (by omega) ?_ | with_reducible refine zX0 (by omega) ?_ | with_reducible refine zX1 (by omega) ?_ | with_reducible refine zX6 (by omega) ?_ | with_reducible refine zX6L (by omega) ?_ | with_reducible refine zX9A (by omega) ?_ | with_reducible refine zX9L (by omega) ?_)); exact gZ.mono (by assumption) (by omega)) ?_
  first | refine V_dupa dX0_init_31 ?_ | refine V_dupi dX0_init_31 ?_
  refine V_callIN (N1 := t + 6) (μ' := mX8_init) dX0_init_32 okX8_init lX0_25 (Nat.le_of_ble_eq_true rfl) (by decide) (by omega) (by omega) (by omega) ?_
  refine i_Th (t := t + 3) a0 a1 a2 (by (repeat (first | with_reducible refine zI (by omega) ?_ | with_reducible refine zR (by omega) ?_ | with_reducible refine zTh (by omega) ?_ | with_reducible refine zX2 (by omega) ?_ | with_reducible refine zX3 (by omega) ?_ | with_reducible refine zX4 (by omega) ?_ | with_reducible refine zX5 (by omega) ?_ | with_reducible refine zX7 (by omega) ?_ | with_reducible refine zX0 (by omega) ?_ | with_reducible refine zX1 (by omega) ?_ | with_reducible refine zX6 (by omega) ?_ | with_reducible refine zX6L (by omega) ?_ | with_reducible refine zX9A (by omega) ?_ | with_reducible refine zX9L (by omega) ?_)); exact gZ.mono (by assumption) (by omega)) (by omega) ?_
  dsimp only [gPush]
  refine V_putF dX0_init_35 fX0_26 rfl rfl (by first | assumption | rfl) (by first | decide | omega) ?_
  refine V_aloadn0 dX0_init_38 ?_
  refine V_new (ci := 8) dX0_init_39 rfl ⟨cX0_23, nX8⟩ (by first | assumption | rfl) (by first | decide | omega) (by (repeat (first | with_reducible refine zI (by omega) ?_ | with_reducible refine zR (by omega) ?_ | with_reducible refine zTh (by omega) ?_ | with_reducible refine zX2 (by omega) ?_ | with_reducible refine zX3 (by omega) ?_ | with_reducible refine zX4 (by omega) ?_ | with_reducible refine zX5 (by omega) ?_ | with_reducible refine zX7 (by omega) ?_ | with_reducible refine zX0 (by omega) ?_ | with_reducible refine zX1 (by omega) ?_ | with_reducible refine zX6 (by omega) ?_ | with_reducible refine zX6L (by omega) ?_ | with_reducible refine zX9A (by omega) ?_ | with_reducible refine zX9L (by omega) ?_)); exact gZ.mono (by assumption) (by omega)) ?_
  first | refine V_dupa dX0_init_42 ?_ | refine V_dupi dX0_init_42 ?_
  refine V_callIN (N1 := t + 9) (μ' := mX8_init) dX0_init_43 okX8_init lX0_25 (Nat.le_of_ble_eq_true rfl) (by decide) (by omega) (by omega) (by omega) ?_
  refine i_Th (t := t + 6) b0 b1 b2 (by (repeat (first | with_reducible refine zI (by omega) ?_ | with_reducible refine zR (by omega) ?_ | with_reducible refine zTh (by omega) ?_ | with_reducible refine zX2 (by omega) ?_ | with_reducible refine zX3 (by omega) ?_ | with_reducible refine zX4 (by omega) ?_ | with_reducible refine zX5 (by omega) ?_ | with_reducible refine zX7 (by omega) ?_ | with_reducible refine zX0 (by omega) ?_ | with_reducible refine zX1 (by omega) ?_ | with_reducible refine zX6 (by omega) ?_ | with_reducible refine zX6L (by omega) ?_ | with_reducible refine zX9A (by omega) ?_ | with_reducible refine zX9L (by omega) ?_)); exact gZ.mono (by assumption) (by omega)) (by omega) ?_
  dsimp only [gPush]
  refine V_putF dX0_init_46 fX0_30 rfl rfl (by first | assumption | rfl) (by first | decide | omega) ?_
  refine V_ret dX0_init_49 rfl ?_
  exact hQ
set_option maxRecDepth 100000 in
set_option maxHeartbeats 4000000 in
theorem i_X1 (l0 : lay t = some (.inr 1)) (l1 : lay (t + 1) = some (.inl (0, 6))) (l2 : lay (t + 2) = some (.inl (0, 6))) (l3 : lay (t + 3) = some (.inl (0, 6))) (a0 : lay (t + 4) = some (.inr 8)) (a1 : lay (t + 5) = some (.inl (0, 6))) (a2 : lay (t + 6) = some (.inl (0, 6))) (hz : gZ (t + 1) h) (hd : 2 ≤ d) (hQ : Q none (hX1 h t)) : V Γ mX1_init d (t + 1) (t + 7) h 0 [some (.ref t)] [] Q := by
  refine V_aloadn0 dX1_init_0 ?_
  refine V_objInit dX1_init_1 lX1_3 (Nat.le_of_ble_eq_true rfl) (by omega) ?_
  refine V_aloadn0 dX1_init_4 ?_
  refine V_bipush (v := nI 6) dX1_init_5 (by decide) ?_
  refine V_newI dX1_init_7 gArrI (by first | assumption | rfl) (by first | decide | omega) (by (repeat (first | with_reducible refine zI (by omega) ?_ | with_reducible refine zR (by omega) ?_ | with_reducible refine zTh (by omega) ?_ | with_reducible refine zX2 (by omega) ?_ | with_reducible refine zX3 (by omega) ?_ | with_reducible refine zX4 (by omega) ?_ | with_reducible refine zX5 (by omega) ?_ | with_reducible refine zX7 (by omega) ?_ | with_reducible refine zX0 (by omega) ?_ | with_reducible refine zX1 (by omega) ?_ | with_reducible refine zX6 (by omega) ?_ | with_reducible refine zX6L (by omega) ?_ | with_reducible refine zX9A (by omega) ?_ | with_reducible refine zX9L (by omega) ?_)); exact gZ.mono (by assumption) (by omega)) ?_
  refine V_putF dX1_init_9 fX1_9 rfl rfl (by first | assumption | rfl) (by first | decide | omega) ?_
  refine V_aloadn0 dX1_init_12 ?_
  refine V_bipush (v := nI 6) dX1_init_13 (by decide) ?_
  refine V_newI dX1_init_15 gArrI (by first | assumption | rfl) (by first | decide | omega) (by (repeat (first | with_reducible refine zI (by omega) ?_ | with_reducible refine zR (by omega) ?_ | with_reducible refine zTh (by omega) ?_ | with_reducible refine zX2 (by omega) ?_ | with_reducible refine zX3 (by omega) ?_ | with_reducible refine zX4 (by omega) ?_ | with_reducible refine zX5 (by omega) ?_ | with_reducible refine zX7 (by omega) ?_ | with_reducible refine zX0 (by omega) ?_ | with_reducible refine zX1 (by omega) ?_ | with_reducible refine zX6 (by omega) ?_ | with_reducible refine zX6L (by omega) ?_ | with_reducible refine zX9A (by omega) ?_ | with_reducible refine zX9L (by omega) ?_)); exact gZ.mono (by assumption) (by omega)) ?_
  refine V_putF dX1_init_17 fX1_15 rfl rfl (by first | assumption | rfl) (by first | decide | omega) ?_
  refine V_aloadn0 dX1_init_20 ?_
  refine V_bipush (v := nI 6) dX1_init_21 (by decide) ?_
  refine V_newI dX1_init_23 gArrI (by first | assumption | rfl) (by first | decide | omega) (by (repeat (first | with_reducible refine zI (by omega) ?_ | with_reducible refine zR (by omega) ?_ | with_reducible refine zTh (by omega) ?_ | with_reducible refine zX2 (by omega) ?_ | with_reducible refine zX3 (by omega) ?_ | with_reducible refine zX4 (by omega) ?_ | with_reducible refine zX5 (by omega) ?_ | with_reducible refine zX7 (by omega) ?_ | with_reducible refine zX0 (by omega) ?_ | with_reducible refine zX1 (by omega) ?_ | with_reducible refine zX6 (by omega) ?_ | with_reducible refine zX6L (by omega) ?_ | with_reducible refine zX9A (by omega) ?_ | with_reducible refine zX9L (by omega) ?_)); exact gZ.mono (by assumption) (by omega)) ?_
  refine V_putF dX1_init_25 fX1_18 rfl rfl (by first | assumption | rfl) (by first | decide | omega) ?_
  refine V_aloadn0 dX1_init_28 ?_
  refine V_new (ci := 8) dX1_init_29 rfl ⟨cX1_21, nX8⟩ (by first | assumption | rfl) (by first | decide | omega) (by (repeat (first | with_reducible refine zI (by omega) ?_ | with_reducible refine zR (by omega) ?_ | with_reducible refine zTh (by omega) ?_ | with_reducible refine zX2 (by omega) ?_ | with_reducible refine zX3 (by omega) ?_ | with_reducible refine zX4 (by omega) ?_ | with_reducible refine zX5 (by omega) ?_ | with_reducible refine zX7 (by omega) ?_ | with_reducible refine zX0 (by omega) ?_ | with_reducible refine zX1 (by omega) ?_ | with_reducible refine zX6 (by omega) ?_ | with_reducible refine zX6L (by omega) ?_ | with_reducible refine zX9A (by omega) ?_ | with_reducible refine zX9L (by omega) ?_)); exact gZ.mono (by assumption) (by omega)) ?_
  first | refine V_dupa dX1_init_32 ?_ | refine V_dupi dX1_init_32 ?_
  refine V_callIN (N1 := t + 7) (μ' := mX8_init) dX1_init_33 okX8_init lX1_23 (Nat.le_of_ble_eq_true rfl) (by decide) (by omega) (by omega) (by omega) ?_
  refine i_Th (t := t + 4) a0 a1 a2 (by (repeat (first | with_reducible refine zI (by omega) ?_ | with_reducible refine zR (by omega) ?_ | with_reducible refine zTh (by omega) ?_ | with_reducible refine zX2 (by omega) ?_ | with_reducible refine zX3 (by omega) ?_ | with_reducible refine zX4 (by omega) ?_ | with_reducible refine zX5 (by omega) ?_ | with_reducible refine zX7 (by omega) ?_ | with_reducible refine zX0 (by omega) ?_ | with_reducible refine zX1 (by omega) ?_ | with_reducible refine zX6 (by omega) ?_ | with_reducible refine zX6L (by omega) ?_ | with_reducible refine zX9A (by omega) ?_ | with_reducible refine zX9L (by omega) ?_)); exact gZ.mono (by assumption) (by omega)) (by omega) ?_
  dsimp only [gPush]
  refine V_putF dX1_init_36 fX1_24 rfl rfl (by first | assumption | rfl) (by first | decide | omega) ?_
  refine V_ret dX1_init_39 rfl ?_
  exact hQ
set_option maxRecDepth 100000 in
set_option maxHeartbeats 4000000 in
/-- Arrays.fill where not all cells are made -/
theorem i_fill {N n : Nat} {x : Int32} (hl : lay t = some (.inl (0, n))) (ht : t < N) (hQ : Q none (hFl h t x n)) : V Γ mJ7_fill_53178 d N N h 0 [some (.ref t), some (.int x), none, none] [] Q := by
  have hn := lay_n hl
  have loop : ∀ k i, n - i = k → i ≤ n → V Γ mJ7_fill_53178 d N N (hFl h t x i) 5 [some (.ref t), some (.int x), some (.int (nI i)), some (.int (nI n))] [] Q := by
    intro k
    induction k with
    | zero =>
      intro i hk hi
      refine V_iloadn2 dJ7_fill_53178_5 ?_
      refine V_iloadn3 dJ7_fill_53178_6 ?_
      first | refine U_icmp_ge (tgt := 20) dJ7_fill_53178_7 (by decide) (by with_reducible rfl) (by with_reducible rfl) (by omega) (by omega) (fun c7 => ?_) (fun c7 => ?_) | refine V_icmp_ge (tgt := 20) dJ7_fill_53178_7 (by decide) (fun c7 => ?_) (fun c7 => ?_)
      · skip
        have e : i = n := by omega
        subst e
        refine V_ret dJ7_fill_53178_20 rfl ?_
        exact hQ
      · skip
        omega
    | succ k ih =>
      intro i hk hi
      refine V_iloadn2 dJ7_fill_53178_5 ?_
      refine V_iloadn3 dJ7_fill_53178_6 ?_
      first | refine U_icmp_ge (tgt := 20) dJ7_fill_53178_7 (by decide) (by with_reducible rfl) (by with_reducible rfl) (by omega) (by omega) (fun c7 => ?_) (fun c7 => ?_) | refine V_icmp_ge (tgt := 20) dJ7_fill_53178_7 (by decide) (fun c7 => ?_) (fun c7 => ?_)
      · skip
        omega
      · skip
        refine V_aloadn0 dJ7_fill_53178_10 ?_
        refine V_iloadn2 dJ7_fill_53178_11 ?_
        refine V_iloadn1 dJ7_fill_53178_12 ?_
        refine U_iast dJ7_fill_53178_13 (by with_reducible rfl) (by first | assumption | rfl) (by first | decide | omega) (by omega) ?_
        refine V_iinc2 dJ7_fill_53178_14 (by first | exact ginc1 _ | rfl) (by decide) rfl ?_
        refine V_goto (tgt := 5) dJ7_fill_53178_17 (by decide) ?_
        exact ih (i + 1) (by omega) (by omega)
  refine V_iconst (v := nI 0) dJ7_fill_53178_0 (by decide) ?_
  refine V_istoren2 dJ7_fill_53178_1 (by decide) rfl ?_
  refine V_aloadn0 dJ7_fill_53178_2 ?_
  first | refine V_aleni dJ7_fill_53178_3 (by first | assumption | rfl) (by first | decide | omega) ?_ | refine V_alenl dJ7_fill_53178_3 (by first | assumption | rfl) (by first | decide | omega) ?_
  refine V_istoren3 dJ7_fill_53178_4 (by decide) rfl ?_
  exact loop n 0 (by omega) (by omega)
set_option maxRecDepth 100000 in
set_option maxHeartbeats 4000000 in
theorem i_X6 {b : Nat} (l0 : lay b = some (.inr 6)) (l1 : lay (b + 1) = some (.inl (2, 6))) (l2 : lay (b + 2) = some (.inl (0, 6))) (lS : ∀ i, i < 6 → lay (b + 3 + 3 * i) = some (.inr 8) ∧ lay (b + 3 + 3 * i + 1) = some (.inl (0, 6)) ∧ lay (b + 3 + 3 * i + 2) = some (.inl (0, 6))) (hz : gZ (b + 1) h) (hd : 2 ≤ d) (hQ : Q none (hX6 h b)) : V Γ mX6_init d (b + 1) (b + 21) h 0 [some (.ref b), none] [] Q := by
  have loop : ∀ k i N, 6 - i = k → i ≤ 6 → N = b + 3 + 3 * i → V Γ mX6_init d N (b + 21) (hX6L h b i) 33 [some (.ref b), some (.int (nI i))] [] Q := by
    intro k
    induction k with
    | zero =>
      intro i N hk hi hN
      refine V_iloadn1 dX6_init_33 ?_
      refine V_bipush (v := nI 6) dX6_init_34 (by decide) ?_
      first | refine U_icmp_ge (tgt := 58) dX6_init_36 (by decide) (by with_reducible rfl) (by with_reducible rfl) (by omega) (by omega) (fun c36 => ?_) (fun c36 => ?_) | refine V_icmp_ge (tgt := 58) dX6_init_36 (by decide) (fun c36 => ?_) (fun c36 => ?_)
      · skip
        have e : i = 6 := by omega
        subst e
        have e2 : N = b + 21 := by omega
        subst e2
        refine V_aloadn0 dX6_init_58 ?_
        refine V_getR dX6_init_59 fX6_24 (by first | assumption | rfl) (by first | decide | omega) (by first | assumption | exact (rX6L 6).2 | rfl) ?_
        refine V_iconst (v := nI 1) dX6_init_62 (by decide) ?_
        refine V_callS2 (μ' := mJ7_fill_53178) dX6_init_63 okJ7_fill_53178 lX6_29 (Nat.le_of_ble_eq_true rfl) (Nat.le_of_ble_eq_true rfl) (by omega) ?_
        refine i_fill l2 (by omega) ?_
        dsimp only [gPush]
        refine V_ret dX6_init_66 rfl ?_
        exact hQ
      · skip
        omega
    | succ k ih =>
      intro i N hk hi hN
      obtain ⟨s0, s1, s2⟩ := lS i (by omega)
      subst hN
      refine V_iloadn1 dX6_init_33 ?_
      refine V_bipush (v := nI 6) dX6_init_34 (by decide) ?_
      first | refine U_icmp_ge (tgt := 58) dX6_init_36 (by decide) (by with_reducible rfl) (by with_reducible rfl) (by omega) (by omega) (fun c36 => ?_) (fun c36 => ?_) | refine V_icmp_ge (tgt := 58) dX6_init_36 (by decide) (fun c36 => ?_) (fun c36 => ?_)
      · skip
        omega
      · skip
        refine V_aloadn0 dX6_init_39 ?_
        refine V_getR dX6_init_40 fX6_20 (by first | assumption | rfl) (by first | decide | omega) (by first | assumption | exact (rX6L i).1 | rfl) ?_
        refine V_iloadn1 dX6_init_43 ?_
        refine V_new (ci := 8) dX6_init_44 rfl ⟨cX6_18, nX8⟩ (by first | assumption | rfl) (by first | decide | omega) (by (repeat (first | with_reducible refine zI (by omega) ?_ | with_reducible refine zR (by omega) ?_ | with_reducible refine zTh (by omega) ?_ | with_reducible refine zX2 (by omega) ?_ | with_reducible refine zX3 (by omega) ?_ | with_reducible refine zX4 (by omega) ?_ | with_reducible refine zX5 (by omega) ?_ | with_reducible refine zX7 (by omega) ?_ | with_reducible refine zX0 (by omega) ?_ | with_reducible refine zX1 (by omega) ?_ | with_reducible refine zX6 (by omega) ?_ | with_reducible refine zX6L (by omega) ?_ | with_reducible refine zX9A (by omega) ?_ | with_reducible refine zX9L (by omega) ?_)); exact gZ.mono (by assumption) (by omega)) ?_
        first | refine V_dupa dX6_init_47 ?_ | refine V_dupi dX6_init_47 ?_
        refine V_callIN (N1 := b + 3 + 3 * i + 3) (μ' := mX8_init) dX6_init_48 okX8_init lX6_28 (Nat.le_of_ble_eq_true rfl) (by decide) (by omega) (by omega) (by omega) ?_
        refine i_Th (t := b + 3 + 3 * i) s0 s1 s2 (by (repeat (first | with_reducible refine zI (by omega) ?_ | with_reducible refine zR (by omega) ?_ | with_reducible refine zTh (by omega) ?_ | with_reducible refine zX2 (by omega) ?_ | with_reducible refine zX3 (by omega) ?_ | with_reducible refine zX4 (by omega) ?_ | with_reducible refine zX5 (by omega) ?_ | with_reducible refine zX7 (by omega) ?_ | with_reducible refine zX0 (by omega) ?_ | with_reducible refine zX1 (by omega) ?_ | with_reducible refine zX6 (by omega) ?_ | with_reducible refine zX6L (by omega) ?_ | with_reducible refine zX9A (by omega) ?_ | with_reducible refine zX9L (by omega) ?_)); exact gZ.mono (by assumption) (by omega)) (by omega) ?_
        dsimp only [gPush]
        refine V_aast (k := 0) (ci := 8) dX6_init_51 (by first | assumption | rfl) (by decide) (by first | decide | omega) (by omega) (by first | assumption | rfl) (by first | decide | omega) rfl ?_
        refine V_iinc1 dX6_init_52 (by first | exact ginc1 _ | rfl) (by decide) rfl ?_
        refine V_goto (tgt := 33) dX6_init_55 (by decide) ?_
        exact ih (i + 1) _ (by omega) (by omega) (by omega)
  refine V_aloadn0 dX6_init_0 ?_
  refine V_objInit dX6_init_1 lX6_3 (Nat.le_of_ble_eq_true rfl) (by omega) ?_
  refine V_aloadn0 dX6_init_4 ?_
  refine V_iconst (v := nI 3) dX6_init_5 (by decide) ?_
  refine V_putI dX6_init_6 fX6_9 (by first | assumption | rfl) (by first | decide | omega) ?_
  refine V_aloadn0 dX6_init_9 ?_
  refine V_iconst (v := nI 1) dX6_init_10 (by decide) ?_
  refine V_putI dX6_init_11 fX6_15 (by first | assumption | rfl) (by first | decide | omega) ?_
  refine V_aloadn0 dX6_init_14 ?_
  refine V_bipush (v := nI 6) dX6_init_15 (by decide) ?_
  refine V_newR (k := 0) dX6_init_17 cX6_18 (by decide) (by first | assumption | rfl) (by first | decide | omega) (by (repeat (first | with_reducible refine zI (by omega) ?_ | with_reducible refine zR (by omega) ?_ | with_reducible refine zTh (by omega) ?_ | with_reducible refine zX2 (by omega) ?_ | with_reducible refine zX3 (by omega) ?_ | with_reducible refine zX4 (by omega) ?_ | with_reducible refine zX5 (by omega) ?_ | with_reducible refine zX7 (by omega) ?_ | with_reducible refine zX0 (by omega) ?_ | with_reducible refine zX1 (by omega) ?_ | with_reducible refine zX6 (by omega) ?_ | with_reducible refine zX6L (by omega) ?_ | with_reducible refine zX9A (by omega) ?_ | with_reducible refine zX9L (by omega) ?_)); exact gZ.mono (by assumption) (by omega)) ?_
  refine V_putF dX6_init_20 fX6_20 rfl rfl (by first | assumption | rfl) (by first | decide | omega) ?_
  refine V_aloadn0 dX6_init_23 ?_
  refine V_bipush (v := nI 6) dX6_init_24 (by decide) ?_
  refine V_newI dX6_init_26 gArrI (by first | assumption | rfl) (by first | decide | omega) (by (repeat (first | with_reducible refine zI (by omega) ?_ | with_reducible refine zR (by omega) ?_ | with_reducible refine zTh (by omega) ?_ | with_reducible refine zX2 (by omega) ?_ | with_reducible refine zX3 (by omega) ?_ | with_reducible refine zX4 (by omega) ?_ | with_reducible refine zX5 (by omega) ?_ | with_reducible refine zX7 (by omega) ?_ | with_reducible refine zX0 (by omega) ?_ | with_reducible refine zX1 (by omega) ?_ | with_reducible refine zX6 (by omega) ?_ | with_reducible refine zX6L (by omega) ?_ | with_reducible refine zX9A (by omega) ?_ | with_reducible refine zX9L (by omega) ?_)); exact gZ.mono (by assumption) (by omega)) ?_
  refine V_putF dX6_init_28 fX6_24 rfl rfl (by first | assumption | rfl) (by first | decide | omega) ?_
  refine V_iconst (v := nI 0) dX6_init_31 (by decide) ?_
  refine V_istoren1 dX6_init_32 (by decide) rfl ?_
  exact loop 6 0 _ (by omega) (by omega) (by omega)
end C87
