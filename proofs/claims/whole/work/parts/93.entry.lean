/-! ===== the law's entry: what is known there ===== -/
theorem lT1 {w : Cond} {i : Nat} (h : tables_1_1[i]? = some w) : w ∈ lw_tbl := List.mem_append_right _ (List.mem_append_left _ (List.mem_of_getElem? h))
theorem lT2 {w : Cond} {i : Nat} (h : tables_1_2[i]? = some w) : w ∈ lw_tbl := List.mem_append_right _ (List.mem_append_right _ (List.mem_append_left _ (List.mem_of_getElem? h)))
theorem lT3 {w : Cond} {i : Nat} (h : tables_1_3[i]? = some w) : w ∈ lw_tbl := List.mem_append_right _ (List.mem_append_right _ (List.mem_append_right _ (List.mem_append_left _ (List.mem_of_getElem? h))))
theorem lT4 {w : Cond} {i : Nat} (h : tables_1_4[i]? = some w) : w ∈ lw_tbl := List.mem_append_right _ (List.mem_append_right _ (List.mem_append_right _ (List.mem_append_right _ (List.mem_append_left _ (List.mem_of_getElem? h)))))
theorem gIns {ci : Nat} {C : String} {T : u_T} {n : Nat} (h : gCl[ci]? = some (C, T, n)) : Cond.instantiable C n ∈ gTbl := by
  match ci, h with
  | 0, h => cases h; exact nX0.1
  | 1, h => cases h; exact nX1.1
  | 2, h => cases h; exact nX2.1
  | 3, h => cases h; exact nX3.1
  | 4, h => cases h; exact nX4.1
  | 5, h => cases h; exact nX5.1
  | 6, h => cases h; exact nX6.1
  | 7, h => cases h; exact nX7.1
  | 8, h => cases h; exact nX8.1
  | 9, h => cases h; exact nX9.1
  | 10, h => cases h; exact nX10.1
  | k + 11, h => simp [gCl] at h
def nestOk (q : String × Nat × MethodName) : Prop := Cond.methodLinkNest q.1 q.2.1 q.2.2 "RaisedTableaux" ∈ lw_tbl
theorem nest0 : nestOk ("RaisedTableaux$State", 28, yX8_init) := lT1 (i := 39) (by decide +kernel)
theorem nest1 : nestOk ("RaisedTableaux", 21, yX7_init) := lT1 (i := 99) (by decide +kernel)
theorem nest2 : nestOk ("RaisedTableaux", 34, yX3_init) := lT1 (i := 127) (by decide +kernel)
theorem nest3 : nestOk ("RaisedTableaux$Moves", 11, yX8_init) := lT1 (i := 132) (by decide +kernel)
theorem nest4 : nestOk ("RaisedTableaux$Moves", 20, yX2_init) := lT1 (i := 135) (by decide +kernel)
theorem nest5 : nestOk ("RaisedTableaux", 41, yX2_init) := lT1 (i := 178) (by decide +kernel)
theorem nest6 : nestOk ("RaisedTableaux", 48, yX0_init) := lT1 (i := 181) (by decide +kernel)
theorem nest7 : nestOk ("RaisedTableaux$Family", 25, yX8_init) := lT1 (i := 186) (by decide +kernel)
theorem nest8 : nestOk ("RaisedTableaux", 55, yX1_init) := lT1 (i := 213) (by decide +kernel)
theorem nest9 : nestOk ("RaisedTableaux$Fillings", 23, yX8_init) := lT1 (i := 218) (by decide +kernel)
theorem nest10 : nestOk ("RaisedTableaux", 62, yX4_init) := lT2 (i := 3) (by decide +kernel)
theorem nest11 : nestOk ("RaisedTableaux", 75, yX8_init) := lT2 (i := 22) (by decide +kernel)
theorem nest12 : nestOk ("RaisedTableaux", 83, yX5_init) := lT2 (i := 24) (by decide +kernel)
theorem nest13 : nestOk ("RaisedTableaux$Thing", 28, yX9_howManyDigits) := lT2 (i := 106) (by decide +kernel)
theorem nest14 : nestOk ("RaisedTableaux$Shape", 15, yX9_howManyDigits) := lT4 (i := 34) (by decide +kernel)
theorem nest15 : nestOk ("RaisedTableaux$Fillings", 34, yX9_howManyDigits) := lT4 (i := 39) (by decide +kernel)
theorem nestAll : ∀ q ∈ gNestL, nestOk q := List.forall_mem_cons.mpr ⟨nest0, List.forall_mem_cons.mpr ⟨nest1, List.forall_mem_cons.mpr ⟨nest2, List.forall_mem_cons.mpr ⟨nest3, List.forall_mem_cons.mpr ⟨nest4, List.forall_mem_cons.mpr ⟨nest5, List.forall_mem_cons.mpr ⟨nest6, List.forall_mem_cons.mpr ⟨nest7, List.forall_mem_cons.mpr ⟨nest8, List.forall_mem_cons.mpr ⟨nest9, List.forall_mem_cons.mpr ⟨nest10, List.forall_mem_cons.mpr ⟨nest11, List.forall_mem_cons.mpr ⟨nest12, List.forall_mem_cons.mpr ⟨nest13, List.forall_mem_cons.mpr ⟨nest14, List.forall_mem_cons.mpr ⟨nest15, fun _ h => absurd h List.not_mem_nil⟩⟩⟩⟩⟩⟩⟩⟩⟩⟩⟩⟩⟩⟩⟩⟩
def txK : List Nat := [81, 83, 85, 87, 89, 91]
def txT (i : Nat) : Term := .string "RaisedTableaux$Tape" (txK.getD i 0)
def gvF : List Cond := flatC (Jvm.Cond.and given_1 narrow_1)
set_option maxRecDepth 100000 in
theorem tx_ex : ∀ i, i < 6 → Cond.exactly (txT i) "java/lang/String" ∈ gvF := by decide +kernel
set_option maxRecDepth 100000 in
theorem tx_co : ∀ i, i < 6 → Cond.eq (.field (txT i) "java/lang/String" "coder" "B") (.int 0) ∈ gvF := by decide +kernel
set_option maxRecDepth 100000 in
theorem tx_ar : ∀ i, i < 6 → Cond.arrayOf (.field (txT i) "java/lang/String" "value" "[B") .byte ∈ gvF := by decide +kernel
set_option maxRecDepth 100000 in
theorem tx_le : ∀ i, i < 6 → Cond.eq (.length (.field (txT i) "java/lang/String" "value" "[B")) (.int (Int32.ofNat (gSlen.getD i 0))) ∈ gvF := by decide +kernel
set_option maxRecDepth 100000 in
theorem tx_el : ∀ i, i < 6 → ∀ j, j < gSlen.getD i 0 → Cond.eq (.elem (.field (txT i) "java/lang/String" "value" "[B") (.int (Int32.ofNat j))) (.int ((gSbyt.getD i []).getD j 0)) ∈ gvF := by decide +kernel
set_option maxRecDepth 100000 in
theorem tx_ne : ∀ i, i < 6 → ∀ j, j < 6 → i ≠ j → Cond.not (Cond.eq (txT i) (txT j)) ∈ gvF ∨ Cond.not (Cond.eq (txT j) (txT i)) ∈ gvF := by decide +kernel
set_option maxRecDepth 100000 in
theorem tx_cs : Cond.eq (.static "java/lang/String" "COMPACT_STRINGS" "Z") (.int 1) ∈ gvF := by decide +kernel
set_option maxRecDepth 100000 in
theorem tx_fm : Cond.isRef (.static "jdk/internal/util/Preconditions" "SIOOBE_FORMATTER" "Ljava/util/function/BiFunction;") ∈ gvF := by decide +kernel
theorem e_Kn {s : State} {b L : Nat} {xs : Nat → Int32} (hts : ∀ w ∈ lw_tbl, w.before #[Value.ref b] s = true) (hX : va_X b L xs s s.heap) (hbl : b < s.heap.size) (hL : L ≤ 3072) (hgv : (Jvm.Cond.and given_1 narrow_1).before #[Value.ref b] s = true) : ∃ Γ : gM, gB Γ = s.heap.size ∧ Γ.2.2.2.1 = (b, L, xs) ∧ gKn Γ s := by
  have hfl : ∀ c ∈ gvF, c.before #[Value.ref b] s = true := flat_of_before _ hgv
  have hgt : ∀ w ∈ gTbl, w.before #[Value.ref b] s = true := fun w hw => hts w (List.mem_filter.mp hw).1
  have hA : ∀ a : Nat, a < s.heap.size → ¬ (fun q : Nat => s.heap.size ≤ q) a := fun a h q => absurd h (Nat.not_lt.mpr q)
  have hall : ∀ ci : Nat, ∃ q : ClassId × (Nat → Nat), ∀ r : vw_C, gCl[ci]? = some r → u_Kn s r.1 r.2.1 r.2.2 q.1 q.2 := by
    intro ci
    cases hr : gCl[ci]? with
    | none => exact ⟨(0, fun _ => 0), fun r h => by cases h⟩
    | some r =>
      obtain ⟨C, T, n⟩ := r
      obtain ⟨cC, iS, hKn⟩ := u_known (C := C) (T := T) (N := n) (n := n) hgt (gCl_ok hr).1 (hgt _ (gIns hr))
      exact ⟨(cC, iS), fun r h => by cases h; exact hKn⟩
  obtain ⟨f, hf⟩ := Classical.axiomOfChoice hall
  obtain ⟨cI, kI, pI, a1, a2, a3⟩ := Cond.arrayClass_spec (hgt _ gArrI)
  obtain ⟨cJ, kJ, pJ, b1, b2, b3⟩ := Cond.arrayClass_spec (hgt _ gArrL)
  have hoT : (Cond.arrayOver (.object "RaisedTableaux$Thing")).before #[Value.ref b] s = true := hts _ (lT1 (i := 37) (by decide +kernel))
  have hoS : (Cond.arrayOver (.object "RaisedTableaux$Sheet")).before #[Value.ref b] s = true := hts _ (lT1 (i := 124) (by decide +kernel))
  obtain ⟨pT, cT, kT, t1, t2, t3, t4, t5⟩ := Cond.arrayOver_spec hoT
  obtain ⟨pS, cS, kS, s1, s2, s3, s4, s5⟩ := Cond.arrayOver_spec hoS
  obtain ⟨adK, adV, hvS, hev⟩ := vk_Sof (args := #[Value.ref b]) (s := s) (N := 6) (tm := txT) (len := gSlen) (byt := gSbyt) (A := fun q : Nat => s.heap.size ≤ q) (by decide) (fun i hi => hfl _ (tx_ex i hi)) (fun i hi => hfl _ (tx_co i hi)) (fun i hi => hfl _ (tx_ar i hi)) (fun i hi => hfl _ (tx_le i hi)) (fun i hi j hj => hfl _ (tx_el i hi j hj)) (fun i j hi hj hij => (tx_ne i hi j hj hij).imp (hfl _) (hfl _)) hA
  refine ⟨(s.heap.size, (fun c => (f c).1, fun c => (f c).2), (fun k => match k with | 0 => cI | 1 => cJ | 2 => cT | _ => cS), (b, L, xs), adK, adV), rfl, rfl, ⟨fun c q hq => hf c q hq, fun k q hq => ?_⟩, fun q hq => va_Nw.of rfl (hts _ (nestAll q hq)), va_AO.of hoT, va_AO.of hoS, fun i q hq => ?_, hvS, ⟨hX, hbl, show L < 100000 by omega⟩, va_Zof (hts _ (lT3 (i := 91) (by decide +kernel))) (hts _ (lT1 (i := 15) (by decide +kernel))) (va_eqi (hfl _ tx_cs)) hA, va_Zqof (hts _ (lT3 (i := 107) (by decide +kernel))) (hts _ (lT1 (i := 17) (by decide +kernel))) (hfl _ tx_fm) hA, Nat.le_refl _⟩
  · match k, hq with
    | 0, hq => cases hq; exact ⟨fun n z => ⟨fun k h => (by cases h), kI, a2, pI, a3⟩, a1⟩
    | 1, hq => cases hq; exact ⟨fun n z => ⟨fun k h => (by cases h), kJ, b2, pJ, b3⟩, b1⟩
    | 2, hq => cases hq; exact ⟨fun n z => ⟨fun k h => (by cases h), kT, t3, pT, t4⟩, kT, pT, t3, t4, t1, t5⟩
    | 3, hq => cases hq; exact ⟨fun n z => ⟨fun k h => (by cases h), kS, s3, pS, s4⟩, kS, pS, s3, s4, s1, s5⟩
    | k + 4, hq => simp [gTys] at hq
  · match i, hq with
    | 0, hq => cases hq; exact vk_R.of (hts _ (lT3 (i := 72) (by decide +kernel))) (hev 0 (by decide))
    | 1, hq => cases hq; exact vk_R.of (hts _ (lT3 (i := 73) (by decide +kernel))) (hev 1 (by decide))
    | 2, hq => cases hq; exact vk_R.of (hts _ (lT3 (i := 74) (by decide +kernel))) (hev 2 (by decide))
    | 3, hq => cases hq; exact vk_R.of (hts _ (lT3 (i := 75) (by decide +kernel))) (hev 3 (by decide))
    | 4, hq => cases hq; exact vk_R.of (hts _ (lT3 (i := 76) (by decide +kernel))) (hev 4 (by decide))
    | 5, hq => cases hq; exact vk_R.of (hts _ (lT3 (i := 77) (by decide +kernel))) (hev 5 (by decide))
    | k + 6, hq => simp [gStrs] at hq
