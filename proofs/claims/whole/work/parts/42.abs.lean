/-! ===== what the class and the reference both hold ===== -/
abbrev Thg : Type := Nat × List Nat × List Nat
/-- now, what is kept, the tape, sheets (0 missing, else its sort and 1; length; places) -/
abbrev GS : Type := SS × Option SS × List Nat × (Nat → Nat × Nat × (Nat → Int32))
def WT (n : Nat) (T : Thg) : Prop := T.1 ≤ 2 ∧ T.2.1.length ≤ 6 ∧ LtW n T.2.1 ∧ (T.1 = 0 → T.2.1 = []) ∧ (T.1 ≠ 2 → T.2.2 = []) ∧ (T.1 = 2 → T.2.2 = (rnL T.2.1).reverse)
def WS (A : SS) : Prop := 2 ≤ A.1 ∧ A.1 ≤ 5 ∧ (∀ s, s < 6 → WT A.1 (A.2.2.1 s)) ∧ ∀ k, A.2.2.2 k ≤ 99
def WG (S : GS) : Prop := WS S.1 ∧ (∀ K, S.2.1 = some K → WS K) ∧ (S.2.2.1.length ≤ 60 ∧ ∀ p, S.2.2.1.getD p 0 ≤ 255) ∧ ∀ s, s < 4 → (S.2.2.2 s).1 ≤ 3 ∧ (S.2.2.2 s).2.1 ≤ 40 ∧ ((S.2.2.2 s).1 = 0 → (S.2.2.2 s).2.1 = 0)
def putT (S : GS) (s : Nat) (T : Thg) : GS := ((S.1.1, S.1.2.1, (fun q => if q = s then T else S.1.2.2.1 q), S.1.2.2.2), S.2)
def setTp (S : GS) (B : List Nat) : GS := (S.1, S.2.1, B, S.2.2.2)
def setSh (S : GS) (s : Nat) (X : Nat × Nat × (Nat → Int32)) : GS := (S.1, S.2.1, S.2.2.1, fun q => if q = s then X else S.2.2.2 q)
def cN (x : Int32) : Nat := x.toNatClampNeg
theorem cN_nI {a : Nat} (h : a < 2 ^ 31) : cN (nI a) = a := nI_clamp h
/-- all references that the class makes and keeps -/
def refL : List (Nat × Nat × Nat) := [(0, 0, 1), (0, 1, 22), (0, 3, 43), (0, 4, 45), (0, 5, 46), (0, 6, 54), (0, 7, 58), (0, 8, 67), (0, 9, 74), (0, 10, 76), (0, 11, 78), (0, 12, 80), (0, 13, 83)]
  ++ (List.range 2).flatMap (fun b => [(1 + 21 * b, 2, 2 + 21 * b), (1 + 21 * b, 3, 3 + 21 * b)] ++ (List.range 6).flatMap (fun s => [(2 + 21 * b, s, 4 + 21 * b + 3 * s), (4 + 21 * b + 3 * s, 2, 5 + 21 * b + 3 * s), (4 + 21 * b + 3 * s, 4, 6 + 21 * b + 3 * s)]))
  ++ [(43, 4, 44)] ++ (List.range 4).flatMap (fun s => [(45, s, 86 + 2 * s), (86 + 2 * s, 2, 87 + 2 * s)])
  ++ [(46, 4, 47), (46, 5, 50), (47, 2, 48), (47, 4, 49), (50, 2, 51), (50, 3, 52), (50, 4, 53), (54, 2, 55), (54, 3, 56), (54, 4, 57), (58, 3, 59), (58, 4, 60), (58, 5, 61), (58, 6, 64), (61, 2, 62), (61, 4, 63), (64, 2, 65), (64, 4, 66), (67, 0, 68), (67, 1, 69), (67, 2, 70), (67, 6, 71), (71, 2, 72), (71, 4, 73), (74, 2, 75), (76, 2, 77), (78, 2, 79), (80, 2, 81), (80, 4, 82), (83, 2, 84), (83, 4, 85)]
def CLay (h : gH) : Prop := ∀ q ∈ refL, gR h q.1 q.2.1 = some q.2.2
theorem CLay.r {h : gH} (hC : CLay h) {a b c : Nat} (hm : (a, b, c) ∈ refL) : gR h a b = some c := hC (a, b, c) hm
theorem CLay_eq {h h' : gH} (hC : CLay h) (e : gR h' = gR h) : CLay h' := fun q hq => by rw [e]; exact hC q hq
theorem refL_67 : ∀ q ∈ refL, q.1 < 94 ∧ (q.1 = 67 → q.2.1 ≠ 4 ∧ q.2.1 ≠ 5) := by decide
theorem CLay_G {h h' : gH} (hC : CLay h) (e1 : ∀ a, a ≠ 67 → gR h' a = gR h a) (e2 : ∀ k, k ≠ 4 → k ≠ 5 → gR h' 67 k = gR h 67 k) : CLay h' := fun q hq => by
  have h1 := (refL_67 q hq).2
  have h2 := hC q hq
  by_cases e : q.1 = 67
  · rw [e] at h2 ⊢
    rw [e2 _ (h1 e).1 (h1 e).2]; exact h2
  · rw [e1 _ e]; exact h2
theorem CLay_M {h h' : gH} (hC : CLay h) (e : ∀ a, a < 94 → gR h' a = gR h a) : CLay h' := fun q hq => by
  rw [e _ (refL_67 q hq).1]; exact hC q hq
theorem lay_s : ∀ s, s < 6 → lay (4 + 3 * s) = some (.inr 8) ∧ lay (4 + 3 * s + 1) = some (.inl (0, 6)) ∧ lay (4 + 3 * s + 2) = some (.inl (0, 6)) := by decide
theorem lay_s0 {s : Nat} (hs : s < 6) : lay (4 + 3 * s) = some (.inr 8) := (lay_s s hs).1
theorem lay_s1 {s : Nat} (hs : s < 6) : lay (4 + 3 * s + 1) = some (.inl (0, 6)) := (lay_s s hs).2.1
theorem lay_s2 {s : Nat} (hs : s < 6) : lay (4 + 3 * s + 2) = some (.inl (0, 6)) := (lay_s s hs).2.2
theorem lay_h : ∀ s, s < 4 → lay (86 + 2 * s) = some (.inr 5) ∧ lay (86 + 2 * s + 1) = some (.inl (1, 40)) := by decide
theorem lay_h0 {s : Nat} (hs : s < 4) : lay (86 + 2 * s) = some (.inr 5) := (lay_h s hs).1
theorem lay_h1 {s : Nat} (hs : s < 4) : lay (86 + 2 * s + 1) = some (.inl (1, 40)) := (lay_h s hs).2
theorem CL_slot {h : gH} (hC : CLay h) {s : Nat} (hs : s < 6) : gR h 2 s = some (4 + 3 * s) := by
  match s, hs with
  | 0, _ => exact hC.r (by decide)
  | 1, _ => exact hC.r (by decide)
  | 2, _ => exact hC.r (by decide)
  | 3, _ => exact hC.r (by decide)
  | 4, _ => exact hC.r (by decide)
  | 5, _ => exact hC.r (by decide)
  | k + 6, h => omega
theorem CL_T {h : gH} (hC : CLay h) {s : Nat} (hs : s < 6) : TL h (4 + 3 * s) := by
  match s, hs with
  | 0, _ => exact ⟨rfl, rfl, rfl, by decide, hC.r (by decide), hC.r (by decide)⟩
  | 1, _ => exact ⟨rfl, rfl, rfl, by decide, hC.r (by decide), hC.r (by decide)⟩
  | 2, _ => exact ⟨rfl, rfl, rfl, by decide, hC.r (by decide), hC.r (by decide)⟩
  | 3, _ => exact ⟨rfl, rfl, rfl, by decide, hC.r (by decide), hC.r (by decide)⟩
  | 4, _ => exact ⟨rfl, rfl, rfl, by decide, hC.r (by decide), hC.r (by decide)⟩
  | 5, _ => exact ⟨rfl, rfl, rfl, by decide, hC.r (by decide), hC.r (by decide)⟩
  | k + 6, h => omega
theorem CL_T2 {h : gH} (hC : CLay h) {s : Nat} (hs : s < 6) : gR h 23 s = some (25 + 3 * s) ∧ TL h (25 + 3 * s) := by
  match s, hs with
  | 0, _ => exact ⟨hC.r (by decide), rfl, rfl, rfl, by decide, hC.r (by decide), hC.r (by decide)⟩
  | 1, _ => exact ⟨hC.r (by decide), rfl, rfl, rfl, by decide, hC.r (by decide), hC.r (by decide)⟩
  | 2, _ => exact ⟨hC.r (by decide), rfl, rfl, rfl, by decide, hC.r (by decide), hC.r (by decide)⟩
  | 3, _ => exact ⟨hC.r (by decide), rfl, rfl, rfl, by decide, hC.r (by decide), hC.r (by decide)⟩
  | 4, _ => exact ⟨hC.r (by decide), rfl, rfl, rfl, by decide, hC.r (by decide), hC.r (by decide)⟩
  | 5, _ => exact ⟨hC.r (by decide), rfl, rfl, rfl, by decide, hC.r (by decide), hC.r (by decide)⟩
  | k + 6, h => omega
theorem CL_now {h : gH} (hC : CLay h) : SL h 1 := ⟨rfl, rfl, rfl, by decide, hC.r (by decide), hC.r (by decide), fun s hs => by rw [show 1 + 3 + 3 * s = 4 + 3 * s by omega]; exact ⟨CL_slot hC hs, CL_T hC hs⟩⟩
theorem CL_kept {h : gH} (hC : CLay h) : SL h 22 := ⟨rfl, rfl, rfl, by decide, hC.r (by decide), hC.r (by decide), fun s hs => by rw [show 22 + 3 + 3 * s = 25 + 3 * s by omega]; exact CL_T2 hC hs⟩
theorem CL_sh {h : gH} (hC : CLay h) {s : Nat} (hs : s < 4) : gR h 45 s = some (86 + 2 * s) ∧ gR h (86 + 2 * s) 2 = some (86 + 2 * s + 1) ∧ lay (86 + 2 * s) = some (.inr 5) ∧ lay (86 + 2 * s + 1) = some (.inl (1, 40)) := by
  match s, hs with
  | 0, _ => exact ⟨hC.r (by decide), hC.r (by decide), rfl, rfl⟩
  | 1, _ => exact ⟨hC.r (by decide), hC.r (by decide), rfl, rfl⟩
  | 2, _ => exact ⟨hC.r (by decide), hC.r (by decide), rfl, rfl⟩
  | 3, _ => exact ⟨hC.r (by decide), hC.r (by decide), rfl, rfl⟩
  | k + 4, h => omega
theorem CL_ML {h : gH} (hC : CLay h) : ML h := ⟨hC.r (by decide), hC.r (by decide), ⟨rfl, rfl, rfl, by decide, hC.r (by decide), hC.r (by decide)⟩, ⟨rfl, rfl, rfl, rfl, by decide, hC.r (by decide), hC.r (by decide), hC.r (by decide)⟩⟩
theorem CL_G {h : gH} (hC : CLay h) : GLay h 54 := ⟨rfl, rfl, rfl, rfl, by decide, hC.r (by decide), hC.r (by decide), hC.r (by decide)⟩
theorem CL_Fm {h : gH} (hC : CLay h) : FmL h := ⟨hC.r (by decide), hC.r (by decide), hC.r (by decide), hC.r (by decide), ⟨rfl, rfl, rfl, by decide, hC.r (by decide), hC.r (by decide)⟩, ⟨rfl, rfl, rfl, by decide, hC.r (by decide), hC.r (by decide)⟩⟩
theorem CL_FlP {h : gH} (hC : CLay h) : FlP h := ⟨hC.r (by decide), hC.r (by decide), hC.r (by decide), hC.r (by decide), ⟨rfl, rfl, rfl, by decide, hC.r (by decide), hC.r (by decide)⟩⟩
theorem CL_74 {h : gH} (hC : CLay h) : ShL h 74 := ⟨rfl, rfl, by decide, hC.r (by decide)⟩
theorem CL_76 {h : gH} (hC : CLay h) : ShL h 76 := ⟨rfl, rfl, by decide, hC.r (by decide)⟩
theorem CL_78 {h : gH} (hC : CLay h) : ShL h 78 := ⟨rfl, rfl, by decide, hC.r (by decide)⟩
theorem CL_80 {h : gH} (hC : CLay h) : TL h 80 := ⟨rfl, rfl, rfl, by decide, hC.r (by decide), hC.r (by decide)⟩
theorem CL_83 {h : gH} (hC : CLay h) : TL h 83 := ⟨rfl, rfl, rfl, by decide, hC.r (by decide), hC.r (by decide)⟩
theorem CL0_0 {h : gH} (hC : CLay h) : gR h 0 0 = some 1 := hC.r (by decide)
theorem CL0_1 {h : gH} (hC : CLay h) : gR h 0 1 = some 22 := hC.r (by decide)
theorem CL0_3 {h : gH} (hC : CLay h) : gR h 0 3 = some 43 := hC.r (by decide)
theorem CL0_4 {h : gH} (hC : CLay h) : gR h 0 4 = some 45 := hC.r (by decide)
theorem CL0_5 {h : gH} (hC : CLay h) : gR h 0 5 = some 46 := hC.r (by decide)
theorem CL0_6 {h : gH} (hC : CLay h) : gR h 0 6 = some 54 := hC.r (by decide)
theorem CL0_7 {h : gH} (hC : CLay h) : gR h 0 7 = some 58 := hC.r (by decide)
theorem CL0_8 {h : gH} (hC : CLay h) : gR h 0 8 = some 67 := hC.r (by decide)
theorem CL0_9 {h : gH} (hC : CLay h) : gR h 0 9 = some 74 := hC.r (by decide)
theorem CL0_10 {h : gH} (hC : CLay h) : gR h 0 10 = some 76 := hC.r (by decide)
theorem CL0_11 {h : gH} (hC : CLay h) : gR h 0 11 = some 78 := hC.r (by decide)
theorem CL0_12 {h : gH} (hC : CLay h) : gR h 0 12 = some 80 := hC.r (by decide)
theorem CL0_13 {h : gH} (hC : CLay h) : gR h 0 13 = some 83 := hC.r (by decide)
theorem CL1_2 {h : gH} (hC : CLay h) : gR h 1 2 = some 2 := hC.r (by decide)
theorem CL1_3 {h : gH} (hC : CLay h) : gR h 1 3 = some 3 := hC.r (by decide)
theorem CL43 {h : gH} (hC : CLay h) : gR h 43 4 = some 44 := hC.r (by decide)
theorem CL80_2 {h : gH} (hC : CLay h) : gR h 80 2 = some 81 := hC.r (by decide)
theorem CL67_0 {h : gH} (hC : CLay h) : gR h 67 0 = some 68 := hC.r (by decide)
theorem CL67_1 {h : gH} (hC : CLay h) : gR h 67 1 = some 69 := hC.r (by decide)
/-- a sheet: its sort, its length, its places -/
def soI (so : Nat) : Int32 := if so = 0 then -1 else nI (so - 1)
def ShtI (h : gH) (t : Nat) (X : Nat × Nat × (Nat → Int32)) : Prop := gI h t 0 = soI X.1 ∧ gI h t 1 = nI X.2.1 ∧ (X.1 ≠ 0 → ∀ k, k < 40 → gL h (t + 1) k = (X.2.2 k).toInt64)
def RC (h : gH) (S : GS) : Prop := CLay h ∧ WG S ∧ RS h 1 S.1 ∧ gI h 0 2 = gBo S.2.1.isSome ∧ (∀ K, S.2.1 = some K → RS h 22 K) ∧ TpB h S.2.2.1 ∧ (∀ s, s < 4 → ShtI h (86 + 2 * s) (S.2.2.2 s)) ∧ FamI h
/-- cells of the class alone have changed -/
def FrC (h h' : gH) : Prop := (∀ a, 94 ≤ a → gI h' a = gI h a) ∧ (∀ a, 94 ≤ a → gL h' a = gL h a) ∧ ∀ a, 94 ≤ a → gR h' a = gR h a
theorem FrC.rf {h : gH} : FrC h h := ⟨fun _ _ => rfl, fun _ _ => rfl, fun _ _ => rfl⟩
theorem FrC.tr {h h' h'' : gH} (a : FrC h h') (b : FrC h' h'') : FrC h h'' := ⟨fun q hq => (b.1 q hq).trans (a.1 q hq), fun q hq => (b.2.1 q hq).trans (a.2.1 q hq), fun q hq => (b.2.2 q hq).trans (a.2.2 q hq)⟩
theorem Fr1.toC {h h' : gH} {lo hi : Nat} (a : Fr1 h h' lo hi) (h1 : hi ≤ 94) : FrC h h' := ⟨fun q _ => a.1 q (by omega), fun q _ => by rw [a.2.1], fun q _ => by rw [a.2.2]⟩
theorem Fr2.toC {h h' : gH} {lo hi lo2 hi2 : Nat} (a : Fr2 h h' lo hi lo2 hi2) (h1 : hi ≤ 94) (h2 : hi2 ≤ 94) : FrC h h' := ⟨fun q _ => a.1 q (by omega) (by omega), fun q _ => by rw [a.2.1], fun q _ => by rw [a.2.2]⟩
theorem FrM.toC {h h' : gH} {t : Nat} (a : FrM h h' t) (h1 : t + 3 ≤ 94) : FrC h h' := ⟨fun q _ => a.1 q (by omega) (by omega), fun q _ => by rw [a.2.1], fun q _ => by rw [a.2.2]⟩
theorem FrP.toC {h h' : gH} {t : Nat} (a : FrP h h' t) (h1 : t + 3 ≤ 94) : FrC h h' := ⟨fun q _ => a.1 q (by omega) (by omega), fun q _ => by rw [a.2.1], fun q _ => by rw [a.2.2]⟩
theorem FrL.toC {h h' : gH} {lo hi : Nat} (a : FrL h h' lo hi) (h1 : hi ≤ 94) : FrC h h' := ⟨fun q _ => by rw [a.2.1], fun q _ => a.1 q (by omega), fun q _ => by rw [a.2.2]⟩
theorem FrGa.toC {h h' : gH} (a : FrGa h h') : FrC h h' := ⟨fun q _ => a.1 q (by omega) (by omega), fun q _ => a.2.1 q (by omega), fun q _ => by rw [a.2.2]⟩
theorem FrG.toC {h h' : gH} (a : FrG h h') : FrC h h' := ⟨fun q _ => a.1 q (by omega) (by omega), fun q _ => by rw [a.2.1], fun q _ => a.2.2.1 q (by omega)⟩
/-- scratch cells alone have changed -/
def FrS (h h' : gH) : Prop := (∀ a, a < 43 ∨ a = 44 ∨ a = 58 ∨ (86 ≤ a ∧ a < 94) → gI h' a = gI h a) ∧ gI h' 43 0 = gI h 43 0 ∧ (∀ a, a = 59 ∨ (86 ≤ a ∧ a < 94) → gL h' a = gL h a) ∧ CLay h'
theorem RS_cg {h h' : gH} {b : Nat} {A : SS} (hA : RS h b A) (e : ∀ a, b ≤ a → a < b + 21 → gI h' a = gI h a) : RS h' b A := by
  obtain ⟨a0, a1, a2, a3⟩ := hA
  exact ⟨by rw [e b (by omega) (by omega)]; exact a0, by rw [e b (by omega) (by omega)]; exact a1, fun s hs => TI_cg (a2 s hs) (fun a h1 h2 => e a (by omega) (by omega)), fun k k1 k2 => by rw [e (b + 2) (by omega) (by omega)]; exact a3 k k1 k2⟩
theorem TpB_cg {h h' : gH} {B : List Nat} (hB : TpB h B) (e1 : gI h' 43 0 = gI h 43 0) (e2 : gI h' 44 = gI h 44) : TpB h' B := ⟨by rw [e1]; exact hB.1, fun p hp => by rw [e2]; exact hB.2.1 p hp, hB.2.2⟩
theorem ShtI_cg {h h' : gH} {t : Nat} {X : Nat × Nat × (Nat → Int32)} (hX : ShtI h t X) (e1 : gI h' t = gI h t) (e2 : gL h' (t + 1) = gL h (t + 1)) : ShtI h' t X := ⟨by rw [e1]; exact hX.1, by rw [e1]; exact hX.2.1, fun q k hk => by rw [e2]; exact hX.2.2 q k hk⟩
theorem FamI_cg {h h' : gH} (hF : FamI h) (e1 : gI h' 58 = gI h 58) (e2 : gL h' 59 = gL h 59) : FamI h' := by
  rcases hF with hF | ⟨n, w, h1, h2, h3, h4, h5, h6⟩
  · left; rw [e1]; exact hF
  · right; exact ⟨n, w, h1, h2, MkI_fr h3 e2, by rw [e1]; exact h4, by rw [e1]; exact h5, by rw [e1]; exact h6⟩
theorem RC_S {h h' : gH} {S : GS} (hR : RC h S) (hF : FrS h h') : RC h' S := by
  obtain ⟨c1, c2, c3, c4, c5, c6, c7, c8⟩ := hR
  obtain ⟨f1, f2, f3, f4⟩ := hF
  exact ⟨f4, c2, RS_cg c3 (fun a _ h2 => f1 a (by omega)), by rw [f1 0 (by omega)]; exact c4, fun K hK => RS_cg (c5 K hK) (fun a _ h2 => f1 a (by omega)), TpB_cg c6 f2 (f1 44 (by omega)), fun s hs => ShtI_cg (c7 s hs) (f1 _ (by omega)) (f3 _ (by omega)), FamI_cg c8 (f1 58 (by omega)) (f3 59 (by omega))⟩
/-- a slot gets a thing -/
theorem RC_put {h h' : gH} {S : GS} {s kd : Nat} {w L : List Nat} (hR : RC h S) (hs : s < 6) (hW : WT S.1.1 (kd, w, L)) (hT : TI h' (4 + 3 * s) kd w L) (f : Fr1 h h' (4 + 3 * s) (7 + 3 * s)) : RC h' (putT S s (kd, w, L)) := by
  obtain ⟨c1, c2, c3, c4, c5, c6, c7, c8⟩ := hR
  obtain ⟨⟨n2, n5, nT, nW⟩, w2, w3, w4⟩ := c2
  obtain ⟨a0, a1, a2, a3⟩ := c3
  refine ⟨CLay_eq c1 f.2.2, ⟨⟨n2, n5, fun q hq => ?_, nW⟩, w2, w3, w4⟩, ⟨by rw [f.1 1 (by omega)]; exact a0, by rw [f.1 1 (by omega)]; exact a1, fun q hq => ?_, fun k k1 k2 => by rw [f.1 (1 + 2) (by omega)]; exact a3 k k1 k2⟩, by rw [f.1 0 (by omega)]; exact c4, fun K hK => RS_cg (c5 K hK) (fun a _ h2 => f.1 a (by omega)), TpB_cg c6 (by rw [f.1 43 (by omega)]) (f.1 44 (by omega)), fun q hq => ShtI_cg (c7 q hq) (f.1 _ (by omega)) (by rw [f.2.1]), FamI_cg c8 (f.1 58 (by omega)) (by rw [f.2.1])⟩
  · show WT S.1.1 (if q = s then (kd, w, L) else S.1.2.2.1 q)
    by_cases e : q = s
    · rw [if_pos e]; exact hW
    · rw [if_neg e]; exact nT q hq
  · show TI h' (1 + 3 + 3 * q) (if q = s then (kd, w, L) else S.1.2.2.1 q).1 (if q = s then (kd, w, L) else S.1.2.2.1 q).2.1 (if q = s then (kd, w, L) else S.1.2.2.1 q).2.2
    by_cases e : q = s
    · subst e
      rw [if_pos rfl, show 1 + 3 + 3 * q = 4 + 3 * q by omega]
      exact hT
    · rw [if_neg e]
      exact TI_fr (a2 q hq) f (by omega)
/-- what is known of a slot -/
theorem RC_slot {h : gH} {S : GS} (hR : RC h S) {s : Nat} (hs : s < 6) : TI h (4 + 3 * s) (S.1.2.2.1 s).1 (S.1.2.2.1 s).2.1 (S.1.2.2.1 s).2.2 ∧ WT S.1.1 (S.1.2.2.1 s) := by
  have h1 := hR.2.2.1.2.2.1 s hs
  rw [show 1 + 3 + 3 * s = 4 + 3 * s by omega] at h1
  exact ⟨h1, hR.2.1.1.2.2.1 s hs⟩
