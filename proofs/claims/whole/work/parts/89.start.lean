/-! ===== what class and reference hold at the start; what either's calls leave of the other ===== -/
def h00 : gH := (fun _ _ => 0, fun _ _ => 0, fun _ _ => none)
def hS0 : gH := hX10 (hX9L h00 4)
def S00 : GS := ((3, nI 1, fun _ => (0, [], []), fun _ => 1), none, [], fun _ => (0, 0, fun _ => nI 0))
theorem z00 {N : Nat} : gZ N h00 := fun t _ => ⟨fun _ => rfl, fun _ => rfl, fun _ => rfl⟩
theorem WT_00 {n : Nat} : WT n (0, [], []) := ⟨by decide, by decide, fun p hp => absurd hp (Nat.not_lt_zero p), fun _ => rfl, fun _ => rfl, fun q => absurd q (by decide)⟩
theorem WG_00 : WG S00 := ⟨⟨by decide, by decide, fun s _ => WT_00, fun k => (by decide : (1 : Nat) ≤ 99)⟩, fun K hK => (by cases hK), ⟨by decide, fun p => (by show ([] : List Nat).getD p 0 ≤ 255; simp)⟩, fun s _ => ⟨(by decide : (0 : Nat) ≤ 3), (by decide : (0 : Nat) ≤ 40), fun _ => rfl⟩⟩
set_option maxRecDepth 100000 in
theorem s_CL : ∀ q ∈ refL, gR hS0 q.1 q.2.1 = some q.2.2 := by decide +kernel
set_option maxRecDepth 100000 in
theorem s_ML : ∀ q ∈ mRef, gR hS0 94 q.1 = some q.2 := by decide +kernel
set_option maxRecDepth 100000 in
theorem s_T : ∀ s, s < 6 → gI hS0 (1 + 3 + 3 * s) 0 = nI 0 ∧ gI hS0 (1 + 3 + 3 * s) 1 = nI 0 ∧ gI hS0 (1 + 3 + 3 * s) 3 = nI 0 := by decide +kernel
set_option maxRecDepth 100000 in
theorem s_W : ∀ k, k < 6 → gI hS0 3 k = nI 1 := by decide +kernel
set_option maxRecDepth 100000 in
theorem s_i : gI hS0 1 0 = nI 3 ∧ gI hS0 1 1 = nI 1 ∧ gI hS0 0 2 = nI 0 ∧ gI hS0 43 0 = nI 0 ∧ gI hS0 58 0 = nI 0 := by decide +kernel
set_option maxRecDepth 100000 in
theorem s_h : ∀ s, s < 4 → gI hS0 (86 + 2 * s) 0 = -1 ∧ gI hS0 (86 + 2 * s) 1 = nI 0 := by decide +kernel
set_option maxRecDepth 100000 in
theorem s_m : gI hS0 94 0 = nI 3 ∧ gI hS0 94 1 = nI 1 ∧ gI hS0 94 14 = nI 0 ∧ gI hS0 94 21 = nI 0 := by decide +kernel
set_option maxRecDepth 100000 in
theorem s_mT : ∀ s, s < 6 → gI hS0 95 s = nI 0 := by decide +kernel
set_option maxRecDepth 100000 in
theorem s_mW : ∀ k, k < 6 → 1 ≤ k → gI hS0 103 k = nI 1 := by decide +kernel
set_option maxRecDepth 100000 in
theorem s_mh : ∀ s, s < 4 → gI hS0 120 s = -1 ∧ gI hS0 121 s = nI 0 := by decide +kernel
theorem RC_00 : RC hS0 S00 := by
  obtain ⟨a1, a2, a3, a4, a5⟩ := s_i
  refine ⟨s_CL, WG_00, ⟨a1, a2, fun s hs => ?_, fun k _ k2 => s_W k k2⟩, a3, fun K hK => (by cases hK), ⟨a4, fun p hp => absurd hp (Nat.not_lt_zero p), by decide, fun p => (by show ([] : List Nat).getD p 0 ≤ 255; simp)⟩, fun s hs => ⟨(s_h s hs).1, (s_h s hs).2, fun q => absurd rfl q⟩, Or.inl a5⟩
  obtain ⟨b1, b2, b3⟩ := s_T s hs
  exact ⟨b1, b2, b3, fun p hp => absurd hp (Nat.not_lt_zero p), fun p hp => absurd hp (Nat.not_lt_zero p), Nat.zero_le 6, Nat.zero_le 6, fun p => (by show ([] : List Nat).getD p 0 ≤ 9; simp), fun p => (by show ([] : List Nat).getD p 0 ≤ 6; simp), Nat.zero_le 2⟩
theorem RM_00 : RM hS0 S00 := by
  obtain ⟨a1, a2, a3, a4⟩ := s_m
  exact ⟨s_ML, ⟨a1, a2, fun s hs => ⟨s_mT s hs, fun q => absurd rfl q⟩, fun k k1 k2 => s_mW k k2 k1⟩, a3, fun K hK => (by cases hK), ⟨a4, fun p hp => absurd hp (Nat.not_lt_zero p)⟩, fun s hs => ⟨(s_mh s hs).1, (s_mh s hs).2, fun q => absurd rfl q⟩⟩
/-- a call of the class leaves what the reference holds -/
theorem RM_C {h h' : gH} {S : GS} (hR : RM h S) (f : FrC h h') : RM h' S := by
  obtain ⟨c1, ⟨c2, c3, c4, c5⟩, c6, c7, c8, c9⟩ := hR
  refine ⟨fun q hq => by rw [f.2.2 94 (by omega)]; exact c1 q hq, ⟨by rw [f.1 94 (by omega)]; exact c2, by rw [f.1 94 (by omega)]; exact c3, MT_cg c4 (fun a h1 h2 => f.1 a (by omega)), fun k k1 k2 => by rw [f.1 103 (by omega)]; exact c5 k k1 k2⟩, by rw [f.1 94 (by omega)]; exact c6, fun K hK => ?_, MB_cg c8 (by rw [f.1 94 (by omega)]) (f.1 108 (by omega)), MS_cg c9 (fun a h1 h2 => f.1 a (by omega))⟩
  obtain ⟨d1, d2, d3, d4⟩ := c7 K hK
  exact ⟨by rw [f.1 94 (by omega)]; exact d1, by rw [f.1 94 (by omega)]; exact d2, MT_cg d3 (fun a h1 h2 => f.1 a (by omega)), fun k k1 k2 => by rw [f.1 104 (by omega)]; exact d4 k k1 k2⟩
/-- a call of the reference leaves what the class holds -/
theorem RC_D {h h' : gH} {S : GS} (hR : RC h S) (f : FrD h h') : RC h' S := by
  obtain ⟨c1, c2, c3, c4, c5, c6, c7, c8⟩ := hR
  exact ⟨CLay_eq c1 f.2.2, c2, RS_cg c3 (fun a _ h2 => f.1 a (by omega)), by rw [f.1 0 (by omega)]; exact c4, fun K hK => RS_cg (c5 K hK) (fun a _ h2 => f.1 a (by omega)), TpB_cg c6 (by rw [f.1 43 (by omega)]) (f.1 44 (by omega)), fun s hs => ShtI_cg (c7 s hs) (f.1 _ (by omega)) (f.2.1 _ (by omega)), FamI_cg c8 (f.1 58 (by omega)) (f.2.1 59 (by omega))⟩
