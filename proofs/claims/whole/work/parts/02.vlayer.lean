/-! ===== the run's heap, by cells and places; a law an instruction over it ===== -/
abbrev gH : Type := (Nat → Nat → Int32) × (Nat → Nat → Int64) × (Nat → Nat → Option Nat)
def gI (h : gH) : Nat → Nat → Int32 := h.1
def gL (h : gH) : Nat → Nat → Int64 := h.2.1
def gR (h : gH) : Nat → Nat → Option Nat := h.2.2
def sIa (h : gH) (t : Nat) (f : Nat → Int32) : gH := (va_up h.1 t f, h.2.1, h.2.2)
def sLa (h : gH) (t : Nat) (f : Nat → Int64) : gH := (h.1, va_up h.2.1 t f, h.2.2)
def sRa (h : gH) (t : Nat) (f : Nat → Option Nat) : gH := (h.1, h.2.1, va_up h.2.2 t f)
def sI (h : gH) (t k : Nat) (v : Int32) : gH := sIa h t (va_up (gI h t) k v)
def sL (h : gH) (t k : Nat) (v : Int64) : gH := sLa h t (va_up (gL h t) k v)
def sR (h : gH) (t k : Nat) (v : Option Nat) : gH := sRa h t (va_up (gR h t) k v)
def gLay : List ((Nat × Nat) ⊕ Nat) := [.inr 9, .inr 6, .inl (2, 6), .inl (0, 6), .inr 8, .inl (0, 6), .inl (0, 6), .inr 8, .inl (0, 6), .inl (0, 6), .inr 8, .inl (0, 6), .inl (0, 6), .inr 8, .inl (0, 6), .inl (0, 6), .inr 8, .inl (0, 6), .inl (0, 6), .inr 8, .inl (0, 6), .inl (0, 6), .inr 6, .inl (2, 6), .inl (0, 6), .inr 8, .inl (0, 6), .inl (0, 6), .inr 8, .inl (0, 6), .inl (0, 6), .inr 8, .inl (0, 6), .inl (0, 6), .inr 8, .inl (0, 6), .inl (0, 6), .inr 8, .inl (0, 6), .inl (0, 6), .inr 8, .inl (0, 6), .inl (0, 6), .inr 7, .inl (0, 60), .inl (3, 4), .inr 3, .inr 8, .inl (0, 6), .inl (0, 6), .inr 2, .inl (0, 6), .inl (0, 36), .inl (0, 36), .inr 2, .inl (0, 6), .inl (0, 36), .inl (0, 36), .inr 0, .inl (1, 245), .inl (0, 512), .inr 8, .inl (0, 6), .inl (0, 6), .inr 8, .inl (0, 6), .inl (0, 6), .inr 1, .inl (0, 6), .inl (0, 6), .inl (0, 6), .inr 8, .inl (0, 6), .inl (0, 6), .inr 4, .inl (0, 6), .inr 4, .inl (0, 6), .inr 4, .inl (0, 6), .inr 8, .inl (0, 6), .inl (0, 6), .inr 8, .inl (0, 6), .inl (0, 6), .inr 5, .inl (1, 40), .inr 5, .inl (1, 40), .inr 5, .inl (1, 40), .inr 5, .inl (1, 40), .inr 10, .inl (0, 6), .inl (0, 6), .inl (0, 36), .inl (0, 36), .inl (0, 6), .inl (0, 6), .inl (0, 36), .inl (0, 36), .inl (0, 6), .inl (0, 6), .inl (0, 6), .inl (0, 6), .inl (0, 6), .inl (0, 60), .inl (0, 36), .inl (0, 6), .inl (0, 60), .inl (0, 60), .inl (0, 489), .inl (0, 500), .inl (0, 36), .inl (0, 6), .inl (0, 6), .inl (0, 6), .inl (0, 6), .inl (0, 4), .inl (0, 4), .inl (0, 160), .inl (0, 40)]
def lay (t : Nat) : Option ((Nat × Nat) ⊕ Nat) := gLay[t]?
abbrev gCl : List vw_C := [(RX0, TX0, 7), (RX1, TX1, 7), (RX2, TX2, 5), (RX3, TX3, 6), (RX4, TX4, 3), (RX5, TX5, 3), (RX6, TX6, 4), (RX7, TX7, 5), (RX8, TX8, 5), (RX9, TX9, 14), (RX10, TX10, 46)]
def gTyL : List (Nat → FieldType) := [tyX0, tyX1, tyX2, tyX3, tyX4, tyX5, tyX6, tyX7, tyX8, tyX9, tyX10]
def gTy (c k : Nat) : FieldType := (gTyL.getD c (fun _ => .int)) k
def gFkL : List (List Nat) := [[0, 0, 0, 2, 2, 2, 2], [2, 2, 2, 0, 2, 2, 2], [0, 0, 2, 2, 2], [0, 0, 0, 0, 2, 2], [0, 0, 2], [0, 0, 2], [0, 0, 2, 2], [0, 0, 0, 0, 2], [0, 0, 2, 0, 2], [2, 2, 3, 2, 2, 2, 2, 2, 2, 2, 2, 2, 2, 2], [0, 0, 0, 0, 2, 2, 2, 2, 2, 2, 2, 2, 2, 2, 3, 2, 2, 2, 0, 0, 2, 0, 0, 2, 2, 0, 0, 0, 0, 0, 2, 2, 2, 2, 0, 2, 2, 2, 2, 0, 1, 2, 2, 2, 2, 2]]
def fk (c : Nat) : List Nat := gFkL.getD c []
def gTbl : List Cond := lw_tbl.filter goodWord
theorem gT0 {w : Cond} {i : Nat} (h : (k2_sels lw_privs)[i]? = some w) (hg : goodWord w = true) : w ∈ gTbl := List.mem_filter.mpr ⟨List.mem_append_left _ (List.mem_of_getElem? h), hg⟩
theorem gT1 {w : Cond} {i : Nat} (h : tables_1_1[i]? = some w) (hg : goodWord w = true) : w ∈ gTbl := List.mem_filter.mpr ⟨List.mem_append_right _ (List.mem_append_left _ (List.mem_of_getElem? h)), hg⟩
theorem gT2 {w : Cond} {i : Nat} (h : tables_1_2[i]? = some w) (hg : goodWord w = true) : w ∈ gTbl := List.mem_filter.mpr ⟨List.mem_append_right _ (List.mem_append_right _ (List.mem_append_left _ (List.mem_of_getElem? h))), hg⟩
theorem gT3 {w : Cond} {i : Nat} (h : tables_1_3[i]? = some w) (hg : goodWord w = true) : w ∈ gTbl := List.mem_filter.mpr ⟨List.mem_append_right _ (List.mem_append_right _ (List.mem_append_right _ (List.mem_append_left _ (List.mem_of_getElem? h)))), hg⟩
theorem gT4 {w : Cond} {i : Nat} (h : tables_1_4[i]? = some w) (hg : goodWord w = true) : w ∈ gTbl := List.mem_filter.mpr ⟨List.mem_append_right _ (List.mem_append_right _ (List.mem_append_right _ (List.mem_append_right _ (List.mem_append_left _ (List.mem_of_getElem? h))))), hg⟩
theorem gT5 {w : Cond} {i : Nat} (h : tables_1_5[i]? = some w) (hg : goodWord w = true) : w ∈ gTbl := List.mem_filter.mpr ⟨List.mem_append_right _ (List.mem_append_right _ (List.mem_append_right _ (List.mem_append_right _ (List.mem_append_right _ (List.mem_append_left _ (List.mem_of_getElem? h)))))), hg⟩
theorem gT6 {w : Cond} {i : Nat} (h : tables_1_6[i]? = some w) (hg : goodWord w = true) : w ∈ gTbl := List.mem_filter.mpr ⟨List.mem_append_right _ (List.mem_append_right _ (List.mem_append_right _ (List.mem_append_right _ (List.mem_append_right _ (List.mem_append_right _ (List.mem_of_getElem? h)))))), hg⟩
/-- base, classes of objects, of arrays; the script's address, length, values; the texts' addresses, and of their bytes -/
abbrev gM : Type := Nat × va_G × (Nat → ClassId) × (Nat × Nat × (Nat → Int32)) × (Nat → Nat) × (Nat → Nat)
def gB (Γ : gM) : Nat := Γ.1
def gD (Γ : gM) : va_G := Γ.2.1
def gCy (Γ : gM) : Nat → ClassId := Γ.2.2.1
def gAl (Γ : gM) (t : Nat) : Nat := if t < 1000 then gB Γ + t else if t = 1000 then Γ.2.2.2.1.1 else if t < 1100 then Γ.2.2.2.2.1 (t - 1001) else if t < 2000 then Γ.2.2.2.2.2 (t - 1101) else t - 2000
def gV (Γ : gM) (v : Value) : Value := match v with
  | .ref a => .ref (gAl Γ a)
  | v => v
def gFv (Γ : gM) (h : gH) (t k kd : Nat) : Value := if kd = 1 then .long (gL h t k) else if kd = 2 then va_rf ((gR h t k).map (gAl Γ)) else .int (gI h t k)
def gFs (Γ : gM) (h : gH) (t c : Nat) : List Value := (List.range (fk c).length).map (fun k => gFv Γ h t k ((fk c).getD k 0))
def gEnt (Γ : gM) (h : gH) (t : Nat) : va_E := match lay t with
  | some (.inr c) => .inr (c, gFs Γ h t c)
  | some (.inl (0, n)) => .inl (gCy Γ 0, n, .inl (gI h t))
  | some (.inl (1, n)) => .inl (gCy Γ 1, n, .inr (.inl (gL h t)))
  | some (.inl (k, n)) => .inl (gCy Γ k, n, .inr (.inr (.inr (.inr (fun j => (gR h t j).map (gAl Γ))))))
  | none => .inr (99, [])
def gWd (Γ : gM) (N : Nat) (h : gH) : va_W := (List.range N).map (fun t => (gB Γ + t, gEnt Γ h t))
def gTys (Γ : gM) : List (ClassId × FieldType) := [(gCy Γ 0, .int), (gCy Γ 1, .long), (gCy Γ 2, .object "RaisedTableaux$Thing"), (gCy Γ 3, .object "RaisedTableaux$Sheet")]
abbrev gA (Γ : gM) : Nat → Prop := fun q => gB Γ ≤ q
theorem gWd_get {Γ : gM} {N t : Nat} {h : gH} (ht : t < N) : (gWd Γ N h)[t]? = some (gB Γ + t, gEnt Γ h t) := by
  simp [gWd, ht]
theorem gWd_len {Γ : gM} {N : Nat} {h : gH} : (gWd Γ N h).length = N := by simp [gWd]
theorem gWd_D {Γ : gM} {N : Nat} {h : gH} : va_D (gA Γ) (gWd Γ N h) := by
  have key : ∀ (i : Nat) (p : Nat × va_E), (gWd Γ N h)[i]? = some p → p.1 = gB Γ + i := by
    intro i p hp
    have hi : i < N := by
      have := (List.getElem?_eq_some_iff.mp hp).1
      simpa [gWd_len] using this
    rw [gWd_get hi] at hp
    cases hp
    rfl
  refine ⟨fun i j p q hp hq e => ?_, fun k q hq => ?_⟩
  · have h1 := key i p hp
    have h2 := key j q hq
    omega
  · have h1 := key k q hq
    show gB Γ ≤ q.1
    omega
theorem gWd_set {Γ : gM} {N t : Nat} {h h' : gH} {x : va_E} (hx : x = gEnt Γ h' t) (ho : ∀ a, a ≠ t → gEnt Γ h' a = gEnt Γ h a) : (gWd Γ N h).set t (gB Γ + t, x) = gWd Γ N h' := by
  subst hx
  apply List.ext_getElem?
  intro i
  rw [List.getElem?_set]
  by_cases hi : t = i
  · subst hi
    by_cases hN : t < N
    · simp [gWd, hN]
    · simp [gWd, hN]
  · simp only [hi, if_false]
    by_cases hN : i < N
    · rw [gWd_get hN, gWd_get hN, ho i (fun e => hi e.symm)]
    · simp [gWd, hN]
theorem gWd_succ {Γ : gM} {N : Nat} {h : gH} : gWd Γ (N + 1) h = gWd Γ N h ++ [(gB Γ + N, gEnt Γ h N)] := by
  simp [gWd, List.range_succ]
theorem gI_sIa (h : gH) (t : Nat) (f : Nat → Int32) (a : Nat) : gI (sIa h t f) a = if a = t then f else gI h a := by
  show va_up h.1 t f a = _
  unfold va_up gI
  rfl
theorem gL_sIa (h : gH) (t : Nat) (f : Nat → Int32) : gL (sIa h t f) = gL h := rfl
theorem gR_sIa (h : gH) (t : Nat) (f : Nat → Int32) : gR (sIa h t f) = gR h := rfl
theorem gI_sLa (h : gH) (t : Nat) (f : Nat → Int64) : gI (sLa h t f) = gI h := rfl
theorem gL_sLa (h : gH) (t : Nat) (f : Nat → Int64) (a : Nat) : gL (sLa h t f) a = if a = t then f else gL h a := by
  show va_up h.2.1 t f a = _
  unfold va_up gL
  rfl
theorem gR_sLa (h : gH) (t : Nat) (f : Nat → Int64) : gR (sLa h t f) = gR h := rfl
theorem gI_sRa (h : gH) (t : Nat) (f : Nat → Option Nat) : gI (sRa h t f) = gI h := rfl
theorem gL_sRa (h : gH) (t : Nat) (f : Nat → Option Nat) : gL (sRa h t f) = gL h := rfl
theorem gR_sRa (h : gH) (t : Nat) (f : Nat → Option Nat) (a : Nat) : gR (sRa h t f) a = if a = t then f else gR h a := by
  show va_up h.2.2 t f a = _
  unfold va_up gR
  rfl
theorem gI_sI (h : gH) (t k : Nat) (v : Int32) (a b : Nat) : gI (sI h t k v) a b = if a = t ∧ b = k then v else gI h a b := by
  unfold sI
  rw [gI_sIa]
  by_cases ha : a = t
  · subst ha
    by_cases hb : b = k
    · simp [va_up, hb]
    · simp [va_up, hb]
  · simp [ha]
theorem gL_sI (h : gH) (t k : Nat) (v : Int32) : gL (sI h t k v) = gL h := rfl
theorem gR_sI (h : gH) (t k : Nat) (v : Int32) : gR (sI h t k v) = gR h := rfl
theorem gI_sL (h : gH) (t k : Nat) (v : Int64) : gI (sL h t k v) = gI h := rfl
theorem gL_sL (h : gH) (t k : Nat) (v : Int64) (a b : Nat) : gL (sL h t k v) a b = if a = t ∧ b = k then v else gL h a b := by
  unfold sL
  rw [gL_sLa]
  by_cases ha : a = t
  · subst ha
    by_cases hb : b = k
    · simp [va_up, hb]
    · simp [va_up, hb]
  · simp [ha]
theorem gR_sL (h : gH) (t k : Nat) (v : Int64) : gR (sL h t k v) = gR h := rfl
theorem gI_sR (h : gH) (t k : Nat) (v : Option Nat) : gI (sR h t k v) = gI h := rfl
theorem gL_sR (h : gH) (t k : Nat) (v : Option Nat) : gL (sR h t k v) = gL h := rfl
theorem gR_sR (h : gH) (t k : Nat) (v : Option Nat) (a b : Nat) : gR (sR h t k v) a b = if a = t ∧ b = k then v else gR h a b := by
  unfold sR
  rw [gR_sRa]
  by_cases ha : a = t
  · subst ha
    by_cases hb : b = k
    · simp [va_up, hb]
    · simp [va_up, hb]
  · simp [ha]
/-- a cell's entry depends on its own rows alone -/
theorem gEnt_congr {Γ : gM} {h h' : gH} {a : Nat} (e1 : gI h' a = gI h a) (e2 : gL h' a = gL h a) (e3 : gR h' a = gR h a) : gEnt Γ h' a = gEnt Γ h a := by
  unfold gEnt gFs gFv
  rw [e1, e2, e3]
theorem gEnt_sIa {Γ : gM} {h : gH} {t : Nat} {f : Nat → Int32} (a : Nat) (ha : a ≠ t) : gEnt Γ (sIa h t f) a = gEnt Γ h a :=
  gEnt_congr (by rw [gI_sIa, if_neg ha]) rfl rfl
theorem gEnt_sLa {Γ : gM} {h : gH} {t : Nat} {f : Nat → Int64} (a : Nat) (ha : a ≠ t) : gEnt Γ (sLa h t f) a = gEnt Γ h a :=
  gEnt_congr rfl (by rw [gL_sLa, if_neg ha]) rfl
theorem gEnt_sRa {Γ : gM} {h : gH} {t : Nat} {f : Nat → Option Nat} (a : Nat) (ha : a ≠ t) : gEnt Γ (sRa h t f) a = gEnt Γ h a :=
  gEnt_congr rfl rfl (by rw [gR_sRa, if_neg ha])
theorem gEnt_o {Γ : gM} {h : gH} {t c : Nat} (hl : lay t = some (.inr c)) : gEnt Γ h t = .inr (c, gFs Γ h t c) := by unfold gEnt; rw [hl]
theorem gEnt_i {Γ : gM} {h : gH} {t n : Nat} (hl : lay t = some (.inl (0, n))) : gEnt Γ h t = .inl (gCy Γ 0, n, .inl (gI h t)) := by unfold gEnt; rw [hl]; rfl
theorem gEnt_l {Γ : gM} {h : gH} {t n : Nat} (hl : lay t = some (.inl (1, n))) : gEnt Γ h t = .inl (gCy Γ 1, n, .inr (.inl (gL h t))) := by unfold gEnt; rw [hl]; rfl
theorem gEnt_r {Γ : gM} {h : gH} {t k n : Nat} (hl : lay t = some (.inl (k + 2, n))) : gEnt Γ h t = .inl (gCy Γ (k + 2), n, .inr (.inr (.inr (.inr (fun j => (gR h t j).map (gAl Γ)))))) := by unfold gEnt; rw [hl]; rfl
theorem gFs_get {Γ : gM} {h : gH} {t c k kd : Nat} (hk : (fk c)[k]? = some kd) : (gFs Γ h t c)[k]? = some (gFv Γ h t k kd) := by
  have hlt : k < (fk c).length := (List.getElem?_eq_some_iff.mp hk).1
  have hg : (fk c).getD k 0 = kd := by rw [List.getD_eq_getElem?_getD, hk]; rfl
  unfold gFs
  rw [List.getElem?_map, List.getElem?_range hlt]
  simp only [Option.map_some, hg]
theorem gFs_len {Γ : gM} {h : gH} {t c : Nat} : (gFs Γ h t c).length = (fk c).length := by simp [gFs]
theorem gFs_set {Γ : gM} {h h' : gH} {t c k : Nat} {v : Value} (hk : ∀ kd, (fk c)[k]? = some kd → gFv Γ h' t k kd = v) (ho : ∀ j kd, j ≠ k → gFv Γ h' t j kd = gFv Γ h t j kd) : (gFs Γ h t c).set k v = gFs Γ h' t c := by
  apply List.ext_getElem?
  intro i
  rw [List.getElem?_set]
  by_cases hi : k = i
  · subst hi
    by_cases hl : k < (fk c).length
    · obtain ⟨kd, hkd⟩ : ∃ kd, (fk c)[k]? = some kd := ⟨_, List.getElem?_eq_getElem hl⟩
      rw [gFs_get (h := h') hkd, hk kd hkd]
      simp [gFs_len, hl]
    · have h1 : (gFs Γ h' t c)[k]? = none := by rw [List.getElem?_eq_none_iff, gFs_len]; omega
      rw [h1]
      simp [gFs_len, hl]
  · rw [if_neg hi]
    by_cases hl : i < (fk c).length
    · obtain ⟨kd, hkd⟩ : ∃ kd, (fk c)[i]? = some kd := ⟨_, List.getElem?_eq_getElem hl⟩
      rw [gFs_get (h := h) hkd, gFs_get (h := h') hkd, ho i kd (fun e => hi e.symm)]
    · have h1 : (gFs Γ h' t c)[i]? = none := by rw [List.getElem?_eq_none_iff, gFs_len]; omega
      have h2 : (gFs Γ h t c)[i]? = none := by rw [List.getElem?_eq_none_iff, gFs_len]; omega
      rw [h1, h2]
/-! locals -/
def gLv (Γ : gM) : Nat → List (Option Value) → List (Nat × Value)
  | _, [] => []
  | i, none :: r => gLv Γ (i + 1) r
  | i, some v :: r => (i, gV Γ v) :: gLv Γ (i + 1) r
theorem gLv_mem {Γ : gM} : ∀ (lv : List (Option Value)) (i : Nat) (q : Nat × Value), q ∈ gLv Γ i lv ↔ ∃ (j : Nat) (v : Value), lv[j]? = some (some v) ∧ q = (i + j, gV Γ v)
  | [], i, q => by simp [gLv]
  | none :: r, i, q => by
    rw [gLv, gLv_mem r (i + 1) q]
    constructor
    · rintro ⟨j, v, h1, rfl⟩
      exact ⟨j + 1, v, by simpa using h1, by simp; omega⟩
    · rintro ⟨j, v, h1, rfl⟩
      cases j with
      | zero => simp at h1
      | succ j => exact ⟨j, v, by simpa using h1, by simp; omega⟩
  | some w :: r, i, q => by
    rw [gLv, List.mem_cons, gLv_mem r (i + 1) q]
    constructor
    · rintro (rfl | ⟨j, v, h1, rfl⟩)
      · exact ⟨0, w, by simp, by simp⟩
      · exact ⟨j + 1, v, by simpa using h1, by simp; omega⟩
    · rintro ⟨j, v, h1, rfl⟩
      cases j with
      | zero =>
        simp at h1
        subst h1
        exact Or.inl (by simp)
      | succ j => exact Or.inr ⟨j, v, by simpa using h1, by simp; omega⟩
theorem gLv_at {Γ : gM} {ls : Array Slot} {n j : Nat} {lv : List (Option Value)} {v : Value} (h : lv_has ls n (gLv Γ 0 lv)) (hj : lv[j]? = some (some v)) : ls[j]? = some (.val (gV Γ v)) :=
  h.2.2 (j, gV Γ v) ((gLv_mem lv 0 _).mpr ⟨j, v, hj, by simp⟩)
theorem gV_cat {Γ : gM} (v : Value) : (gV Γ v).category = v.category := by cases v <;> rfl
/-- no value of two slots stands right ahead of place i -/
def gNl (lv : List (Option Value)) (i : Nat) : Bool := match i with
  | 0 => true
  | i + 1 => match lv[i]? with
    | some (some v) => v.category == 1
    | _ => true
theorem gLv_st1 {Γ : gM} {ls : Array Slot} {n i : Nat} {lv : List (Option Value)} {v : Value} (hnl : gNl lv i = true)
    (h : lv_has ls n ((i, gV Γ v) :: (gLv Γ 0 lv).filter (fun q => !(q.1 == i) && !(q.1 + 1 == i && q.2.category == 2)))) : lv_has ls n (gLv Γ 0 (lv.set i (some v))) := by
  refine ⟨h.1, h.2.1, fun q hq => h.2.2 q ?_⟩
  obtain ⟨j, w, h1, rfl⟩ := (gLv_mem _ _ _).mp hq
  rw [List.getElem?_set] at h1
  by_cases hj : i = j
  · subst hj
    rw [if_pos rfl] at h1
    split at h1
    · cases h1
      rw [Nat.zero_add]
      exact List.mem_cons_self
    · cases h1
  · rw [if_neg hj] at h1
    refine List.mem_cons_of_mem _ (List.mem_filter.mpr ⟨(gLv_mem _ _ _).mpr ⟨j, w, h1, rfl⟩, ?_⟩)
    simp only [Nat.zero_add, Bool.and_eq_true, Bool.not_eq_true', beq_eq_false_iff_ne, ne_eq, Bool.and_eq_false_iff]
    refine ⟨fun e => hj e.symm, ?_⟩
    by_cases hji : j + 1 = i
    · right
      subst hji
      simp only [gNl, h1] at hnl
      rw [gV_cat]
      have : w.category = 1 := by simpa using hnl
      omega
    · exact Or.inl hji
theorem gLv_st2 {Γ : gM} {ls : Array Slot} {n i : Nat} {lv : List (Option Value)} {v : Value} (hnl : gNl lv i = true)
    (h : lv_has ls n ((i, gV Γ v) :: (gLv Γ 0 lv).filter (fun q => !(q.1 == i) && (!(q.1 == i + 1) && !(q.1 + 1 == i && q.2.category == 2))))) : lv_has ls n (gLv Γ 0 ((lv.set i (some v)).set (i + 1) none)) := by
  refine ⟨h.1, h.2.1, fun q hq => h.2.2 q ?_⟩
  obtain ⟨j, w, h1, rfl⟩ := (gLv_mem _ _ _).mp hq
  rw [List.getElem?_set] at h1
  by_cases hj1 : i + 1 = j
  · rw [if_pos hj1] at h1
    split at h1 <;> cases h1
  rw [if_neg hj1, List.getElem?_set] at h1
  by_cases hj : i = j
  · subst hj
    rw [if_pos rfl] at h1
    split at h1
    · cases h1
      rw [Nat.zero_add]
      exact List.mem_cons_self
    · cases h1
  · rw [if_neg hj] at h1
    refine List.mem_cons_of_mem _ (List.mem_filter.mpr ⟨(gLv_mem _ _ _).mpr ⟨j, w, h1, rfl⟩, ?_⟩)
    simp only [Nat.zero_add, Bool.and_eq_true, Bool.not_eq_true', beq_eq_false_iff_ne, ne_eq, Bool.and_eq_false_iff]
    refine ⟨fun e => hj e.symm, fun e => hj1 e.symm, ?_⟩
    by_cases hji : j + 1 = i
    · right
      subst hji
      simp only [gNl, h1] at hnl
      rw [gV_cat]
      have : w.category = 1 := by simpa using hnl
      omega
    · exact Or.inl hji
def gArg : List Value → List (Option Value)
  | [] => []
  | v :: r => if v.category = 2 then some v :: none :: gArg r else some v :: gArg r
def gArgs (n : Nat) (l : List Value) : List (Option Value) := gArg l ++ List.replicate (n - (gArg l).length) none
theorem gLv_none {Γ : gM} : ∀ (n i : Nat), gLv Γ i (List.replicate n none) = []
  | 0, _ => rfl
  | n + 1, i => by rw [List.replicate_succ, gLv, gLv_none n (i + 1)]
theorem gLv_arg {Γ : gM} : ∀ (l : List Value) (i n : Nat), gLv Γ i (gArg l ++ List.replicate n none) = lv_args i (l.map (gV Γ))
  | [], i, n => by simp [gArg, gLv_none, lv_args]
  | v :: r, i, n => by
    by_cases h2 : v.category = 2
    · rw [gArg, if_pos h2, List.map_cons, lv_args, if_pos (by rw [gV_cat]; exact h2)]
      simp only [List.cons_append, gLv]
      rw [gLv_arg r (i + 1 + 1) n]
    · rw [gArg, if_neg h2, List.map_cons, lv_args, if_neg (by rw [gV_cat]; exact h2)]
      simp only [List.cons_append, gLv]
      rw [gLv_arg r (i + 1) n]
theorem lay_lt {t : Nat} {x : (Nat × Nat) ⊕ Nat} (h : lay t = some x) : t < 124 := (List.getElem?_eq_some_iff.mp h).1
theorem gAl_lay {Γ : gM} {t : Nat} {x : (Nat × Nat) ⊕ Nat} (h : lay t = some x) : gAl Γ t = gB Γ + t := by
  unfold gAl
  rw [if_pos (Nat.lt_of_lt_of_le (lay_lt h) (by decide))]
theorem gLay_small : gLay.all (fun x => match x with
  | .inl q => decide (q.2 < 1000)
  | .inr _ => true) = true := by decide +kernel
theorem lay_n {t k n : Nat} (h : lay t = some (.inl (k, n))) : n < 2 ^ 31 := by
  have h1 := List.all_eq_true.mp gLay_small _ (List.mem_of_getElem? h)
  have h2 : n < 1000 := by simpa using h1
  omega
theorem lay_j {t k n j : Nat} (h : lay t = some (.inl (k, n))) (hj : j < n) : j < 2 ^ 31 := Nat.lt_trans hj (lay_n h)
def gTk (ty : FieldType) (kd : Nat) : Bool := match kd, ty with
  | 0, .int => true
  | 1, .long => true
  | 3, .boolean => true
  | 2, .object _ => true
  | 2, .array _ => true
  | _, _ => false
/-- a field by its link: its class's number, its place, its kind -/
def gFld (own : String) (idx ci k kd : Nat) (fin : Bool) : Prop := ∃ (C : String) (T : u_T) (n : Nat), gCl[ci]? = some (C, T, n) ∧ k < n ∧ (fk ci)[k]? = some kd ∧ (T k).2.2.2 = fin ∧ Cond.fieldLink own idx (T k).1 (T k).2.1 (T k).2.2.1 ∈ gTbl ∧ (T k).1 = C
def gOwn (ci : Nat) : String := ((gCl[ci]?).map (fun q => q.1)).getD ""
def gClOk (ci : Nat) (C : String) (T : u_T) (n : Nat) : Prop := (∀ w ∈ u_ws C T n, w ∈ gTbl) ∧ (∀ k, k < n → parseFieldDescriptor (T k).2.2.1 = some (gTy ci k)) ∧ (∀ a, a < n → ∀ b, b < n → a ≠ b → (T a).2.1 ≠ (T b).2.1) ∧ (fk ci).length = n ∧ ∀ k, k < n → gTk (gTy ci k) ((fk ci).getD k 9) = true
theorem gly0_0 : u_lay RX0 TX0 0 ∈ gTbl := gT1 (i := 195) (by decide +kernel) (by decide +kernel)
theorem gly0_1 : u_lay RX0 TX0 1 ∈ gTbl := gT1 (i := 197) (by decide +kernel) (by decide +kernel)
theorem gly0_2 : u_lay RX0 TX0 2 ∈ gTbl := gT1 (i := 199) (by decide +kernel) (by decide +kernel)
theorem gly0_3 : u_lay RX0 TX0 3 ∈ gTbl := gT1 (i := 201) (by decide +kernel) (by decide +kernel)
theorem gly0_4 : u_lay RX0 TX0 4 ∈ gTbl := gT1 (i := 203) (by decide +kernel) (by decide +kernel)
theorem gly0_5 : u_lay RX0 TX0 5 ∈ gTbl := gT1 (i := 205) (by decide +kernel) (by decide +kernel)
theorem gly0_6 : u_lay RX0 TX0 6 ∈ gTbl := gT1 (i := 207) (by decide +kernel) (by decide +kernel)
theorem gcl0 : gClOk 0 RX0 TX0 7 := by
  refine ⟨fun w hw => ?_, tyX0_ok, nmX0, rfl, by decide +kernel⟩
  obtain ⟨k, hk, rfl⟩ := List.mem_map.mp hw
  have hk2 : k < 7 := List.mem_range.mp hk
  match k, hk2 with
  | 0, _ => exact gly0_0
  | 1, _ => exact gly0_1
  | 2, _ => exact gly0_2
  | 3, _ => exact gly0_3
  | 4, _ => exact gly0_4
  | 5, _ => exact gly0_5
  | 6, _ => exact gly0_6
  | k + 7, h => exact absurd h (by omega)
theorem gly1_0 : u_lay RX1 TX1 0 ∈ gTbl := gT1 (i := 226) (by decide +kernel) (by decide +kernel)
theorem gly1_1 : u_lay RX1 TX1 1 ∈ gTbl := gT1 (i := 228) (by decide +kernel) (by decide +kernel)
theorem gly1_2 : u_lay RX1 TX1 2 ∈ gTbl := gT1 (i := 230) (by decide +kernel) (by decide +kernel)
theorem gly1_3 : u_lay RX1 TX1 3 ∈ gTbl := gT1 (i := 232) (by decide +kernel) (by decide +kernel)
theorem gly1_4 : u_lay RX1 TX1 4 ∈ gTbl := gT1 (i := 234) (by decide +kernel) (by decide +kernel)
theorem gly1_5 : u_lay RX1 TX1 5 ∈ gTbl := gT1 (i := 236) (by decide +kernel) (by decide +kernel)
theorem gly1_6 : u_lay RX1 TX1 6 ∈ gTbl := gT1 (i := 238) (by decide +kernel) (by decide +kernel)
theorem gcl1 : gClOk 1 RX1 TX1 7 := by
  refine ⟨fun w hw => ?_, tyX1_ok, nmX1, rfl, by decide +kernel⟩
  obtain ⟨k, hk, rfl⟩ := List.mem_map.mp hw
  have hk2 : k < 7 := List.mem_range.mp hk
  match k, hk2 with
  | 0, _ => exact gly1_0
  | 1, _ => exact gly1_1
  | 2, _ => exact gly1_2
  | 3, _ => exact gly1_3
  | 4, _ => exact gly1_4
  | 5, _ => exact gly1_5
  | 6, _ => exact gly1_6
  | k + 7, h => exact absurd h (by omega)
theorem gly2_0 : u_lay RX2 TX2 0 ∈ gTbl := gT1 (i := 145) (by decide +kernel) (by decide +kernel)
theorem gly2_1 : u_lay RX2 TX2 1 ∈ gTbl := gT1 (i := 147) (by decide +kernel) (by decide +kernel)
theorem gly2_2 : u_lay RX2 TX2 2 ∈ gTbl := gT1 (i := 149) (by decide +kernel) (by decide +kernel)
theorem gly2_3 : u_lay RX2 TX2 3 ∈ gTbl := gT1 (i := 151) (by decide +kernel) (by decide +kernel)
theorem gly2_4 : u_lay RX2 TX2 4 ∈ gTbl := gT1 (i := 153) (by decide +kernel) (by decide +kernel)
theorem gcl2 : gClOk 2 RX2 TX2 5 := by
  refine ⟨fun w hw => ?_, tyX2_ok, nmX2, rfl, by decide +kernel⟩
  obtain ⟨k, hk, rfl⟩ := List.mem_map.mp hw
  have hk2 : k < 5 := List.mem_range.mp hk
  match k, hk2 with
  | 0, _ => exact gly2_0
  | 1, _ => exact gly2_1
  | 2, _ => exact gly2_2
  | 3, _ => exact gly2_3
  | 4, _ => exact gly2_4
  | k + 5, h => exact absurd h (by omega)
theorem gly3_0 : u_lay RX3 TX3 0 ∈ gTbl := gT1 (i := 164) (by decide +kernel) (by decide +kernel)
theorem gly3_1 : u_lay RX3 TX3 1 ∈ gTbl := gT1 (i := 166) (by decide +kernel) (by decide +kernel)
theorem gly3_2 : u_lay RX3 TX3 2 ∈ gTbl := gT1 (i := 168) (by decide +kernel) (by decide +kernel)
theorem gly3_3 : u_lay RX3 TX3 3 ∈ gTbl := gT1 (i := 170) (by decide +kernel) (by decide +kernel)
theorem gly3_4 : u_lay RX3 TX3 4 ∈ gTbl := gT1 (i := 172) (by decide +kernel) (by decide +kernel)
theorem gly3_5 : u_lay RX3 TX3 5 ∈ gTbl := gT1 (i := 174) (by decide +kernel) (by decide +kernel)
theorem gcl3 : gClOk 3 RX3 TX3 6 := by
  refine ⟨fun w hw => ?_, tyX3_ok, nmX3, rfl, by decide +kernel⟩
  obtain ⟨k, hk, rfl⟩ := List.mem_map.mp hw
  have hk2 : k < 6 := List.mem_range.mp hk
  match k, hk2 with
  | 0, _ => exact gly3_0
  | 1, _ => exact gly3_1
  | 2, _ => exact gly3_2
  | 3, _ => exact gly3_3
  | 4, _ => exact gly3_4
  | 5, _ => exact gly3_5
  | k + 6, h => exact absurd h (by omega)
theorem gly4_0 : u_lay RX4 TX4 0 ∈ gTbl := gT2 (i := 14) (by decide +kernel) (by decide +kernel)
theorem gly4_1 : u_lay RX4 TX4 1 ∈ gTbl := gT2 (i := 16) (by decide +kernel) (by decide +kernel)
theorem gly4_2 : u_lay RX4 TX4 2 ∈ gTbl := gT2 (i := 18) (by decide +kernel) (by decide +kernel)
theorem gcl4 : gClOk 4 RX4 TX4 3 := by
  refine ⟨fun w hw => ?_, tyX4_ok, nmX4, rfl, by decide +kernel⟩
  obtain ⟨k, hk, rfl⟩ := List.mem_map.mp hw
  have hk2 : k < 3 := List.mem_range.mp hk
  match k, hk2 with
  | 0, _ => exact gly4_0
  | 1, _ => exact gly4_1
  | 2, _ => exact gly4_2
  | k + 3, h => exact absurd h (by omega)
theorem gly5_0 : u_lay RX5 TX5 0 ∈ gTbl := gT2 (i := 33) (by decide +kernel) (by decide +kernel)
theorem gly5_1 : u_lay RX5 TX5 1 ∈ gTbl := gT2 (i := 35) (by decide +kernel) (by decide +kernel)
theorem gly5_2 : u_lay RX5 TX5 2 ∈ gTbl := gT2 (i := 37) (by decide +kernel) (by decide +kernel)
theorem gcl5 : gClOk 5 RX5 TX5 3 := by
  refine ⟨fun w hw => ?_, tyX5_ok, nmX5, rfl, by decide +kernel⟩
  obtain ⟨k, hk, rfl⟩ := List.mem_map.mp hw
  have hk2 : k < 3 := List.mem_range.mp hk
  match k, hk2 with
  | 0, _ => exact gly5_0
  | 1, _ => exact gly5_1
  | 2, _ => exact gly5_2
  | k + 3, h => exact absurd h (by omega)
theorem gly6_0 : u_lay RX6 TX6 0 ∈ gTbl := gT1 (i := 88) (by decide +kernel) (by decide +kernel)
theorem gly6_1 : u_lay RX6 TX6 1 ∈ gTbl := gT1 (i := 90) (by decide +kernel) (by decide +kernel)
theorem gly6_2 : u_lay RX6 TX6 2 ∈ gTbl := gT1 (i := 92) (by decide +kernel) (by decide +kernel)
theorem gly6_3 : u_lay RX6 TX6 3 ∈ gTbl := gT1 (i := 94) (by decide +kernel) (by decide +kernel)
theorem gcl6 : gClOk 6 RX6 TX6 4 := by
  refine ⟨fun w hw => ?_, tyX6_ok, nmX6, rfl, by decide +kernel⟩
  obtain ⟨k, hk, rfl⟩ := List.mem_map.mp hw
  have hk2 : k < 4 := List.mem_range.mp hk
  match k, hk2 with
  | 0, _ => exact gly6_0
  | 1, _ => exact gly6_1
  | 2, _ => exact gly6_2
  | 3, _ => exact gly6_3
  | k + 4, h => exact absurd h (by omega)
theorem gly7_0 : u_lay RX7 TX7 0 ∈ gTbl := gT1 (i := 112) (by decide +kernel) (by decide +kernel)
theorem gly7_1 : u_lay RX7 TX7 1 ∈ gTbl := gT1 (i := 114) (by decide +kernel) (by decide +kernel)
theorem gly7_2 : u_lay RX7 TX7 2 ∈ gTbl := gT1 (i := 116) (by decide +kernel) (by decide +kernel)
theorem gly7_3 : u_lay RX7 TX7 3 ∈ gTbl := gT1 (i := 118) (by decide +kernel) (by decide +kernel)
theorem gly7_4 : u_lay RX7 TX7 4 ∈ gTbl := gT1 (i := 120) (by decide +kernel) (by decide +kernel)
theorem gcl7 : gClOk 7 RX7 TX7 5 := by
  refine ⟨fun w hw => ?_, tyX7_ok, nmX7, rfl, by decide +kernel⟩
  obtain ⟨k, hk, rfl⟩ := List.mem_map.mp hw
  have hk2 : k < 5 := List.mem_range.mp hk
  match k, hk2 with
  | 0, _ => exact gly7_0
  | 1, _ => exact gly7_1
  | 2, _ => exact gly7_2
  | 3, _ => exact gly7_3
  | 4, _ => exact gly7_4
  | k + 5, h => exact absurd h (by omega)
theorem gly8_0 : u_lay RX8 TX8 0 ∈ gTbl := gT1 (i := 65) (by decide +kernel) (by decide +kernel)
theorem gly8_1 : u_lay RX8 TX8 1 ∈ gTbl := gT1 (i := 67) (by decide +kernel) (by decide +kernel)
theorem gly8_2 : u_lay RX8 TX8 2 ∈ gTbl := gT1 (i := 69) (by decide +kernel) (by decide +kernel)
theorem gly8_3 : u_lay RX8 TX8 3 ∈ gTbl := gT1 (i := 71) (by decide +kernel) (by decide +kernel)
theorem gly8_4 : u_lay RX8 TX8 4 ∈ gTbl := gT1 (i := 73) (by decide +kernel) (by decide +kernel)
theorem gcl8 : gClOk 8 RX8 TX8 5 := by
  refine ⟨fun w hw => ?_, tyX8_ok, nmX8, rfl, by decide +kernel⟩
  obtain ⟨k, hk, rfl⟩ := List.mem_map.mp hw
  have hk2 : k < 5 := List.mem_range.mp hk
  match k, hk2 with
  | 0, _ => exact gly8_0
  | 1, _ => exact gly8_1
  | 2, _ => exact gly8_2
  | 3, _ => exact gly8_3
  | 4, _ => exact gly8_4
  | k + 5, h => exact absurd h (by omega)
theorem gly9_0 : u_lay RX9 TX9 0 ∈ gTbl := gT2 (i := 54) (by decide +kernel) (by decide +kernel)
theorem gly9_1 : u_lay RX9 TX9 1 ∈ gTbl := gT2 (i := 56) (by decide +kernel) (by decide +kernel)
theorem gly9_2 : u_lay RX9 TX9 2 ∈ gTbl := gT2 (i := 58) (by decide +kernel) (by decide +kernel)
theorem gly9_3 : u_lay RX9 TX9 3 ∈ gTbl := gT2 (i := 60) (by decide +kernel) (by decide +kernel)
theorem gly9_4 : u_lay RX9 TX9 4 ∈ gTbl := gT2 (i := 62) (by decide +kernel) (by decide +kernel)
theorem gly9_5 : u_lay RX9 TX9 5 ∈ gTbl := gT2 (i := 64) (by decide +kernel) (by decide +kernel)
theorem gly9_6 : u_lay RX9 TX9 6 ∈ gTbl := gT2 (i := 66) (by decide +kernel) (by decide +kernel)
theorem gly9_7 : u_lay RX9 TX9 7 ∈ gTbl := gT2 (i := 68) (by decide +kernel) (by decide +kernel)
theorem gly9_8 : u_lay RX9 TX9 8 ∈ gTbl := gT2 (i := 70) (by decide +kernel) (by decide +kernel)
theorem gly9_9 : u_lay RX9 TX9 9 ∈ gTbl := gT2 (i := 72) (by decide +kernel) (by decide +kernel)
theorem gly9_10 : u_lay RX9 TX9 10 ∈ gTbl := gT2 (i := 74) (by decide +kernel) (by decide +kernel)
theorem gly9_11 : u_lay RX9 TX9 11 ∈ gTbl := gT2 (i := 76) (by decide +kernel) (by decide +kernel)
theorem gly9_12 : u_lay RX9 TX9 12 ∈ gTbl := gT2 (i := 78) (by decide +kernel) (by decide +kernel)
theorem gly9_13 : u_lay RX9 TX9 13 ∈ gTbl := gT2 (i := 80) (by decide +kernel) (by decide +kernel)
theorem gcl9 : gClOk 9 RX9 TX9 14 := by
  refine ⟨fun w hw => ?_, tyX9_ok, nmX9, rfl, by decide +kernel⟩
  obtain ⟨k, hk, rfl⟩ := List.mem_map.mp hw
  have hk2 : k < 14 := List.mem_range.mp hk
  match k, hk2 with
  | 0, _ => exact gly9_0
  | 1, _ => exact gly9_1
  | 2, _ => exact gly9_2
  | 3, _ => exact gly9_3
  | 4, _ => exact gly9_4
  | 5, _ => exact gly9_5
  | 6, _ => exact gly9_6
  | 7, _ => exact gly9_7
  | 8, _ => exact gly9_8
  | 9, _ => exact gly9_9
  | 10, _ => exact gly9_10
  | 11, _ => exact gly9_11
  | 12, _ => exact gly9_12
  | 13, _ => exact gly9_13
  | k + 14, h => exact absurd h (by omega)
theorem gly10_0 : u_lay RX10 TX10 0 ∈ gTbl := gT5 (i := 15) (by decide +kernel) (by decide +kernel)
theorem gly10_1 : u_lay RX10 TX10 1 ∈ gTbl := gT5 (i := 17) (by decide +kernel) (by decide +kernel)
theorem gly10_2 : u_lay RX10 TX10 2 ∈ gTbl := gT5 (i := 19) (by decide +kernel) (by decide +kernel)
theorem gly10_3 : u_lay RX10 TX10 3 ∈ gTbl := gT5 (i := 21) (by decide +kernel) (by decide +kernel)
theorem gly10_4 : u_lay RX10 TX10 4 ∈ gTbl := gT5 (i := 23) (by decide +kernel) (by decide +kernel)
theorem gly10_5 : u_lay RX10 TX10 5 ∈ gTbl := gT5 (i := 25) (by decide +kernel) (by decide +kernel)
theorem gly10_6 : u_lay RX10 TX10 6 ∈ gTbl := gT5 (i := 27) (by decide +kernel) (by decide +kernel)
theorem gly10_7 : u_lay RX10 TX10 7 ∈ gTbl := gT5 (i := 29) (by decide +kernel) (by decide +kernel)
theorem gly10_8 : u_lay RX10 TX10 8 ∈ gTbl := gT5 (i := 31) (by decide +kernel) (by decide +kernel)
theorem gly10_9 : u_lay RX10 TX10 9 ∈ gTbl := gT5 (i := 33) (by decide +kernel) (by decide +kernel)
theorem gly10_10 : u_lay RX10 TX10 10 ∈ gTbl := gT5 (i := 35) (by decide +kernel) (by decide +kernel)
theorem gly10_11 : u_lay RX10 TX10 11 ∈ gTbl := gT5 (i := 37) (by decide +kernel) (by decide +kernel)
theorem gly10_12 : u_lay RX10 TX10 12 ∈ gTbl := gT5 (i := 39) (by decide +kernel) (by decide +kernel)
theorem gly10_13 : u_lay RX10 TX10 13 ∈ gTbl := gT5 (i := 41) (by decide +kernel) (by decide +kernel)
theorem gly10_14 : u_lay RX10 TX10 14 ∈ gTbl := gT5 (i := 43) (by decide +kernel) (by decide +kernel)
theorem gly10_15 : u_lay RX10 TX10 15 ∈ gTbl := gT5 (i := 45) (by decide +kernel) (by decide +kernel)
theorem gly10_16 : u_lay RX10 TX10 16 ∈ gTbl := gT5 (i := 47) (by decide +kernel) (by decide +kernel)
theorem gly10_17 : u_lay RX10 TX10 17 ∈ gTbl := gT5 (i := 49) (by decide +kernel) (by decide +kernel)
theorem gly10_18 : u_lay RX10 TX10 18 ∈ gTbl := gT5 (i := 51) (by decide +kernel) (by decide +kernel)
theorem gly10_19 : u_lay RX10 TX10 19 ∈ gTbl := gT5 (i := 53) (by decide +kernel) (by decide +kernel)
theorem gly10_20 : u_lay RX10 TX10 20 ∈ gTbl := gT5 (i := 55) (by decide +kernel) (by decide +kernel)
theorem gly10_21 : u_lay RX10 TX10 21 ∈ gTbl := gT5 (i := 57) (by decide +kernel) (by decide +kernel)
theorem gly10_22 : u_lay RX10 TX10 22 ∈ gTbl := gT5 (i := 59) (by decide +kernel) (by decide +kernel)
theorem gly10_23 : u_lay RX10 TX10 23 ∈ gTbl := gT5 (i := 61) (by decide +kernel) (by decide +kernel)
theorem gly10_24 : u_lay RX10 TX10 24 ∈ gTbl := gT5 (i := 63) (by decide +kernel) (by decide +kernel)
theorem gly10_25 : u_lay RX10 TX10 25 ∈ gTbl := gT5 (i := 65) (by decide +kernel) (by decide +kernel)
theorem gly10_26 : u_lay RX10 TX10 26 ∈ gTbl := gT5 (i := 67) (by decide +kernel) (by decide +kernel)
theorem gly10_27 : u_lay RX10 TX10 27 ∈ gTbl := gT5 (i := 69) (by decide +kernel) (by decide +kernel)
theorem gly10_28 : u_lay RX10 TX10 28 ∈ gTbl := gT5 (i := 71) (by decide +kernel) (by decide +kernel)
theorem gly10_29 : u_lay RX10 TX10 29 ∈ gTbl := gT5 (i := 73) (by decide +kernel) (by decide +kernel)
theorem gly10_30 : u_lay RX10 TX10 30 ∈ gTbl := gT5 (i := 75) (by decide +kernel) (by decide +kernel)
theorem gly10_31 : u_lay RX10 TX10 31 ∈ gTbl := gT5 (i := 77) (by decide +kernel) (by decide +kernel)
theorem gly10_32 : u_lay RX10 TX10 32 ∈ gTbl := gT5 (i := 79) (by decide +kernel) (by decide +kernel)
theorem gly10_33 : u_lay RX10 TX10 33 ∈ gTbl := gT5 (i := 81) (by decide +kernel) (by decide +kernel)
theorem gly10_34 : u_lay RX10 TX10 34 ∈ gTbl := gT5 (i := 83) (by decide +kernel) (by decide +kernel)
theorem gly10_35 : u_lay RX10 TX10 35 ∈ gTbl := gT5 (i := 85) (by decide +kernel) (by decide +kernel)
theorem gly10_36 : u_lay RX10 TX10 36 ∈ gTbl := gT5 (i := 87) (by decide +kernel) (by decide +kernel)
theorem gly10_37 : u_lay RX10 TX10 37 ∈ gTbl := gT5 (i := 89) (by decide +kernel) (by decide +kernel)
theorem gly10_38 : u_lay RX10 TX10 38 ∈ gTbl := gT5 (i := 91) (by decide +kernel) (by decide +kernel)
theorem gly10_39 : u_lay RX10 TX10 39 ∈ gTbl := gT5 (i := 93) (by decide +kernel) (by decide +kernel)
theorem gly10_40 : u_lay RX10 TX10 40 ∈ gTbl := gT5 (i := 95) (by decide +kernel) (by decide +kernel)
theorem gly10_41 : u_lay RX10 TX10 41 ∈ gTbl := gT5 (i := 97) (by decide +kernel) (by decide +kernel)
theorem gly10_42 : u_lay RX10 TX10 42 ∈ gTbl := gT5 (i := 99) (by decide +kernel) (by decide +kernel)
theorem gly10_43 : u_lay RX10 TX10 43 ∈ gTbl := gT5 (i := 101) (by decide +kernel) (by decide +kernel)
theorem gly10_44 : u_lay RX10 TX10 44 ∈ gTbl := gT5 (i := 103) (by decide +kernel) (by decide +kernel)
theorem gly10_45 : u_lay RX10 TX10 45 ∈ gTbl := gT5 (i := 105) (by decide +kernel) (by decide +kernel)
theorem gcl10 : gClOk 10 RX10 TX10 46 := by
  refine ⟨fun w hw => ?_, tyX10_ok, nmX10, rfl, by decide +kernel⟩
  obtain ⟨k, hk, rfl⟩ := List.mem_map.mp hw
  have hk2 : k < 46 := List.mem_range.mp hk
  match k, hk2 with
  | 0, _ => exact gly10_0
  | 1, _ => exact gly10_1
  | 2, _ => exact gly10_2
  | 3, _ => exact gly10_3
  | 4, _ => exact gly10_4
  | 5, _ => exact gly10_5
  | 6, _ => exact gly10_6
  | 7, _ => exact gly10_7
  | 8, _ => exact gly10_8
  | 9, _ => exact gly10_9
  | 10, _ => exact gly10_10
  | 11, _ => exact gly10_11
  | 12, _ => exact gly10_12
  | 13, _ => exact gly10_13
  | 14, _ => exact gly10_14
  | 15, _ => exact gly10_15
  | 16, _ => exact gly10_16
  | 17, _ => exact gly10_17
  | 18, _ => exact gly10_18
  | 19, _ => exact gly10_19
  | 20, _ => exact gly10_20
  | 21, _ => exact gly10_21
  | 22, _ => exact gly10_22
  | 23, _ => exact gly10_23
  | 24, _ => exact gly10_24
  | 25, _ => exact gly10_25
  | 26, _ => exact gly10_26
  | 27, _ => exact gly10_27
  | 28, _ => exact gly10_28
  | 29, _ => exact gly10_29
  | 30, _ => exact gly10_30
  | 31, _ => exact gly10_31
  | 32, _ => exact gly10_32
  | 33, _ => exact gly10_33
  | 34, _ => exact gly10_34
  | 35, _ => exact gly10_35
  | 36, _ => exact gly10_36
  | 37, _ => exact gly10_37
  | 38, _ => exact gly10_38
  | 39, _ => exact gly10_39
  | 40, _ => exact gly10_40
  | 41, _ => exact gly10_41
  | 42, _ => exact gly10_42
  | 43, _ => exact gly10_43
  | 44, _ => exact gly10_44
  | 45, _ => exact gly10_45
  | k + 46, h => exact absurd h (by omega)
theorem gCl_ok {ci : Nat} {C : String} {T : u_T} {n : Nat} (h : gCl[ci]? = some (C, T, n)) : gClOk ci C T n := by
  match ci, h with
  | 0, h => cases h; exact gcl0
  | 1, h => cases h; exact gcl1
  | 2, h => cases h; exact gcl2
  | 3, h => cases h; exact gcl3
  | 4, h => cases h; exact gcl4
  | 5, h => cases h; exact gcl5
  | 6, h => cases h; exact gcl6
  | 7, h => cases h; exact gcl7
  | 8, h => cases h; exact gcl8
  | 9, h => cases h; exact gcl9
  | 10, h => cases h; exact gcl10
  | k + 11, h => simp [gCl] at h
theorem gFld.kd {own : String} {idx ci k kd : Nat} {fin : Bool} (fl : gFld own idx ci k kd fin) : (fk ci)[k]? = some kd := by
  obtain ⟨C, T, n, h1, h2, h3, h4⟩ := fl
  exact h3
theorem gFld.tk {own : String} {idx ci k kd : Nat} {fin : Bool} (fl : gFld own idx ci k kd fin) : gTk (gTy ci k) kd = true := by
  obtain ⟨C, T, n, h1, h2, h3, h4⟩ := fl
  have h5 := (gCl_ok h1).2.2.2.2 k h2
  rw [List.getD_eq_getElem?_getD, h3] at h5
  exact h5
theorem gFld.ty0 {own : String} {idx ci k : Nat} {fin : Bool} (fl : gFld own idx ci k 0 fin) : gTy ci k = .int := by
  have h := fl.tk
  cases hty : gTy ci k <;> simp [gTk, hty] at h ⊢
theorem gFld.ty1 {own : String} {idx ci k : Nat} {fin : Bool} (fl : gFld own idx ci k 1 fin) : gTy ci k = .long := by
  have h := fl.tk
  cases hty : gTy ci k <;> simp [gTk, hty] at h ⊢
theorem gFld.ty3 {own : String} {idx ci k : Nat} {fin : Bool} (fl : gFld own idx ci k 3 fin) : gTy ci k = .boolean := by
  have h := fl.tk
  cases hty : gTy ci k <;> simp [gTk, hty] at h ⊢
theorem gFld.ty2 {own : String} {idx ci k : Nat} {fin : Bool} (fl : gFld own idx ci k 2 fin) : (∃ n, gTy ci k = .object n) ∨ ∃ t, gTy ci k = .array t := by
  have h := fl.tk
  cases hty : gTy ci k <;> simp [gTk, hty] at h ⊢
theorem gSI_put {Γ : gM} {h : gH} {N t ci k : Nat} {v : Int32} (hl : lay t = some (.inr ci)) (hk : ∀ kd, (fk ci)[k]? = some kd → kd ≠ 1 ∧ kd ≠ 2) : (gWd Γ N h).set t (gB Γ + t, .inr (ci, (gFs Γ h t ci).set k (.int v))) = gWd Γ N (sI h t k v) := by
  refine gWd_set ?_ (fun a ha => gEnt_sIa a ha)
  rw [gEnt_o hl]
  refine congrArg (fun z => Sum.inr (ci, z)) (gFs_set (fun kd hkd => ?_) (fun j kd hj => ?_))
  · obtain ⟨n1, n2⟩ := hk kd hkd
    unfold gFv
    rw [if_neg n1, if_neg n2, gI_sI, if_pos ⟨rfl, rfl⟩]
  · have e1 : gI (sI h t k v) t j = gI h t j := by rw [gI_sI, if_neg (fun q => hj q.2)]
    unfold gFv
    rw [e1, gL_sI, gR_sI]
theorem gSL_put {Γ : gM} {h : gH} {N t ci k : Nat} {v : Int64} (hl : lay t = some (.inr ci)) (hk : ∀ kd, (fk ci)[k]? = some kd → kd = 1) : (gWd Γ N h).set t (gB Γ + t, .inr (ci, (gFs Γ h t ci).set k (.long v))) = gWd Γ N (sL h t k v) := by
  refine gWd_set ?_ (fun a ha => gEnt_sLa a ha)
  rw [gEnt_o hl]
  refine congrArg (fun z => Sum.inr (ci, z)) (gFs_set (fun kd hkd => ?_) (fun j kd hj => ?_))
  · rw [hk kd hkd]
    unfold gFv
    rw [if_pos rfl, gL_sL, if_pos ⟨rfl, rfl⟩]
  · have e1 : gL (sL h t k v) t j = gL h t j := by rw [gL_sL, if_neg (fun q => hj q.2)]
    unfold gFv
    rw [e1, gI_sL, gR_sL]
theorem gSR_put {Γ : gM} {h : gH} {N t ci k : Nat} {r : Option Nat} {v : Value} (hv : v = va_rf (r.map (gAl Γ))) (hl : lay t = some (.inr ci)) (hk : ∀ kd, (fk ci)[k]? = some kd → kd = 2) : (gWd Γ N h).set t (gB Γ + t, .inr (ci, (gFs Γ h t ci).set k v)) = gWd Γ N (sR h t k r) := by
  refine gWd_set ?_ (fun a ha => gEnt_sRa a ha)
  rw [gEnt_o hl]
  refine congrArg (fun z => Sum.inr (ci, z)) (gFs_set (fun kd hkd => ?_) (fun j kd hj => ?_))
  · rw [hk kd hkd]
    unfold gFv
    rw [if_neg (by decide), if_pos rfl, gR_sR, if_pos ⟨rfl, rfl⟩, hv]
  · have e1 : gR (sR h t k r) t j = gR h t j := by rw [gR_sR, if_neg (fun q => hj q.2)]
    unfold gFv
    rw [e1, gI_sR, gL_sR]
/-! what the tables and the cells outside say -/
def gNestL : List (String × Nat × MethodName) := [("RaisedTableaux$State", 28, yX8_init), ("RaisedTableaux", 21, yX7_init), ("RaisedTableaux", 34, yX3_init), ("RaisedTableaux$Moves", 11, yX8_init), ("RaisedTableaux$Moves", 20, yX2_init), ("RaisedTableaux", 41, yX2_init), ("RaisedTableaux", 48, yX0_init), ("RaisedTableaux$Family", 25, yX8_init), ("RaisedTableaux", 55, yX1_init), ("RaisedTableaux$Fillings", 23, yX8_init), ("RaisedTableaux", 62, yX4_init), ("RaisedTableaux", 75, yX8_init), ("RaisedTableaux", 83, yX5_init), ("RaisedTableaux$Thing", 28, yX9_howManyDigits), ("RaisedTableaux$Shape", 15, yX9_howManyDigits), ("RaisedTableaux$Fillings", 34, yX9_howManyDigits)]
def gStrs : List (Nat × String × List Int32) := [(81, "raise", [114, 97, 105, 115, 101]), (83, "lower", [108, 111, 119, 101, 114]), (85, "reflect", [114, 101, 102, 108, 101, 99, 116]), (87, "top", [116, 111, 112]), (89, "foot", [102, 111, 111, 116]), (91, "turn", [116, 117, 114, 110])]
def gSlen : List Nat := [5, 5, 7, 3, 4, 4]
def gSbyt : List (List Int32) := [[114, 97, 105, 115, 101], [108, 111, 119, 101, 114], [114, 101, 102, 108, 101, 99, 116], [116, 111, 112], [102, 111, 111, 116], [116, 117, 114, 110]]
def gKn (Γ : gM) (s : State) : Prop :=
  va_K (gD Γ) gCl (gTys Γ) s ∧ (∀ q ∈ gNestL, va_Nw (.methodLinkNest q.1 q.2.1 q.2.2 "RaisedTableaux") s) ∧ va_AO "RaisedTableaux$Thing" s ∧ va_AO "RaisedTableaux$Sheet" s ∧
  (∀ (i : Nat) (q : Nat × String × List Int32), gStrs[i]? = some q → vk_R "RaisedTableaux$Tape" q.1 q.2.1 (Γ.2.2.2.2.1 i) s) ∧ vk_S 6 gSlen gSbyt Γ.2.2.2.2.1 Γ.2.2.2.2.2 (gA Γ) s s.heap ∧
  (va_X Γ.2.2.2.1.1 Γ.2.2.2.1.2.1 Γ.2.2.2.1.2.2 s s.heap ∧ Γ.2.2.2.1.1 < gB Γ ∧ Γ.2.2.2.1.2.1 < 100000) ∧ va_Z "java/lang/String" "COMPACT_STRINGS" "Z" (.int 1) (gA Γ) s s.heap ∧
  va_Zq "jdk/internal/util/Preconditions" "SIOOBE_FORMATTER" "Ljava/util/function/BiFunction;" (gA Γ) s s.heap ∧ gB Γ ≤ s.heap.size
theorem gKn_moved {Γ : gM} {s U : State} {H : Heap} {locs : List Loc} (h : gKn Γ s) (hS : va_S (gA Γ) s.heap H locs) (hU : U.heap = H) (hW : s.WarmedH U.vm) : gKn Γ U := by
  obtain ⟨h1, h2, h3, h4, h5, h6, ⟨h7, h8, h8'⟩, h9, h10, h11⟩ := h
  have hk : ∀ a : Nat, a < s.heap.size → ¬ gA Γ a → U.heap[a]? = s.heap[a]? := fun a ha hn => by rw [hU]; exact hS.2.1 a ha hn
  refine ⟨va_K.moved hW.alike h1, fun q hq => (h2 q hq).warmM hW, h3.moved hW.alike, h4.moved hW.alike, fun i q hq => (h5 i q hq).warm hW, (h6.kept hk).moved hW.alike, ⟨(h7.kept (hk _ ?_ ?_)).moved hW.alike, h8, h8'⟩, (h9.kept hk).moved hW.alike, (h10.kept hk).moved hW.alike, ?_⟩
  · exact Nat.lt_of_lt_of_le h8 h11
  · show ¬ gB Γ ≤ _
    omega
  · rw [hU]
    exact Nat.le_trans h11 hS.1
/-- a method: its name, code, locals, what it returns -/
abbrev gMD : Type := MethodName × ByteArray × Nat × Option FieldType
def gSz (x : (Nat × Nat) ⊕ Nat) : Nat := match x with
  | .inl q => q.2
  | .inr c => (fk c).length
def gSum (n : Nat) : Nat := ((gLay.take n).map gSz).sum
theorem gSum_succ {n : Nat} {x : (Nat × Nat) ⊕ Nat} (h : lay n = some x) : gSum (n + 1) = gSum n + gSz x := by
  unfold gSum
  unfold lay at h
  rw [List.take_succ, h]
  simp
theorem gSum_mono {a b : Nat} (h : a ≤ b) : gSum a ≤ gSum b := by
  unfold gSum
  obtain ⟨k, rfl⟩ := Nat.exists_eq_add_of_le h
  rw [List.take_add, List.map_append, List.sum_append]
  omega
/-- where a method stands: the machine, its code, the tables' words, its room -/
def gCx (Γ : gM) (μ : gMD) (d : Nat) (p : Program) (Rm : Room) (s : State) (m : MethodId) (args : Array Value) (meth : Method) (c : Code) : Prop :=
  p.tables.exec = Jvm.exec ∧ c.code = μ.2.1 ∧ c.maxLocals = μ.2.2.1 ∧ s.vm.findClass μ.1.cls = some m.cls ∧ (∀ w ∈ gTbl, w.before args s = true) ∧ meth.sig.returnType = μ.2.2.2 ∧ meth.name = μ.1.name ∧ meth.locks = false ∧ d ≤ Rm.frames ∧ 64 * d ≤ Rm.locals ∧ gKn Γ s
def gSt (Γ : gM) (μ : gMD) (N Nf : Nat) (h : gH) (Rm : Room) (s : State) (H : Heap) (locs : List Loc) (cells slots cf sf : Nat) (ls : Array Slot) (lv : List (Option Value)) : Prop :=
  va_P (gD Γ) gCl (gWd Γ N h) H ∧ va_S (gA Γ) s.heap H locs ∧ lv_has ls μ.2.2.1 (gLv Γ 0 lv) ∧ s.heap.size + cells = gB Γ + N ∧ N ≤ Nf ∧ Nf ≤ 124 ∧ cells + (Nf - N) = cf ∧ slots + (gSum Nf - gSum N) = sf ∧ cf ≤ Rm.cells ∧ sf ≤ Rm.slots
def gRok (μ : gMD) (r : Option Value) (pc : Nat) : Prop := match r with
  | none => decode μ.2.1 pc = .ok (.return_, 1) ∧ μ.2.2.2 = none
  | some (.int v) => decode μ.2.1 pc = .ok (.ireturn, 1) ∧ ∃ ty, μ.2.2.2 = some ty ∧ narrow ty (.int v) = .int v
  | some (.long _) => decode μ.2.1 pc = .ok (.lreturn, 1) ∧ μ.2.2.2 = some .long
  | some (.ref _) => decode μ.2.1 pc = .ok (.areturn, 1) ∧ ∃ n, μ.2.2.2 = some (.object n)
  | _ => False
def gRt (Γ : gM) (μ : gMD) (Nf : Nat) (p : Program) (l : Launch) (e : Env) (Rm : Room) (s : State) (m : MethodId) (args : Array Value) (below : List Frame) (meth : Method) (c : Code) (cf sf : Nat) (Q : Option Value → gH → Prop) (Z : State → Prop) : Prop :=
  ∀ (r : Option Value) (h' : gH) (H' : Heap) (locs' : List Loc) (pc' : Nat) (ls' : Array Slot), Q r h' → va_P (gD Γ) gCl (gWd Γ Nf h') H' → va_S (gA Γ) s.heap H' locs' → gRok μ r pc' →
    W p l e Rm s m args below meth c H' locs' cf sf Z (F0 m pc' ls' (r.toList.map (gV Γ)))
/-- from here the method comes to a return with Q -/
def V (Γ : gM) (μ : gMD) (d N Nf : Nat) (h : gH) (pc : Nat) (lv : List (Option Value)) (st : List Value) (Q : Option Value → gH → Prop) : Prop :=
  ∀ (p : Program) (l : Launch) (e : Env) (Rm : Room) (s : State) (m : MethodId) (args : Array Value) (below : List Frame) (meth : Method) (c : Code) (H : Heap) (locs : List Loc) (cells slots cf sf : Nat) (Z : State → Prop) (ls : Array Slot),
    gCx Γ μ d p Rm s m args meth c → gSt Γ μ N Nf h Rm s H locs cells slots cf sf ls lv → gRt Γ μ Nf p l e Rm s m args below meth c cf sf Q Z →
    W p l e Rm s m args below meth c H locs cells slots Z (F0 m pc ls (st.map (gV Γ)))
section GM
variable {p : Program} {l : Launch} {e : Env} {R : Room} {s : State} {m : MethodId} {args : Array Value} {below : List Frame} {meth : Method} {c : Code} {H : Heap} {locs : List Loc} {cells slots : Nat} {Q : State → Prop}
variable {cc : ByteArray} {pc : Nat} {ls : Array Slot} {rest : List Value}
theorem gm_iinc (hexec : p.tables.exec = Jvm.exec) (hb : c.code = cc) {Γ : gM} {i nL : Nat} {n : Int} {x v : Int32} {lv : List (Option Value)} (hdg : decode cc pc = .ok (.iinc i n, 3)) (hl : lv_has ls nL (gLv Γ 0 lv)) (hk : lv[i]? = some (some (.int x))) (hv : x + Int32.ofInt n = v) (hn : i < nL) (hnl : gNl lv i = true)
    (kk : ∀ ls' : Array Slot, lv_has ls' nL (gLv Γ 0 (lv.set i (some (.int v)))) → W p l e R s m args below meth c H locs cells slots Q (F0 m (pc + 3) ls' rest)) : W p l e R s m args below meth c H locs cells slots Q (F0 m pc ls rest) := by
  have hl2 : lv_has ls nL ((i, .int x) :: gLv Γ 0 lv) := ⟨hl.1, hl.2.1, fun q hq => by
    rcases List.mem_cons.mp hq with rfl | hq
    · exact gLv_at hl hk
    · exact hl.2.2 q hq⟩
  refine lv_iinc (k := 0) hexec hb hdg hl2 rfl hv hn rfl (fun ls' hl' => kk ls' (gLv_st1 (v := .int v) hnl ⟨hl'.1, hl'.2.1, fun q hq => hl'.2.2 q ?_⟩))
  rcases List.mem_cons.mp hq with rfl | hq
  · exact List.mem_cons_self
  · obtain ⟨h1, h2⟩ := List.mem_filter.mp hq
    exact List.mem_cons_of_mem _ (List.mem_filter.mpr ⟨List.mem_cons_of_mem _ h1, h2⟩)
theorem gm_lcmp (hexec : p.tables.exec = Jvm.exec) (hb : c.code = cc) {x y : Int64} (hdg : decode cc pc = .ok (.lcmp, 1))
    (k : W p l e R s m args below meth c H locs cells slots Q (F0 m (pc + 1) ls (.int (lg_cmp x y) :: rest))) : W p l e R s m args below meth c H locs cells slots Q (F0 m pc ls (.long y :: .long x :: rest)) := W.lcmp hexec hb hdg k
theorem gm_get {Γ : gM} {μ : gMD} {d N t k ci kd idx : Nat} {fin : Bool} {h : gH} (fl : gFld μ.1.cls idx ci k kd fin) (hl : lay t = some (.inr ci)) (ht : t < N) (cx : gCx Γ μ d p R s m args meth c) (hP : va_P (gD Γ) gCl (gWd Γ N h) H) {v : Value} (hg : gFv Γ h t k kd = v) (hd : decode μ.2.1 pc = .ok (.getfield idx, 3))
    (kk : W p l e R s m args below meth c H locs cells slots Q (F0 m (pc + 3) ls (v :: rest))) : W p l e R s m args below meth c H locs cells slots Q (F0 m pc ls (gV Γ (.ref t) :: rest)) := by
  show W p l e R s m args below meth c H locs cells slots Q (F0 m pc ls (.ref (gAl Γ t) :: rest))
  rw [gAl_lay hl]
  obtain ⟨C, T, n, h1, h2, h3, -, h5, h6⟩ := fl
  exact va_get (Ts := gTbl) cx.1 cx.2.1 cx.2.2.2.2.1 (gCl_ok h1).1 cx.2.2.2.1 cx.2.2.2.2.2.2.2.2.2.2.1 hP t ((gWd_get ht).trans (by rw [gEnt_o hl])) h1 k h2 (cx.2.2.2.2.1 _ h5) (fun x hx => hx) (by rw [gFs_get h3, hg]) hd kk
theorem gm_put {Γ : gM} {μ : gMD} {d N t k ci kd idx : Nat} {h h2 : gH} (fl : gFld μ.1.cls idx ci k kd false) (hl : lay t = some (.inr ci)) (ht : t < N) (cx : gCx Γ μ d p R s m args meth c) (hP : va_P (gD Γ) gCl (gWd Γ N h) H) (hS : va_S (gA Γ) s.heap H locs) {v : Value} (hset : (gWd Γ N h).set t (gB Γ + t, .inr (ci, (gFs Γ h t ci).set k v)) = gWd Γ N h2) (hn : narrow (gTy ci k) v = v) (hf : fits (gTy ci k) v = true) (hd : decode μ.2.1 pc = .ok (.putfield idx, 3))
    (kk : ∀ (H1 : Heap) (locs1 : List Loc), va_P (gD Γ) gCl (gWd Γ N h2) H1 → va_S (gA Γ) s.heap H1 locs1 → W p l e R s m args below meth c H1 locs1 cells slots Q (F0 m (pc + 3) ls rest)) : W p l e R s m args below meth c H locs cells slots Q (F0 m pc ls (v :: gV Γ (.ref t) :: rest)) := by
  show W p l e R s m args below meth c H locs cells slots Q (F0 m pc ls (v :: .ref (gAl Γ t) :: rest))
  rw [gAl_lay hl]
  obtain ⟨C, T, n, h1, h2', h3, h4, h5, h6⟩ := fl
  obtain ⟨k1, k2, k3, k4, k5⟩ := gCl_ok h1
  refine va_put (Ts := gTbl) cx.1 cx.2.1 cx.2.2.2.2.1 k1 (gTy ci) k2 k3 cx.2.2.2.1 cx.2.2.2.2.2.2.2.2.2.2.1 hP gWd_D hS t ((gWd_get ht).trans (by rw [gEnt_o hl])) h1 k h2' (cx.2.2.2.2.1 _ h5) (fun x hx => hx) h4 (k2 k h2') hn hf (by rw [gFs_len, k4]; exact h2') hd (fun H1 locs1 a1 a2 a3 => kk H1 locs1 ?_ a3)
  rw [← hset]
  exact a1
theorem gm_putF {Γ : gM} {μ : gMD} {d N t k ci kd idx : Nat} {h h2 : gH} (fl : gFld μ.1.cls idx ci k kd true) (hi : μ.1.name = "<init>") (ho : gOwn ci = μ.1.cls) (hl : lay t = some (.inr ci)) (ht : t < N) (cx : gCx Γ μ d p R s m args meth c) (hP : va_P (gD Γ) gCl (gWd Γ N h) H) (hS : va_S (gA Γ) s.heap H locs) {v : Value} (hset : (gWd Γ N h).set t (gB Γ + t, .inr (ci, (gFs Γ h t ci).set k v)) = gWd Γ N h2) (hn : narrow (gTy ci k) v = v) (hf : fits (gTy ci k) v = true) (hd : decode μ.2.1 pc = .ok (.putfield idx, 3))
    (kk : ∀ (H1 : Heap) (locs1 : List Loc), va_P (gD Γ) gCl (gWd Γ N h2) H1 → va_S (gA Γ) s.heap H1 locs1 → W p l e R s m args below meth c H1 locs1 cells slots Q (F0 m (pc + 3) ls rest)) : W p l e R s m args below meth c H locs cells slots Q (F0 m pc ls (v :: gV Γ (.ref t) :: rest)) := by
  show W p l e R s m args below meth c H locs cells slots Q (F0 m pc ls (v :: .ref (gAl Γ t) :: rest))
  rw [gAl_lay hl]
  obtain ⟨C, T, n, h1, h2', h3, h4, h5, h6⟩ := fl
  obtain ⟨k1, k2, k3, k4, k5⟩ := gCl_ok h1
  have hC : (T k).1 = μ.1.cls := by rw [h6, ← ho]; unfold gOwn; rw [h1]; rfl
  refine va_putF (Ts := gTbl) cx.1 cx.2.1 cx.2.2.2.2.1 k1 (gTy ci) k2 k3 cx.2.2.2.1 cx.2.2.2.2.2.2.2.2.2.2.1 hP gWd_D hS t ((gWd_get ht).trans (by rw [gEnt_o hl])) h1 k h2' (cx.2.2.2.2.1 _ h5) (fun x hx => hx) h4 (cx.2.2.2.2.2.2.1.trans hi) hC (k2 k h2') hn hf (by rw [gFs_len, k4]; exact h2') hd (fun H1 locs1 a1 a2 a3 => kk H1 locs1 ?_ a3)
  rw [← hset]
  exact a1
end GM
section VL
variable {Γ : gM} {μ : gMD} {d N Nf pc : Nat} {h : gH} {lv : List (Option Value)} {st : List Value} {Q : Option Value → gH → Prop}
/-- an instruction that leaves heap and locals -/
theorem V.pure {pc2 : Nat} {st2 : List Value}
    (hs : ∀ (p : Program) (l : Launch) (e : Env) (Rm : Room) (s : State) (m : MethodId) (args : Array Value) (below : List Frame) (meth : Method) (c : Code) (H : Heap) (locs : List Loc) (cells slots : Nat) (Z : State → Prop) (ls : Array Slot), p.tables.exec = Jvm.exec → c.code = μ.2.1 → lv_has ls μ.2.2.1 (gLv Γ 0 lv) → W p l e Rm s m args below meth c H locs cells slots Z (F0 m pc2 ls (st2.map (gV Γ))) → W p l e Rm s m args below meth c H locs cells slots Z (F0 m pc ls (st.map (gV Γ))))
    (k : V Γ μ d N Nf h pc2 lv st2 Q) : V Γ μ d N Nf h pc lv st Q := by
  intro p l e Rm s m args below meth c H locs cells slots cf sf Z ls cx gs rt
  exact hs p l e Rm s m args below meth c H locs cells slots Z ls cx.1 cx.2.1 gs.2.2.1 (k p l e Rm s m args below meth c H locs cells slots cf sf Z ls cx gs rt)
/-- an instruction that stores a local -/
theorem V.loc {pc2 : Nat} {st2 : List Value} {lv2 : List (Option Value)}
    (hs : ∀ (p : Program) (l : Launch) (e : Env) (Rm : Room) (s : State) (m : MethodId) (args : Array Value) (below : List Frame) (meth : Method) (c : Code) (H : Heap) (locs : List Loc) (cells slots : Nat) (Z : State → Prop) (ls : Array Slot), p.tables.exec = Jvm.exec → c.code = μ.2.1 → lv_has ls μ.2.2.1 (gLv Γ 0 lv) → (∀ ls' : Array Slot, lv_has ls' μ.2.2.1 (gLv Γ 0 lv2) → W p l e Rm s m args below meth c H locs cells slots Z (F0 m pc2 ls' (st2.map (gV Γ)))) → W p l e Rm s m args below meth c H locs cells slots Z (F0 m pc ls (st.map (gV Γ))))
    (k : V Γ μ d N Nf h pc2 lv2 st2 Q) : V Γ μ d N Nf h pc lv st Q := by
  intro p l e Rm s m args below meth c H locs cells slots cf sf Z ls cx gs rt
  obtain ⟨g1, g2, g3, g4⟩ := gs
  exact hs p l e Rm s m args below meth c H locs cells slots Z ls cx.1 cx.2.1 g3 (fun ls' hl' => k p l e Rm s m args below meth c H locs cells slots cf sf Z ls' cx ⟨g1, g2, hl', g4⟩ rt)
/-- an instruction that needs the words, the cells outside or the world, and leaves the heap -/
theorem V.look {pc2 : Nat} {st2 : List Value}
    (hs : ∀ (p : Program) (l : Launch) (e : Env) (Rm : Room) (s : State) (m : MethodId) (args : Array Value) (below : List Frame) (meth : Method) (c : Code) (H : Heap) (locs : List Loc) (cells slots : Nat) (Z : State → Prop) (ls : Array Slot), gCx Γ μ d p Rm s m args meth c → va_P (gD Γ) gCl (gWd Γ N h) H → va_S (gA Γ) s.heap H locs → ls.size = μ.2.2.1 → W p l e Rm s m args below meth c H locs cells slots Z (F0 m pc2 ls (st2.map (gV Γ))) → W p l e Rm s m args below meth c H locs cells slots Z (F0 m pc ls (st.map (gV Γ))))
    (k : V Γ μ d N Nf h pc2 lv st2 Q) : V Γ μ d N Nf h pc lv st Q := by
  intro p l e Rm s m args below meth c H locs cells slots cf sf Z ls cx gs rt
  exact hs p l e Rm s m args below meth c H locs cells slots Z ls cx gs.1 gs.2.1 gs.2.2.1.1 (k p l e Rm s m args below meth c H locs cells slots cf sf Z ls cx gs rt)
/-- an instruction that writes the heap -/
theorem V.heap {pc2 : Nat} {st2 : List Value} {h2 : gH}
    (hs : ∀ (p : Program) (l : Launch) (e : Env) (Rm : Room) (s : State) (m : MethodId) (args : Array Value) (below : List Frame) (meth : Method) (c : Code) (H : Heap) (locs : List Loc) (cells slots : Nat) (Z : State → Prop) (ls : Array Slot), gCx Γ μ d p Rm s m args meth c → va_P (gD Γ) gCl (gWd Γ N h) H → va_S (gA Γ) s.heap H locs → ls.size = μ.2.2.1 → (∀ (H1 : Heap) (locs1 : List Loc), va_P (gD Γ) gCl (gWd Γ N h2) H1 → va_S (gA Γ) s.heap H1 locs1 → W p l e Rm s m args below meth c H1 locs1 cells slots Z (F0 m pc2 ls (st2.map (gV Γ)))) → W p l e Rm s m args below meth c H locs cells slots Z (F0 m pc ls (st.map (gV Γ))))
    (k : V Γ μ d N Nf h2 pc2 lv st2 Q) : V Γ μ d N Nf h pc lv st Q := by
  intro p l e Rm s m args below meth c H locs cells slots cf sf Z ls cx gs rt
  obtain ⟨g1, g2, g4⟩ := gs
  exact hs p l e Rm s m args below meth c H locs cells slots Z ls cx g1 g2 g4.1.1 (fun H1 locs1 hP1 hS1 => k p l e Rm s m args below meth c H1 locs1 cells slots cf sf Z ls cx ⟨hP1, hS1, g4⟩ rt)
theorem V.weaken {Q' : Option Value → gH → Prop} (hq : ∀ r h', Q' r h' → Q r h') (k : V Γ μ d N Nf h pc lv st Q') : V Γ μ d N Nf h pc lv st Q := by
  intro p l e Rm s m args below meth c H locs cells slots cf sf Z ls cx gs rt
  exact k p l e Rm s m args below meth c H locs cells slots cf sf Z ls cx gs (fun r h' H' locs' pc' ls' q => rt r h' H' locs' pc' ls' (hq r h' q))
theorem V_iconst {n : Int} {v : Int32} (hd : decode μ.2.1 pc = .ok (.iconst n, 1)) (hv : Int32.ofInt n = v) (k : V Γ μ d N Nf h (pc + 1) lv (.int v :: st) Q) : V Γ μ d N Nf h pc lv (st) Q :=
  V.pure (fun p l e Rm s m args below meth c H locs cells slots Z ls hx hb hl kk => lv_iconst hx hb hd hv kk) k
theorem V_bipush {n : Int} {v : Int32} (hd : decode μ.2.1 pc = .ok (.bipush n, 2)) (hv : (Int8.ofInt n).toInt32 = v) (k : V Γ μ d N Nf h (pc + 2) lv (.int v :: st) Q) : V Γ μ d N Nf h pc lv (st) Q :=
  V.pure (fun p l e Rm s m args below meth c H locs cells slots Z ls hx hb hl kk => lv_bipush hx hb hd hv kk) k
theorem V_sipush {n : Int} {v : Int32} (hd : decode μ.2.1 pc = .ok (.sipush n, 3)) (hv : (Int16.ofInt n).toInt32 = v) (k : V Γ μ d N Nf h (pc + 3) lv (.int v :: st) Q) : V Γ μ d N Nf h pc lv (st) Q :=
  V.pure (fun p l e Rm s m args below meth c H locs cells slots Z ls hx hb hl kk => lv_sipush hx hb hd hv kk) k
theorem V_lconst {n : Fin 2} {v : Int64} (hd : decode μ.2.1 pc = .ok (.lconst n, 1)) (hv : Int64.ofNat (n : Nat) = v) (k : V Γ μ d N Nf h (pc + 1) lv (.long v :: st) Q) : V Γ μ d N Nf h pc lv (st) Q :=
  V.pure (fun p l e Rm s m args below meth c H locs cells slots Z ls hx hb hl kk => lv_lconst hx hb hd hv kk) k
theorem V_null  (hd : decode μ.2.1 pc = .ok (.aconst_null, 1)) (k : V Γ μ d N Nf h (pc + 1) lv (.null :: st) Q) : V Γ μ d N Nf h pc lv (st) Q :=
  V.pure (fun p l e Rm s m args below meth c H locs cells slots Z ls hx hb hl kk => lv_null hx hb hd kk) k
theorem V_iloadn0 {x : Int32} {tl : List (Option Value)} (hd : decode μ.2.1 pc = .ok (.iload_n 0, 1)) (k : V Γ μ d N Nf h (pc + 1) (some (.int x) :: tl) (.int x :: st) Q) : V Γ μ d N Nf h pc (some (.int x) :: tl) st Q :=
  V.pure (fun p l e Rm s m args below meth c H locs cells slots Z ls hx hb hl kk => lv_iload_n hx hb hd rfl (gLv_at (j := 0) (v := .int x) hl rfl) kk) k
theorem V_iloadw0 {x : Int32} {tl : List (Option Value)} (hd : decode μ.2.1 pc = .ok (.iload 0, 2)) (k : V Γ μ d N Nf h (pc + 2) (some (.int x) :: tl) (.int x :: st) Q) : V Γ μ d N Nf h pc (some (.int x) :: tl) st Q :=
  V.pure (fun p l e Rm s m args below meth c H locs cells slots Z ls hx hb hl kk => lv_iload hx hb hd (gLv_at (j := 0) (v := .int x) hl rfl) kk) k
theorem V_lloadn0 {x : Int64} {tl : List (Option Value)} (hd : decode μ.2.1 pc = .ok (.lload_n 0, 1)) (k : V Γ μ d N Nf h (pc + 1) (some (.long x) :: tl) (.long x :: st) Q) : V Γ μ d N Nf h pc (some (.long x) :: tl) st Q :=
  V.pure (fun p l e Rm s m args below meth c H locs cells slots Z ls hx hb hl kk => lv_lload_n hx hb hd rfl (gLv_at (j := 0) (v := .long x) hl rfl) kk) k
theorem V_lloadw0 {x : Int64} {tl : List (Option Value)} (hd : decode μ.2.1 pc = .ok (.lload 0, 2)) (k : V Γ μ d N Nf h (pc + 2) (some (.long x) :: tl) (.long x :: st) Q) : V Γ μ d N Nf h pc (some (.long x) :: tl) st Q :=
  V.pure (fun p l e Rm s m args below meth c H locs cells slots Z ls hx hb hl kk => lv_lload hx hb hd (gLv_at (j := 0) (v := .long x) hl rfl) kk) k
theorem V_aloadn0 {x : Nat} {tl : List (Option Value)} (hd : decode μ.2.1 pc = .ok (.aload_n 0, 1)) (k : V Γ μ d N Nf h (pc + 1) (some (.ref x) :: tl) (.ref x :: st) Q) : V Γ μ d N Nf h pc (some (.ref x) :: tl) st Q :=
  V.pure (fun p l e Rm s m args below meth c H locs cells slots Z ls hx hb hl kk => lv_aload_n hx hb hd rfl (gLv_at (j := 0) (v := .ref x) hl rfl) kk) k
theorem V_aloadw0 {x : Nat} {tl : List (Option Value)} (hd : decode μ.2.1 pc = .ok (.aload 0, 2)) (k : V Γ μ d N Nf h (pc + 2) (some (.ref x) :: tl) (.ref x :: st) Q) : V Γ μ d N Nf h pc (some (.ref x) :: tl) st Q :=
  V.pure (fun p l e Rm s m args below meth c H locs cells slots Z ls hx hb hl kk => lv_aload hx hb hd (gLv_at (j := 0) (v := .ref x) hl rfl) kk) k
theorem V_iloadn1 {a0 : Option Value} {x : Int32} {tl : List (Option Value)} (hd : decode μ.2.1 pc = .ok (.iload_n 1, 1)) (k : V Γ μ d N Nf h (pc + 1) (a0 :: some (.int x) :: tl) (.int x :: st) Q) : V Γ μ d N Nf h pc (a0 :: some (.int x) :: tl) st Q :=
  V.pure (fun p l e Rm s m args below meth c H locs cells slots Z ls hx hb hl kk => lv_iload_n hx hb hd rfl (gLv_at (j := 1) (v := .int x) hl rfl) kk) k
theorem V_iloadw1 {a0 : Option Value} {x : Int32} {tl : List (Option Value)} (hd : decode μ.2.1 pc = .ok (.iload 1, 2)) (k : V Γ μ d N Nf h (pc + 2) (a0 :: some (.int x) :: tl) (.int x :: st) Q) : V Γ μ d N Nf h pc (a0 :: some (.int x) :: tl) st Q :=
  V.pure (fun p l e Rm s m args below meth c H locs cells slots Z ls hx hb hl kk => lv_iload hx hb hd (gLv_at (j := 1) (v := .int x) hl rfl) kk) k
theorem V_lloadn1 {a0 : Option Value} {x : Int64} {tl : List (Option Value)} (hd : decode μ.2.1 pc = .ok (.lload_n 1, 1)) (k : V Γ μ d N Nf h (pc + 1) (a0 :: some (.long x) :: tl) (.long x :: st) Q) : V Γ μ d N Nf h pc (a0 :: some (.long x) :: tl) st Q :=
  V.pure (fun p l e Rm s m args below meth c H locs cells slots Z ls hx hb hl kk => lv_lload_n hx hb hd rfl (gLv_at (j := 1) (v := .long x) hl rfl) kk) k
theorem V_lloadw1 {a0 : Option Value} {x : Int64} {tl : List (Option Value)} (hd : decode μ.2.1 pc = .ok (.lload 1, 2)) (k : V Γ μ d N Nf h (pc + 2) (a0 :: some (.long x) :: tl) (.long x :: st) Q) : V Γ μ d N Nf h pc (a0 :: some (.long x) :: tl) st Q :=
  V.pure (fun p l e Rm s m args below meth c H locs cells slots Z ls hx hb hl kk => lv_lload hx hb hd (gLv_at (j := 1) (v := .long x) hl rfl) kk) k
theorem V_aloadn1 {a0 : Option Value} {x : Nat} {tl : List (Option Value)} (hd : decode μ.2.1 pc = .ok (.aload_n 1, 1)) (k : V Γ μ d N Nf h (pc + 1) (a0 :: some (.ref x) :: tl) (.ref x :: st) Q) : V Γ μ d N Nf h pc (a0 :: some (.ref x) :: tl) st Q :=
  V.pure (fun p l e Rm s m args below meth c H locs cells slots Z ls hx hb hl kk => lv_aload_n hx hb hd rfl (gLv_at (j := 1) (v := .ref x) hl rfl) kk) k
theorem V_aloadw1 {a0 : Option Value} {x : Nat} {tl : List (Option Value)} (hd : decode μ.2.1 pc = .ok (.aload 1, 2)) (k : V Γ μ d N Nf h (pc + 2) (a0 :: some (.ref x) :: tl) (.ref x :: st) Q) : V Γ μ d N Nf h pc (a0 :: some (.ref x) :: tl) st Q :=
  V.pure (fun p l e Rm s m args below meth c H locs cells slots Z ls hx hb hl kk => lv_aload hx hb hd (gLv_at (j := 1) (v := .ref x) hl rfl) kk) k
theorem V_iloadn2 {a0 a1 : Option Value} {x : Int32} {tl : List (Option Value)} (hd : decode μ.2.1 pc = .ok (.iload_n 2, 1)) (k : V Γ μ d N Nf h (pc + 1) (a0 :: a1 :: some (.int x) :: tl) (.int x :: st) Q) : V Γ μ d N Nf h pc (a0 :: a1 :: some (.int x) :: tl) st Q :=
  V.pure (fun p l e Rm s m args below meth c H locs cells slots Z ls hx hb hl kk => lv_iload_n hx hb hd rfl (gLv_at (j := 2) (v := .int x) hl rfl) kk) k
theorem V_iloadw2 {a0 a1 : Option Value} {x : Int32} {tl : List (Option Value)} (hd : decode μ.2.1 pc = .ok (.iload 2, 2)) (k : V Γ μ d N Nf h (pc + 2) (a0 :: a1 :: some (.int x) :: tl) (.int x :: st) Q) : V Γ μ d N Nf h pc (a0 :: a1 :: some (.int x) :: tl) st Q :=
  V.pure (fun p l e Rm s m args below meth c H locs cells slots Z ls hx hb hl kk => lv_iload hx hb hd (gLv_at (j := 2) (v := .int x) hl rfl) kk) k
theorem V_lloadn2 {a0 a1 : Option Value} {x : Int64} {tl : List (Option Value)} (hd : decode μ.2.1 pc = .ok (.lload_n 2, 1)) (k : V Γ μ d N Nf h (pc + 1) (a0 :: a1 :: some (.long x) :: tl) (.long x :: st) Q) : V Γ μ d N Nf h pc (a0 :: a1 :: some (.long x) :: tl) st Q :=
  V.pure (fun p l e Rm s m args below meth c H locs cells slots Z ls hx hb hl kk => lv_lload_n hx hb hd rfl (gLv_at (j := 2) (v := .long x) hl rfl) kk) k
theorem V_lloadw2 {a0 a1 : Option Value} {x : Int64} {tl : List (Option Value)} (hd : decode μ.2.1 pc = .ok (.lload 2, 2)) (k : V Γ μ d N Nf h (pc + 2) (a0 :: a1 :: some (.long x) :: tl) (.long x :: st) Q) : V Γ μ d N Nf h pc (a0 :: a1 :: some (.long x) :: tl) st Q :=
  V.pure (fun p l e Rm s m args below meth c H locs cells slots Z ls hx hb hl kk => lv_lload hx hb hd (gLv_at (j := 2) (v := .long x) hl rfl) kk) k
theorem V_aloadn2 {a0 a1 : Option Value} {x : Nat} {tl : List (Option Value)} (hd : decode μ.2.1 pc = .ok (.aload_n 2, 1)) (k : V Γ μ d N Nf h (pc + 1) (a0 :: a1 :: some (.ref x) :: tl) (.ref x :: st) Q) : V Γ μ d N Nf h pc (a0 :: a1 :: some (.ref x) :: tl) st Q :=
  V.pure (fun p l e Rm s m args below meth c H locs cells slots Z ls hx hb hl kk => lv_aload_n hx hb hd rfl (gLv_at (j := 2) (v := .ref x) hl rfl) kk) k
theorem V_aloadw2 {a0 a1 : Option Value} {x : Nat} {tl : List (Option Value)} (hd : decode μ.2.1 pc = .ok (.aload 2, 2)) (k : V Γ μ d N Nf h (pc + 2) (a0 :: a1 :: some (.ref x) :: tl) (.ref x :: st) Q) : V Γ μ d N Nf h pc (a0 :: a1 :: some (.ref x) :: tl) st Q :=
  V.pure (fun p l e Rm s m args below meth c H locs cells slots Z ls hx hb hl kk => lv_aload hx hb hd (gLv_at (j := 2) (v := .ref x) hl rfl) kk) k
theorem V_iloadn3 {a0 a1 a2 : Option Value} {x : Int32} {tl : List (Option Value)} (hd : decode μ.2.1 pc = .ok (.iload_n 3, 1)) (k : V Γ μ d N Nf h (pc + 1) (a0 :: a1 :: a2 :: some (.int x) :: tl) (.int x :: st) Q) : V Γ μ d N Nf h pc (a0 :: a1 :: a2 :: some (.int x) :: tl) st Q :=
  V.pure (fun p l e Rm s m args below meth c H locs cells slots Z ls hx hb hl kk => lv_iload_n hx hb hd rfl (gLv_at (j := 3) (v := .int x) hl rfl) kk) k
theorem V_iloadw3 {a0 a1 a2 : Option Value} {x : Int32} {tl : List (Option Value)} (hd : decode μ.2.1 pc = .ok (.iload 3, 2)) (k : V Γ μ d N Nf h (pc + 2) (a0 :: a1 :: a2 :: some (.int x) :: tl) (.int x :: st) Q) : V Γ μ d N Nf h pc (a0 :: a1 :: a2 :: some (.int x) :: tl) st Q :=
  V.pure (fun p l e Rm s m args below meth c H locs cells slots Z ls hx hb hl kk => lv_iload hx hb hd (gLv_at (j := 3) (v := .int x) hl rfl) kk) k
theorem V_lloadn3 {a0 a1 a2 : Option Value} {x : Int64} {tl : List (Option Value)} (hd : decode μ.2.1 pc = .ok (.lload_n 3, 1)) (k : V Γ μ d N Nf h (pc + 1) (a0 :: a1 :: a2 :: some (.long x) :: tl) (.long x :: st) Q) : V Γ μ d N Nf h pc (a0 :: a1 :: a2 :: some (.long x) :: tl) st Q :=
  V.pure (fun p l e Rm s m args below meth c H locs cells slots Z ls hx hb hl kk => lv_lload_n hx hb hd rfl (gLv_at (j := 3) (v := .long x) hl rfl) kk) k
theorem V_lloadw3 {a0 a1 a2 : Option Value} {x : Int64} {tl : List (Option Value)} (hd : decode μ.2.1 pc = .ok (.lload 3, 2)) (k : V Γ μ d N Nf h (pc + 2) (a0 :: a1 :: a2 :: some (.long x) :: tl) (.long x :: st) Q) : V Γ μ d N Nf h pc (a0 :: a1 :: a2 :: some (.long x) :: tl) st Q :=
  V.pure (fun p l e Rm s m args below meth c H locs cells slots Z ls hx hb hl kk => lv_lload hx hb hd (gLv_at (j := 3) (v := .long x) hl rfl) kk) k
theorem V_aloadn3 {a0 a1 a2 : Option Value} {x : Nat} {tl : List (Option Value)} (hd : decode μ.2.1 pc = .ok (.aload_n 3, 1)) (k : V Γ μ d N Nf h (pc + 1) (a0 :: a1 :: a2 :: some (.ref x) :: tl) (.ref x :: st) Q) : V Γ μ d N Nf h pc (a0 :: a1 :: a2 :: some (.ref x) :: tl) st Q :=
  V.pure (fun p l e Rm s m args below meth c H locs cells slots Z ls hx hb hl kk => lv_aload_n hx hb hd rfl (gLv_at (j := 3) (v := .ref x) hl rfl) kk) k
theorem V_aloadw3 {a0 a1 a2 : Option Value} {x : Nat} {tl : List (Option Value)} (hd : decode μ.2.1 pc = .ok (.aload 3, 2)) (k : V Γ μ d N Nf h (pc + 2) (a0 :: a1 :: a2 :: some (.ref x) :: tl) (.ref x :: st) Q) : V Γ μ d N Nf h pc (a0 :: a1 :: a2 :: some (.ref x) :: tl) st Q :=
  V.pure (fun p l e Rm s m args below meth c H locs cells slots Z ls hx hb hl kk => lv_aload hx hb hd (gLv_at (j := 3) (v := .ref x) hl rfl) kk) k
theorem V_iloadw4 {a0 a1 a2 a3 : Option Value} {x : Int32} {tl : List (Option Value)} (hd : decode μ.2.1 pc = .ok (.iload 4, 2)) (k : V Γ μ d N Nf h (pc + 2) (a0 :: a1 :: a2 :: a3 :: some (.int x) :: tl) (.int x :: st) Q) : V Γ μ d N Nf h pc (a0 :: a1 :: a2 :: a3 :: some (.int x) :: tl) st Q :=
  V.pure (fun p l e Rm s m args below meth c H locs cells slots Z ls hx hb hl kk => lv_iload hx hb hd (gLv_at (j := 4) (v := .int x) hl rfl) kk) k
theorem V_lloadw4 {a0 a1 a2 a3 : Option Value} {x : Int64} {tl : List (Option Value)} (hd : decode μ.2.1 pc = .ok (.lload 4, 2)) (k : V Γ μ d N Nf h (pc + 2) (a0 :: a1 :: a2 :: a3 :: some (.long x) :: tl) (.long x :: st) Q) : V Γ μ d N Nf h pc (a0 :: a1 :: a2 :: a3 :: some (.long x) :: tl) st Q :=
  V.pure (fun p l e Rm s m args below meth c H locs cells slots Z ls hx hb hl kk => lv_lload hx hb hd (gLv_at (j := 4) (v := .long x) hl rfl) kk) k
theorem V_aloadw4 {a0 a1 a2 a3 : Option Value} {x : Nat} {tl : List (Option Value)} (hd : decode μ.2.1 pc = .ok (.aload 4, 2)) (k : V Γ μ d N Nf h (pc + 2) (a0 :: a1 :: a2 :: a3 :: some (.ref x) :: tl) (.ref x :: st) Q) : V Γ μ d N Nf h pc (a0 :: a1 :: a2 :: a3 :: some (.ref x) :: tl) st Q :=
  V.pure (fun p l e Rm s m args below meth c H locs cells slots Z ls hx hb hl kk => lv_aload hx hb hd (gLv_at (j := 4) (v := .ref x) hl rfl) kk) k
theorem V_iloadw5 {a0 a1 a2 a3 a4 : Option Value} {x : Int32} {tl : List (Option Value)} (hd : decode μ.2.1 pc = .ok (.iload 5, 2)) (k : V Γ μ d N Nf h (pc + 2) (a0 :: a1 :: a2 :: a3 :: a4 :: some (.int x) :: tl) (.int x :: st) Q) : V Γ μ d N Nf h pc (a0 :: a1 :: a2 :: a3 :: a4 :: some (.int x) :: tl) st Q :=
  V.pure (fun p l e Rm s m args below meth c H locs cells slots Z ls hx hb hl kk => lv_iload hx hb hd (gLv_at (j := 5) (v := .int x) hl rfl) kk) k
theorem V_lloadw5 {a0 a1 a2 a3 a4 : Option Value} {x : Int64} {tl : List (Option Value)} (hd : decode μ.2.1 pc = .ok (.lload 5, 2)) (k : V Γ μ d N Nf h (pc + 2) (a0 :: a1 :: a2 :: a3 :: a4 :: some (.long x) :: tl) (.long x :: st) Q) : V Γ μ d N Nf h pc (a0 :: a1 :: a2 :: a3 :: a4 :: some (.long x) :: tl) st Q :=
  V.pure (fun p l e Rm s m args below meth c H locs cells slots Z ls hx hb hl kk => lv_lload hx hb hd (gLv_at (j := 5) (v := .long x) hl rfl) kk) k
theorem V_aloadw5 {a0 a1 a2 a3 a4 : Option Value} {x : Nat} {tl : List (Option Value)} (hd : decode μ.2.1 pc = .ok (.aload 5, 2)) (k : V Γ μ d N Nf h (pc + 2) (a0 :: a1 :: a2 :: a3 :: a4 :: some (.ref x) :: tl) (.ref x :: st) Q) : V Γ μ d N Nf h pc (a0 :: a1 :: a2 :: a3 :: a4 :: some (.ref x) :: tl) st Q :=
  V.pure (fun p l e Rm s m args below meth c H locs cells slots Z ls hx hb hl kk => lv_aload hx hb hd (gLv_at (j := 5) (v := .ref x) hl rfl) kk) k
theorem V_iloadw6 {a0 a1 a2 a3 a4 a5 : Option Value} {x : Int32} {tl : List (Option Value)} (hd : decode μ.2.1 pc = .ok (.iload 6, 2)) (k : V Γ μ d N Nf h (pc + 2) (a0 :: a1 :: a2 :: a3 :: a4 :: a5 :: some (.int x) :: tl) (.int x :: st) Q) : V Γ μ d N Nf h pc (a0 :: a1 :: a2 :: a3 :: a4 :: a5 :: some (.int x) :: tl) st Q :=
  V.pure (fun p l e Rm s m args below meth c H locs cells slots Z ls hx hb hl kk => lv_iload hx hb hd (gLv_at (j := 6) (v := .int x) hl rfl) kk) k
theorem V_lloadw6 {a0 a1 a2 a3 a4 a5 : Option Value} {x : Int64} {tl : List (Option Value)} (hd : decode μ.2.1 pc = .ok (.lload 6, 2)) (k : V Γ μ d N Nf h (pc + 2) (a0 :: a1 :: a2 :: a3 :: a4 :: a5 :: some (.long x) :: tl) (.long x :: st) Q) : V Γ μ d N Nf h pc (a0 :: a1 :: a2 :: a3 :: a4 :: a5 :: some (.long x) :: tl) st Q :=
  V.pure (fun p l e Rm s m args below meth c H locs cells slots Z ls hx hb hl kk => lv_lload hx hb hd (gLv_at (j := 6) (v := .long x) hl rfl) kk) k
theorem V_aloadw6 {a0 a1 a2 a3 a4 a5 : Option Value} {x : Nat} {tl : List (Option Value)} (hd : decode μ.2.1 pc = .ok (.aload 6, 2)) (k : V Γ μ d N Nf h (pc + 2) (a0 :: a1 :: a2 :: a3 :: a4 :: a5 :: some (.ref x) :: tl) (.ref x :: st) Q) : V Γ μ d N Nf h pc (a0 :: a1 :: a2 :: a3 :: a4 :: a5 :: some (.ref x) :: tl) st Q :=
  V.pure (fun p l e Rm s m args below meth c H locs cells slots Z ls hx hb hl kk => lv_aload hx hb hd (gLv_at (j := 6) (v := .ref x) hl rfl) kk) k
theorem V_iloadw7 {a0 a1 a2 a3 a4 a5 a6 : Option Value} {x : Int32} {tl : List (Option Value)} (hd : decode μ.2.1 pc = .ok (.iload 7, 2)) (k : V Γ μ d N Nf h (pc + 2) (a0 :: a1 :: a2 :: a3 :: a4 :: a5 :: a6 :: some (.int x) :: tl) (.int x :: st) Q) : V Γ μ d N Nf h pc (a0 :: a1 :: a2 :: a3 :: a4 :: a5 :: a6 :: some (.int x) :: tl) st Q :=
  V.pure (fun p l e Rm s m args below meth c H locs cells slots Z ls hx hb hl kk => lv_iload hx hb hd (gLv_at (j := 7) (v := .int x) hl rfl) kk) k
theorem V_lloadw7 {a0 a1 a2 a3 a4 a5 a6 : Option Value} {x : Int64} {tl : List (Option Value)} (hd : decode μ.2.1 pc = .ok (.lload 7, 2)) (k : V Γ μ d N Nf h (pc + 2) (a0 :: a1 :: a2 :: a3 :: a4 :: a5 :: a6 :: some (.long x) :: tl) (.long x :: st) Q) : V Γ μ d N Nf h pc (a0 :: a1 :: a2 :: a3 :: a4 :: a5 :: a6 :: some (.long x) :: tl) st Q :=
  V.pure (fun p l e Rm s m args below meth c H locs cells slots Z ls hx hb hl kk => lv_lload hx hb hd (gLv_at (j := 7) (v := .long x) hl rfl) kk) k
theorem V_aloadw7 {a0 a1 a2 a3 a4 a5 a6 : Option Value} {x : Nat} {tl : List (Option Value)} (hd : decode μ.2.1 pc = .ok (.aload 7, 2)) (k : V Γ μ d N Nf h (pc + 2) (a0 :: a1 :: a2 :: a3 :: a4 :: a5 :: a6 :: some (.ref x) :: tl) (.ref x :: st) Q) : V Γ μ d N Nf h pc (a0 :: a1 :: a2 :: a3 :: a4 :: a5 :: a6 :: some (.ref x) :: tl) st Q :=
  V.pure (fun p l e Rm s m args below meth c H locs cells slots Z ls hx hb hl kk => lv_aload hx hb hd (gLv_at (j := 7) (v := .ref x) hl rfl) kk) k
theorem V_iloadw8 {a0 a1 a2 a3 a4 a5 a6 a7 : Option Value} {x : Int32} {tl : List (Option Value)} (hd : decode μ.2.1 pc = .ok (.iload 8, 2)) (k : V Γ μ d N Nf h (pc + 2) (a0 :: a1 :: a2 :: a3 :: a4 :: a5 :: a6 :: a7 :: some (.int x) :: tl) (.int x :: st) Q) : V Γ μ d N Nf h pc (a0 :: a1 :: a2 :: a3 :: a4 :: a5 :: a6 :: a7 :: some (.int x) :: tl) st Q :=
  V.pure (fun p l e Rm s m args below meth c H locs cells slots Z ls hx hb hl kk => lv_iload hx hb hd (gLv_at (j := 8) (v := .int x) hl rfl) kk) k
theorem V_lloadw8 {a0 a1 a2 a3 a4 a5 a6 a7 : Option Value} {x : Int64} {tl : List (Option Value)} (hd : decode μ.2.1 pc = .ok (.lload 8, 2)) (k : V Γ μ d N Nf h (pc + 2) (a0 :: a1 :: a2 :: a3 :: a4 :: a5 :: a6 :: a7 :: some (.long x) :: tl) (.long x :: st) Q) : V Γ μ d N Nf h pc (a0 :: a1 :: a2 :: a3 :: a4 :: a5 :: a6 :: a7 :: some (.long x) :: tl) st Q :=
  V.pure (fun p l e Rm s m args below meth c H locs cells slots Z ls hx hb hl kk => lv_lload hx hb hd (gLv_at (j := 8) (v := .long x) hl rfl) kk) k
theorem V_aloadw8 {a0 a1 a2 a3 a4 a5 a6 a7 : Option Value} {x : Nat} {tl : List (Option Value)} (hd : decode μ.2.1 pc = .ok (.aload 8, 2)) (k : V Γ μ d N Nf h (pc + 2) (a0 :: a1 :: a2 :: a3 :: a4 :: a5 :: a6 :: a7 :: some (.ref x) :: tl) (.ref x :: st) Q) : V Γ μ d N Nf h pc (a0 :: a1 :: a2 :: a3 :: a4 :: a5 :: a6 :: a7 :: some (.ref x) :: tl) st Q :=
  V.pure (fun p l e Rm s m args below meth c H locs cells slots Z ls hx hb hl kk => lv_aload hx hb hd (gLv_at (j := 8) (v := .ref x) hl rfl) kk) k
theorem V_iloadw9 {a0 a1 a2 a3 a4 a5 a6 a7 a8 : Option Value} {x : Int32} {tl : List (Option Value)} (hd : decode μ.2.1 pc = .ok (.iload 9, 2)) (k : V Γ μ d N Nf h (pc + 2) (a0 :: a1 :: a2 :: a3 :: a4 :: a5 :: a6 :: a7 :: a8 :: some (.int x) :: tl) (.int x :: st) Q) : V Γ μ d N Nf h pc (a0 :: a1 :: a2 :: a3 :: a4 :: a5 :: a6 :: a7 :: a8 :: some (.int x) :: tl) st Q :=
  V.pure (fun p l e Rm s m args below meth c H locs cells slots Z ls hx hb hl kk => lv_iload hx hb hd (gLv_at (j := 9) (v := .int x) hl rfl) kk) k
theorem V_lloadw9 {a0 a1 a2 a3 a4 a5 a6 a7 a8 : Option Value} {x : Int64} {tl : List (Option Value)} (hd : decode μ.2.1 pc = .ok (.lload 9, 2)) (k : V Γ μ d N Nf h (pc + 2) (a0 :: a1 :: a2 :: a3 :: a4 :: a5 :: a6 :: a7 :: a8 :: some (.long x) :: tl) (.long x :: st) Q) : V Γ μ d N Nf h pc (a0 :: a1 :: a2 :: a3 :: a4 :: a5 :: a6 :: a7 :: a8 :: some (.long x) :: tl) st Q :=
  V.pure (fun p l e Rm s m args below meth c H locs cells slots Z ls hx hb hl kk => lv_lload hx hb hd (gLv_at (j := 9) (v := .long x) hl rfl) kk) k
theorem V_aloadw9 {a0 a1 a2 a3 a4 a5 a6 a7 a8 : Option Value} {x : Nat} {tl : List (Option Value)} (hd : decode μ.2.1 pc = .ok (.aload 9, 2)) (k : V Γ μ d N Nf h (pc + 2) (a0 :: a1 :: a2 :: a3 :: a4 :: a5 :: a6 :: a7 :: a8 :: some (.ref x) :: tl) (.ref x :: st) Q) : V Γ μ d N Nf h pc (a0 :: a1 :: a2 :: a3 :: a4 :: a5 :: a6 :: a7 :: a8 :: some (.ref x) :: tl) st Q :=
  V.pure (fun p l e Rm s m args below meth c H locs cells slots Z ls hx hb hl kk => lv_aload hx hb hd (gLv_at (j := 9) (v := .ref x) hl rfl) kk) k
theorem V_iloadw10 {a0 a1 a2 a3 a4 a5 a6 a7 a8 a9 : Option Value} {x : Int32} {tl : List (Option Value)} (hd : decode μ.2.1 pc = .ok (.iload 10, 2)) (k : V Γ μ d N Nf h (pc + 2) (a0 :: a1 :: a2 :: a3 :: a4 :: a5 :: a6 :: a7 :: a8 :: a9 :: some (.int x) :: tl) (.int x :: st) Q) : V Γ μ d N Nf h pc (a0 :: a1 :: a2 :: a3 :: a4 :: a5 :: a6 :: a7 :: a8 :: a9 :: some (.int x) :: tl) st Q :=
  V.pure (fun p l e Rm s m args below meth c H locs cells slots Z ls hx hb hl kk => lv_iload hx hb hd (gLv_at (j := 10) (v := .int x) hl rfl) kk) k
theorem V_lloadw10 {a0 a1 a2 a3 a4 a5 a6 a7 a8 a9 : Option Value} {x : Int64} {tl : List (Option Value)} (hd : decode μ.2.1 pc = .ok (.lload 10, 2)) (k : V Γ μ d N Nf h (pc + 2) (a0 :: a1 :: a2 :: a3 :: a4 :: a5 :: a6 :: a7 :: a8 :: a9 :: some (.long x) :: tl) (.long x :: st) Q) : V Γ μ d N Nf h pc (a0 :: a1 :: a2 :: a3 :: a4 :: a5 :: a6 :: a7 :: a8 :: a9 :: some (.long x) :: tl) st Q :=
  V.pure (fun p l e Rm s m args below meth c H locs cells slots Z ls hx hb hl kk => lv_lload hx hb hd (gLv_at (j := 10) (v := .long x) hl rfl) kk) k
theorem V_aloadw10 {a0 a1 a2 a3 a4 a5 a6 a7 a8 a9 : Option Value} {x : Nat} {tl : List (Option Value)} (hd : decode μ.2.1 pc = .ok (.aload 10, 2)) (k : V Γ μ d N Nf h (pc + 2) (a0 :: a1 :: a2 :: a3 :: a4 :: a5 :: a6 :: a7 :: a8 :: a9 :: some (.ref x) :: tl) (.ref x :: st) Q) : V Γ μ d N Nf h pc (a0 :: a1 :: a2 :: a3 :: a4 :: a5 :: a6 :: a7 :: a8 :: a9 :: some (.ref x) :: tl) st Q :=
  V.pure (fun p l e Rm s m args below meth c H locs cells slots Z ls hx hb hl kk => lv_aload hx hb hd (gLv_at (j := 10) (v := .ref x) hl rfl) kk) k
theorem V_iloadw11 {a0 a1 a2 a3 a4 a5 a6 a7 a8 a9 a10 : Option Value} {x : Int32} {tl : List (Option Value)} (hd : decode μ.2.1 pc = .ok (.iload 11, 2)) (k : V Γ μ d N Nf h (pc + 2) (a0 :: a1 :: a2 :: a3 :: a4 :: a5 :: a6 :: a7 :: a8 :: a9 :: a10 :: some (.int x) :: tl) (.int x :: st) Q) : V Γ μ d N Nf h pc (a0 :: a1 :: a2 :: a3 :: a4 :: a5 :: a6 :: a7 :: a8 :: a9 :: a10 :: some (.int x) :: tl) st Q :=
  V.pure (fun p l e Rm s m args below meth c H locs cells slots Z ls hx hb hl kk => lv_iload hx hb hd (gLv_at (j := 11) (v := .int x) hl rfl) kk) k
theorem V_lloadw11 {a0 a1 a2 a3 a4 a5 a6 a7 a8 a9 a10 : Option Value} {x : Int64} {tl : List (Option Value)} (hd : decode μ.2.1 pc = .ok (.lload 11, 2)) (k : V Γ μ d N Nf h (pc + 2) (a0 :: a1 :: a2 :: a3 :: a4 :: a5 :: a6 :: a7 :: a8 :: a9 :: a10 :: some (.long x) :: tl) (.long x :: st) Q) : V Γ μ d N Nf h pc (a0 :: a1 :: a2 :: a3 :: a4 :: a5 :: a6 :: a7 :: a8 :: a9 :: a10 :: some (.long x) :: tl) st Q :=
  V.pure (fun p l e Rm s m args below meth c H locs cells slots Z ls hx hb hl kk => lv_lload hx hb hd (gLv_at (j := 11) (v := .long x) hl rfl) kk) k
theorem V_aloadw11 {a0 a1 a2 a3 a4 a5 a6 a7 a8 a9 a10 : Option Value} {x : Nat} {tl : List (Option Value)} (hd : decode μ.2.1 pc = .ok (.aload 11, 2)) (k : V Γ μ d N Nf h (pc + 2) (a0 :: a1 :: a2 :: a3 :: a4 :: a5 :: a6 :: a7 :: a8 :: a9 :: a10 :: some (.ref x) :: tl) (.ref x :: st) Q) : V Γ μ d N Nf h pc (a0 :: a1 :: a2 :: a3 :: a4 :: a5 :: a6 :: a7 :: a8 :: a9 :: a10 :: some (.ref x) :: tl) st Q :=
  V.pure (fun p l e Rm s m args below meth c H locs cells slots Z ls hx hb hl kk => lv_aload hx hb hd (gLv_at (j := 11) (v := .ref x) hl rfl) kk) k
theorem V_iloadw12 {a0 a1 a2 a3 a4 a5 a6 a7 a8 a9 a10 a11 : Option Value} {x : Int32} {tl : List (Option Value)} (hd : decode μ.2.1 pc = .ok (.iload 12, 2)) (k : V Γ μ d N Nf h (pc + 2) (a0 :: a1 :: a2 :: a3 :: a4 :: a5 :: a6 :: a7 :: a8 :: a9 :: a10 :: a11 :: some (.int x) :: tl) (.int x :: st) Q) : V Γ μ d N Nf h pc (a0 :: a1 :: a2 :: a3 :: a4 :: a5 :: a6 :: a7 :: a8 :: a9 :: a10 :: a11 :: some (.int x) :: tl) st Q :=
  V.pure (fun p l e Rm s m args below meth c H locs cells slots Z ls hx hb hl kk => lv_iload hx hb hd (gLv_at (j := 12) (v := .int x) hl rfl) kk) k
theorem V_lloadw12 {a0 a1 a2 a3 a4 a5 a6 a7 a8 a9 a10 a11 : Option Value} {x : Int64} {tl : List (Option Value)} (hd : decode μ.2.1 pc = .ok (.lload 12, 2)) (k : V Γ μ d N Nf h (pc + 2) (a0 :: a1 :: a2 :: a3 :: a4 :: a5 :: a6 :: a7 :: a8 :: a9 :: a10 :: a11 :: some (.long x) :: tl) (.long x :: st) Q) : V Γ μ d N Nf h pc (a0 :: a1 :: a2 :: a3 :: a4 :: a5 :: a6 :: a7 :: a8 :: a9 :: a10 :: a11 :: some (.long x) :: tl) st Q :=
  V.pure (fun p l e Rm s m args below meth c H locs cells slots Z ls hx hb hl kk => lv_lload hx hb hd (gLv_at (j := 12) (v := .long x) hl rfl) kk) k
theorem V_aloadw12 {a0 a1 a2 a3 a4 a5 a6 a7 a8 a9 a10 a11 : Option Value} {x : Nat} {tl : List (Option Value)} (hd : decode μ.2.1 pc = .ok (.aload 12, 2)) (k : V Γ μ d N Nf h (pc + 2) (a0 :: a1 :: a2 :: a3 :: a4 :: a5 :: a6 :: a7 :: a8 :: a9 :: a10 :: a11 :: some (.ref x) :: tl) (.ref x :: st) Q) : V Γ μ d N Nf h pc (a0 :: a1 :: a2 :: a3 :: a4 :: a5 :: a6 :: a7 :: a8 :: a9 :: a10 :: a11 :: some (.ref x) :: tl) st Q :=
  V.pure (fun p l e Rm s m args below meth c H locs cells slots Z ls hx hb hl kk => lv_aload hx hb hd (gLv_at (j := 12) (v := .ref x) hl rfl) kk) k
theorem V_iloadw13 {a0 a1 a2 a3 a4 a5 a6 a7 a8 a9 a10 a11 a12 : Option Value} {x : Int32} {tl : List (Option Value)} (hd : decode μ.2.1 pc = .ok (.iload 13, 2)) (k : V Γ μ d N Nf h (pc + 2) (a0 :: a1 :: a2 :: a3 :: a4 :: a5 :: a6 :: a7 :: a8 :: a9 :: a10 :: a11 :: a12 :: some (.int x) :: tl) (.int x :: st) Q) : V Γ μ d N Nf h pc (a0 :: a1 :: a2 :: a3 :: a4 :: a5 :: a6 :: a7 :: a8 :: a9 :: a10 :: a11 :: a12 :: some (.int x) :: tl) st Q :=
  V.pure (fun p l e Rm s m args below meth c H locs cells slots Z ls hx hb hl kk => lv_iload hx hb hd (gLv_at (j := 13) (v := .int x) hl rfl) kk) k
theorem V_lloadw13 {a0 a1 a2 a3 a4 a5 a6 a7 a8 a9 a10 a11 a12 : Option Value} {x : Int64} {tl : List (Option Value)} (hd : decode μ.2.1 pc = .ok (.lload 13, 2)) (k : V Γ μ d N Nf h (pc + 2) (a0 :: a1 :: a2 :: a3 :: a4 :: a5 :: a6 :: a7 :: a8 :: a9 :: a10 :: a11 :: a12 :: some (.long x) :: tl) (.long x :: st) Q) : V Γ μ d N Nf h pc (a0 :: a1 :: a2 :: a3 :: a4 :: a5 :: a6 :: a7 :: a8 :: a9 :: a10 :: a11 :: a12 :: some (.long x) :: tl) st Q :=
  V.pure (fun p l e Rm s m args below meth c H locs cells slots Z ls hx hb hl kk => lv_lload hx hb hd (gLv_at (j := 13) (v := .long x) hl rfl) kk) k
theorem V_aloadw13 {a0 a1 a2 a3 a4 a5 a6 a7 a8 a9 a10 a11 a12 : Option Value} {x : Nat} {tl : List (Option Value)} (hd : decode μ.2.1 pc = .ok (.aload 13, 2)) (k : V Γ μ d N Nf h (pc + 2) (a0 :: a1 :: a2 :: a3 :: a4 :: a5 :: a6 :: a7 :: a8 :: a9 :: a10 :: a11 :: a12 :: some (.ref x) :: tl) (.ref x :: st) Q) : V Γ μ d N Nf h pc (a0 :: a1 :: a2 :: a3 :: a4 :: a5 :: a6 :: a7 :: a8 :: a9 :: a10 :: a11 :: a12 :: some (.ref x) :: tl) st Q :=
  V.pure (fun p l e Rm s m args below meth c H locs cells slots Z ls hx hb hl kk => lv_aload hx hb hd (gLv_at (j := 13) (v := .ref x) hl rfl) kk) k
theorem V_iloadw14 {a0 a1 a2 a3 a4 a5 a6 a7 a8 a9 a10 a11 a12 a13 : Option Value} {x : Int32} {tl : List (Option Value)} (hd : decode μ.2.1 pc = .ok (.iload 14, 2)) (k : V Γ μ d N Nf h (pc + 2) (a0 :: a1 :: a2 :: a3 :: a4 :: a5 :: a6 :: a7 :: a8 :: a9 :: a10 :: a11 :: a12 :: a13 :: some (.int x) :: tl) (.int x :: st) Q) : V Γ μ d N Nf h pc (a0 :: a1 :: a2 :: a3 :: a4 :: a5 :: a6 :: a7 :: a8 :: a9 :: a10 :: a11 :: a12 :: a13 :: some (.int x) :: tl) st Q :=
  V.pure (fun p l e Rm s m args below meth c H locs cells slots Z ls hx hb hl kk => lv_iload hx hb hd (gLv_at (j := 14) (v := .int x) hl rfl) kk) k
theorem V_lloadw14 {a0 a1 a2 a3 a4 a5 a6 a7 a8 a9 a10 a11 a12 a13 : Option Value} {x : Int64} {tl : List (Option Value)} (hd : decode μ.2.1 pc = .ok (.lload 14, 2)) (k : V Γ μ d N Nf h (pc + 2) (a0 :: a1 :: a2 :: a3 :: a4 :: a5 :: a6 :: a7 :: a8 :: a9 :: a10 :: a11 :: a12 :: a13 :: some (.long x) :: tl) (.long x :: st) Q) : V Γ μ d N Nf h pc (a0 :: a1 :: a2 :: a3 :: a4 :: a5 :: a6 :: a7 :: a8 :: a9 :: a10 :: a11 :: a12 :: a13 :: some (.long x) :: tl) st Q :=
  V.pure (fun p l e Rm s m args below meth c H locs cells slots Z ls hx hb hl kk => lv_lload hx hb hd (gLv_at (j := 14) (v := .long x) hl rfl) kk) k
theorem V_aloadw14 {a0 a1 a2 a3 a4 a5 a6 a7 a8 a9 a10 a11 a12 a13 : Option Value} {x : Nat} {tl : List (Option Value)} (hd : decode μ.2.1 pc = .ok (.aload 14, 2)) (k : V Γ μ d N Nf h (pc + 2) (a0 :: a1 :: a2 :: a3 :: a4 :: a5 :: a6 :: a7 :: a8 :: a9 :: a10 :: a11 :: a12 :: a13 :: some (.ref x) :: tl) (.ref x :: st) Q) : V Γ μ d N Nf h pc (a0 :: a1 :: a2 :: a3 :: a4 :: a5 :: a6 :: a7 :: a8 :: a9 :: a10 :: a11 :: a12 :: a13 :: some (.ref x) :: tl) st Q :=
  V.pure (fun p l e Rm s m args below meth c H locs cells slots Z ls hx hb hl kk => lv_aload hx hb hd (gLv_at (j := 14) (v := .ref x) hl rfl) kk) k
theorem V_iloadw15 {a0 a1 a2 a3 a4 a5 a6 a7 a8 a9 a10 a11 a12 a13 a14 : Option Value} {x : Int32} {tl : List (Option Value)} (hd : decode μ.2.1 pc = .ok (.iload 15, 2)) (k : V Γ μ d N Nf h (pc + 2) (a0 :: a1 :: a2 :: a3 :: a4 :: a5 :: a6 :: a7 :: a8 :: a9 :: a10 :: a11 :: a12 :: a13 :: a14 :: some (.int x) :: tl) (.int x :: st) Q) : V Γ μ d N Nf h pc (a0 :: a1 :: a2 :: a3 :: a4 :: a5 :: a6 :: a7 :: a8 :: a9 :: a10 :: a11 :: a12 :: a13 :: a14 :: some (.int x) :: tl) st Q :=
  V.pure (fun p l e Rm s m args below meth c H locs cells slots Z ls hx hb hl kk => lv_iload hx hb hd (gLv_at (j := 15) (v := .int x) hl rfl) kk) k
theorem V_lloadw15 {a0 a1 a2 a3 a4 a5 a6 a7 a8 a9 a10 a11 a12 a13 a14 : Option Value} {x : Int64} {tl : List (Option Value)} (hd : decode μ.2.1 pc = .ok (.lload 15, 2)) (k : V Γ μ d N Nf h (pc + 2) (a0 :: a1 :: a2 :: a3 :: a4 :: a5 :: a6 :: a7 :: a8 :: a9 :: a10 :: a11 :: a12 :: a13 :: a14 :: some (.long x) :: tl) (.long x :: st) Q) : V Γ μ d N Nf h pc (a0 :: a1 :: a2 :: a3 :: a4 :: a5 :: a6 :: a7 :: a8 :: a9 :: a10 :: a11 :: a12 :: a13 :: a14 :: some (.long x) :: tl) st Q :=
  V.pure (fun p l e Rm s m args below meth c H locs cells slots Z ls hx hb hl kk => lv_lload hx hb hd (gLv_at (j := 15) (v := .long x) hl rfl) kk) k
theorem V_aloadw15 {a0 a1 a2 a3 a4 a5 a6 a7 a8 a9 a10 a11 a12 a13 a14 : Option Value} {x : Nat} {tl : List (Option Value)} (hd : decode μ.2.1 pc = .ok (.aload 15, 2)) (k : V Γ μ d N Nf h (pc + 2) (a0 :: a1 :: a2 :: a3 :: a4 :: a5 :: a6 :: a7 :: a8 :: a9 :: a10 :: a11 :: a12 :: a13 :: a14 :: some (.ref x) :: tl) (.ref x :: st) Q) : V Γ μ d N Nf h pc (a0 :: a1 :: a2 :: a3 :: a4 :: a5 :: a6 :: a7 :: a8 :: a9 :: a10 :: a11 :: a12 :: a13 :: a14 :: some (.ref x) :: tl) st Q :=
  V.pure (fun p l e Rm s m args below meth c H locs cells slots Z ls hx hb hl kk => lv_aload hx hb hd (gLv_at (j := 15) (v := .ref x) hl rfl) kk) k
theorem V_istoren0 {b : Option Value} {x : Int32} {tl : List (Option Value)} (hd : decode μ.2.1 pc = .ok (.istore_n 0, 1)) (hn : 0 < μ.2.2.1) (hnl : gNl (b :: tl) 0 = true) (k : V Γ μ d N Nf h (pc + 1) (some (.int x) :: tl) st Q) : V Γ μ d N Nf h pc (b :: tl) (.int x :: st) Q :=
  V.loc (fun p l e Rm s m args below meth c H locs cells slots Z ls hx hb hl kk => lv_istore_n hx hb hd rfl hl hn rfl (fun ls' hl' => kk ls' (gLv_st1 (v := .int x) hnl hl'))) k
theorem V_istorew0 {b : Option Value} {x : Int32} {tl : List (Option Value)} (hd : decode μ.2.1 pc = .ok (.istore 0, 2)) (hn : 0 < μ.2.2.1) (hnl : gNl (b :: tl) 0 = true) (k : V Γ μ d N Nf h (pc + 2) (some (.int x) :: tl) st Q) : V Γ μ d N Nf h pc (b :: tl) (.int x :: st) Q :=
  V.loc (fun p l e Rm s m args below meth c H locs cells slots Z ls hx hb hl kk => lv_istore hx hb hd hl hn rfl (fun ls' hl' => kk ls' (gLv_st1 (v := .int x) hnl hl'))) k
theorem V_lstoren0 {b b2 : Option Value} {x : Int64} {tl : List (Option Value)} (hd : decode μ.2.1 pc = .ok (.lstore_n 0, 1)) (hn : 1 < μ.2.2.1) (hnl : gNl (b :: b2 :: tl) 0 = true) (k : V Γ μ d N Nf h (pc + 1) (some (.long x) :: none :: tl) st Q) : V Γ μ d N Nf h pc (b :: b2 :: tl) (.long x :: st) Q :=
  V.loc (fun p l e Rm s m args below meth c H locs cells slots Z ls hx hb hl kk => lv_lstore_n hx hb hd rfl hl hn rfl (fun ls' hl' => kk ls' (gLv_st2 (v := .long x) hnl hl'))) k
theorem V_lstorew0 {b b2 : Option Value} {x : Int64} {tl : List (Option Value)} (hd : decode μ.2.1 pc = .ok (.lstore 0, 2)) (hn : 1 < μ.2.2.1) (hnl : gNl (b :: b2 :: tl) 0 = true) (k : V Γ μ d N Nf h (pc + 2) (some (.long x) :: none :: tl) st Q) : V Γ μ d N Nf h pc (b :: b2 :: tl) (.long x :: st) Q :=
  V.loc (fun p l e Rm s m args below meth c H locs cells slots Z ls hx hb hl kk => lv_lstore hx hb hd hl hn rfl (fun ls' hl' => kk ls' (gLv_st2 (v := .long x) hnl hl'))) k
theorem V_astoren0 {b : Option Value} {x : Nat} {tl : List (Option Value)} (hd : decode μ.2.1 pc = .ok (.astore_n 0, 1)) (hn : 0 < μ.2.2.1) (hnl : gNl (b :: tl) 0 = true) (k : V Γ μ d N Nf h (pc + 1) (some (.ref x) :: tl) st Q) : V Γ μ d N Nf h pc (b :: tl) (.ref x :: st) Q :=
  V.loc (fun p l e Rm s m args below meth c H locs cells slots Z ls hx hb hl kk => lv_astore_n hx hb hd rfl hl hn rfl (fun ls' hl' => kk ls' (gLv_st1 (v := .ref x) hnl hl'))) k
theorem V_astorew0 {b : Option Value} {x : Nat} {tl : List (Option Value)} (hd : decode μ.2.1 pc = .ok (.astore 0, 2)) (hn : 0 < μ.2.2.1) (hnl : gNl (b :: tl) 0 = true) (k : V Γ μ d N Nf h (pc + 2) (some (.ref x) :: tl) st Q) : V Γ μ d N Nf h pc (b :: tl) (.ref x :: st) Q :=
  V.loc (fun p l e Rm s m args below meth c H locs cells slots Z ls hx hb hl kk => lv_astore hx hb hd hl hn rfl (fun ls' hl' => kk ls' (gLv_st1 (v := .ref x) hnl hl'))) k
theorem V_iinc0 {x v : Int32} {n : Int} {tl : List (Option Value)} (hd : decode μ.2.1 pc = .ok (.iinc 0 n, 3)) (hv : x + Int32.ofInt n = v) (hn : 0 < μ.2.2.1) (hnl : gNl (some (.int x) :: tl) 0 = true) (k : V Γ μ d N Nf h (pc + 3) (some (.int v) :: tl) st Q) : V Γ μ d N Nf h pc (some (.int x) :: tl) st Q :=
  V.loc (fun p l e Rm s m args below meth c H locs cells slots Z ls hx hb hl kk => gm_iinc hx hb hd hl rfl hv hn hnl (fun ls' hl' => kk ls' hl')) k
theorem V_istoren1 {a0 : Option Value} {b : Option Value} {x : Int32} {tl : List (Option Value)} (hd : decode μ.2.1 pc = .ok (.istore_n 1, 1)) (hn : 1 < μ.2.2.1) (hnl : gNl (a0 :: b :: tl) 1 = true) (k : V Γ μ d N Nf h (pc + 1) (a0 :: some (.int x) :: tl) st Q) : V Γ μ d N Nf h pc (a0 :: b :: tl) (.int x :: st) Q :=
  V.loc (fun p l e Rm s m args below meth c H locs cells slots Z ls hx hb hl kk => lv_istore_n hx hb hd rfl hl hn rfl (fun ls' hl' => kk ls' (gLv_st1 (v := .int x) hnl hl'))) k
theorem V_istorew1 {a0 : Option Value} {b : Option Value} {x : Int32} {tl : List (Option Value)} (hd : decode μ.2.1 pc = .ok (.istore 1, 2)) (hn : 1 < μ.2.2.1) (hnl : gNl (a0 :: b :: tl) 1 = true) (k : V Γ μ d N Nf h (pc + 2) (a0 :: some (.int x) :: tl) st Q) : V Γ μ d N Nf h pc (a0 :: b :: tl) (.int x :: st) Q :=
  V.loc (fun p l e Rm s m args below meth c H locs cells slots Z ls hx hb hl kk => lv_istore hx hb hd hl hn rfl (fun ls' hl' => kk ls' (gLv_st1 (v := .int x) hnl hl'))) k
theorem V_lstoren1 {a0 : Option Value} {b b2 : Option Value} {x : Int64} {tl : List (Option Value)} (hd : decode μ.2.1 pc = .ok (.lstore_n 1, 1)) (hn : 2 < μ.2.2.1) (hnl : gNl (a0 :: b :: b2 :: tl) 1 = true) (k : V Γ μ d N Nf h (pc + 1) (a0 :: some (.long x) :: none :: tl) st Q) : V Γ μ d N Nf h pc (a0 :: b :: b2 :: tl) (.long x :: st) Q :=
  V.loc (fun p l e Rm s m args below meth c H locs cells slots Z ls hx hb hl kk => lv_lstore_n hx hb hd rfl hl hn rfl (fun ls' hl' => kk ls' (gLv_st2 (v := .long x) hnl hl'))) k
theorem V_lstorew1 {a0 : Option Value} {b b2 : Option Value} {x : Int64} {tl : List (Option Value)} (hd : decode μ.2.1 pc = .ok (.lstore 1, 2)) (hn : 2 < μ.2.2.1) (hnl : gNl (a0 :: b :: b2 :: tl) 1 = true) (k : V Γ μ d N Nf h (pc + 2) (a0 :: some (.long x) :: none :: tl) st Q) : V Γ μ d N Nf h pc (a0 :: b :: b2 :: tl) (.long x :: st) Q :=
  V.loc (fun p l e Rm s m args below meth c H locs cells slots Z ls hx hb hl kk => lv_lstore hx hb hd hl hn rfl (fun ls' hl' => kk ls' (gLv_st2 (v := .long x) hnl hl'))) k
theorem V_astoren1 {a0 : Option Value} {b : Option Value} {x : Nat} {tl : List (Option Value)} (hd : decode μ.2.1 pc = .ok (.astore_n 1, 1)) (hn : 1 < μ.2.2.1) (hnl : gNl (a0 :: b :: tl) 1 = true) (k : V Γ μ d N Nf h (pc + 1) (a0 :: some (.ref x) :: tl) st Q) : V Γ μ d N Nf h pc (a0 :: b :: tl) (.ref x :: st) Q :=
  V.loc (fun p l e Rm s m args below meth c H locs cells slots Z ls hx hb hl kk => lv_astore_n hx hb hd rfl hl hn rfl (fun ls' hl' => kk ls' (gLv_st1 (v := .ref x) hnl hl'))) k
theorem V_astorew1 {a0 : Option Value} {b : Option Value} {x : Nat} {tl : List (Option Value)} (hd : decode μ.2.1 pc = .ok (.astore 1, 2)) (hn : 1 < μ.2.2.1) (hnl : gNl (a0 :: b :: tl) 1 = true) (k : V Γ μ d N Nf h (pc + 2) (a0 :: some (.ref x) :: tl) st Q) : V Γ μ d N Nf h pc (a0 :: b :: tl) (.ref x :: st) Q :=
  V.loc (fun p l e Rm s m args below meth c H locs cells slots Z ls hx hb hl kk => lv_astore hx hb hd hl hn rfl (fun ls' hl' => kk ls' (gLv_st1 (v := .ref x) hnl hl'))) k
theorem V_iinc1 {a0 : Option Value} {x v : Int32} {n : Int} {tl : List (Option Value)} (hd : decode μ.2.1 pc = .ok (.iinc 1 n, 3)) (hv : x + Int32.ofInt n = v) (hn : 1 < μ.2.2.1) (hnl : gNl (a0 :: some (.int x) :: tl) 1 = true) (k : V Γ μ d N Nf h (pc + 3) (a0 :: some (.int v) :: tl) st Q) : V Γ μ d N Nf h pc (a0 :: some (.int x) :: tl) st Q :=
  V.loc (fun p l e Rm s m args below meth c H locs cells slots Z ls hx hb hl kk => gm_iinc hx hb hd hl rfl hv hn hnl (fun ls' hl' => kk ls' hl')) k
theorem V_istoren2 {a0 a1 : Option Value} {b : Option Value} {x : Int32} {tl : List (Option Value)} (hd : decode μ.2.1 pc = .ok (.istore_n 2, 1)) (hn : 2 < μ.2.2.1) (hnl : gNl (a0 :: a1 :: b :: tl) 2 = true) (k : V Γ μ d N Nf h (pc + 1) (a0 :: a1 :: some (.int x) :: tl) st Q) : V Γ μ d N Nf h pc (a0 :: a1 :: b :: tl) (.int x :: st) Q :=
  V.loc (fun p l e Rm s m args below meth c H locs cells slots Z ls hx hb hl kk => lv_istore_n hx hb hd rfl hl hn rfl (fun ls' hl' => kk ls' (gLv_st1 (v := .int x) hnl hl'))) k
theorem V_istorew2 {a0 a1 : Option Value} {b : Option Value} {x : Int32} {tl : List (Option Value)} (hd : decode μ.2.1 pc = .ok (.istore 2, 2)) (hn : 2 < μ.2.2.1) (hnl : gNl (a0 :: a1 :: b :: tl) 2 = true) (k : V Γ μ d N Nf h (pc + 2) (a0 :: a1 :: some (.int x) :: tl) st Q) : V Γ μ d N Nf h pc (a0 :: a1 :: b :: tl) (.int x :: st) Q :=
  V.loc (fun p l e Rm s m args below meth c H locs cells slots Z ls hx hb hl kk => lv_istore hx hb hd hl hn rfl (fun ls' hl' => kk ls' (gLv_st1 (v := .int x) hnl hl'))) k
theorem V_lstoren2 {a0 a1 : Option Value} {b b2 : Option Value} {x : Int64} {tl : List (Option Value)} (hd : decode μ.2.1 pc = .ok (.lstore_n 2, 1)) (hn : 3 < μ.2.2.1) (hnl : gNl (a0 :: a1 :: b :: b2 :: tl) 2 = true) (k : V Γ μ d N Nf h (pc + 1) (a0 :: a1 :: some (.long x) :: none :: tl) st Q) : V Γ μ d N Nf h pc (a0 :: a1 :: b :: b2 :: tl) (.long x :: st) Q :=
  V.loc (fun p l e Rm s m args below meth c H locs cells slots Z ls hx hb hl kk => lv_lstore_n hx hb hd rfl hl hn rfl (fun ls' hl' => kk ls' (gLv_st2 (v := .long x) hnl hl'))) k
theorem V_lstorew2 {a0 a1 : Option Value} {b b2 : Option Value} {x : Int64} {tl : List (Option Value)} (hd : decode μ.2.1 pc = .ok (.lstore 2, 2)) (hn : 3 < μ.2.2.1) (hnl : gNl (a0 :: a1 :: b :: b2 :: tl) 2 = true) (k : V Γ μ d N Nf h (pc + 2) (a0 :: a1 :: some (.long x) :: none :: tl) st Q) : V Γ μ d N Nf h pc (a0 :: a1 :: b :: b2 :: tl) (.long x :: st) Q :=
  V.loc (fun p l e Rm s m args below meth c H locs cells slots Z ls hx hb hl kk => lv_lstore hx hb hd hl hn rfl (fun ls' hl' => kk ls' (gLv_st2 (v := .long x) hnl hl'))) k
theorem V_astoren2 {a0 a1 : Option Value} {b : Option Value} {x : Nat} {tl : List (Option Value)} (hd : decode μ.2.1 pc = .ok (.astore_n 2, 1)) (hn : 2 < μ.2.2.1) (hnl : gNl (a0 :: a1 :: b :: tl) 2 = true) (k : V Γ μ d N Nf h (pc + 1) (a0 :: a1 :: some (.ref x) :: tl) st Q) : V Γ μ d N Nf h pc (a0 :: a1 :: b :: tl) (.ref x :: st) Q :=
  V.loc (fun p l e Rm s m args below meth c H locs cells slots Z ls hx hb hl kk => lv_astore_n hx hb hd rfl hl hn rfl (fun ls' hl' => kk ls' (gLv_st1 (v := .ref x) hnl hl'))) k
theorem V_astorew2 {a0 a1 : Option Value} {b : Option Value} {x : Nat} {tl : List (Option Value)} (hd : decode μ.2.1 pc = .ok (.astore 2, 2)) (hn : 2 < μ.2.2.1) (hnl : gNl (a0 :: a1 :: b :: tl) 2 = true) (k : V Γ μ d N Nf h (pc + 2) (a0 :: a1 :: some (.ref x) :: tl) st Q) : V Γ μ d N Nf h pc (a0 :: a1 :: b :: tl) (.ref x :: st) Q :=
  V.loc (fun p l e Rm s m args below meth c H locs cells slots Z ls hx hb hl kk => lv_astore hx hb hd hl hn rfl (fun ls' hl' => kk ls' (gLv_st1 (v := .ref x) hnl hl'))) k
theorem V_iinc2 {a0 a1 : Option Value} {x v : Int32} {n : Int} {tl : List (Option Value)} (hd : decode μ.2.1 pc = .ok (.iinc 2 n, 3)) (hv : x + Int32.ofInt n = v) (hn : 2 < μ.2.2.1) (hnl : gNl (a0 :: a1 :: some (.int x) :: tl) 2 = true) (k : V Γ μ d N Nf h (pc + 3) (a0 :: a1 :: some (.int v) :: tl) st Q) : V Γ μ d N Nf h pc (a0 :: a1 :: some (.int x) :: tl) st Q :=
  V.loc (fun p l e Rm s m args below meth c H locs cells slots Z ls hx hb hl kk => gm_iinc hx hb hd hl rfl hv hn hnl (fun ls' hl' => kk ls' hl')) k
theorem V_istoren3 {a0 a1 a2 : Option Value} {b : Option Value} {x : Int32} {tl : List (Option Value)} (hd : decode μ.2.1 pc = .ok (.istore_n 3, 1)) (hn : 3 < μ.2.2.1) (hnl : gNl (a0 :: a1 :: a2 :: b :: tl) 3 = true) (k : V Γ μ d N Nf h (pc + 1) (a0 :: a1 :: a2 :: some (.int x) :: tl) st Q) : V Γ μ d N Nf h pc (a0 :: a1 :: a2 :: b :: tl) (.int x :: st) Q :=
  V.loc (fun p l e Rm s m args below meth c H locs cells slots Z ls hx hb hl kk => lv_istore_n hx hb hd rfl hl hn rfl (fun ls' hl' => kk ls' (gLv_st1 (v := .int x) hnl hl'))) k
theorem V_istorew3 {a0 a1 a2 : Option Value} {b : Option Value} {x : Int32} {tl : List (Option Value)} (hd : decode μ.2.1 pc = .ok (.istore 3, 2)) (hn : 3 < μ.2.2.1) (hnl : gNl (a0 :: a1 :: a2 :: b :: tl) 3 = true) (k : V Γ μ d N Nf h (pc + 2) (a0 :: a1 :: a2 :: some (.int x) :: tl) st Q) : V Γ μ d N Nf h pc (a0 :: a1 :: a2 :: b :: tl) (.int x :: st) Q :=
  V.loc (fun p l e Rm s m args below meth c H locs cells slots Z ls hx hb hl kk => lv_istore hx hb hd hl hn rfl (fun ls' hl' => kk ls' (gLv_st1 (v := .int x) hnl hl'))) k
theorem V_lstoren3 {a0 a1 a2 : Option Value} {b b2 : Option Value} {x : Int64} {tl : List (Option Value)} (hd : decode μ.2.1 pc = .ok (.lstore_n 3, 1)) (hn : 4 < μ.2.2.1) (hnl : gNl (a0 :: a1 :: a2 :: b :: b2 :: tl) 3 = true) (k : V Γ μ d N Nf h (pc + 1) (a0 :: a1 :: a2 :: some (.long x) :: none :: tl) st Q) : V Γ μ d N Nf h pc (a0 :: a1 :: a2 :: b :: b2 :: tl) (.long x :: st) Q :=
  V.loc (fun p l e Rm s m args below meth c H locs cells slots Z ls hx hb hl kk => lv_lstore_n hx hb hd rfl hl hn rfl (fun ls' hl' => kk ls' (gLv_st2 (v := .long x) hnl hl'))) k
theorem V_lstorew3 {a0 a1 a2 : Option Value} {b b2 : Option Value} {x : Int64} {tl : List (Option Value)} (hd : decode μ.2.1 pc = .ok (.lstore 3, 2)) (hn : 4 < μ.2.2.1) (hnl : gNl (a0 :: a1 :: a2 :: b :: b2 :: tl) 3 = true) (k : V Γ μ d N Nf h (pc + 2) (a0 :: a1 :: a2 :: some (.long x) :: none :: tl) st Q) : V Γ μ d N Nf h pc (a0 :: a1 :: a2 :: b :: b2 :: tl) (.long x :: st) Q :=
  V.loc (fun p l e Rm s m args below meth c H locs cells slots Z ls hx hb hl kk => lv_lstore hx hb hd hl hn rfl (fun ls' hl' => kk ls' (gLv_st2 (v := .long x) hnl hl'))) k
theorem V_astoren3 {a0 a1 a2 : Option Value} {b : Option Value} {x : Nat} {tl : List (Option Value)} (hd : decode μ.2.1 pc = .ok (.astore_n 3, 1)) (hn : 3 < μ.2.2.1) (hnl : gNl (a0 :: a1 :: a2 :: b :: tl) 3 = true) (k : V Γ μ d N Nf h (pc + 1) (a0 :: a1 :: a2 :: some (.ref x) :: tl) st Q) : V Γ μ d N Nf h pc (a0 :: a1 :: a2 :: b :: tl) (.ref x :: st) Q :=
  V.loc (fun p l e Rm s m args below meth c H locs cells slots Z ls hx hb hl kk => lv_astore_n hx hb hd rfl hl hn rfl (fun ls' hl' => kk ls' (gLv_st1 (v := .ref x) hnl hl'))) k
theorem V_astorew3 {a0 a1 a2 : Option Value} {b : Option Value} {x : Nat} {tl : List (Option Value)} (hd : decode μ.2.1 pc = .ok (.astore 3, 2)) (hn : 3 < μ.2.2.1) (hnl : gNl (a0 :: a1 :: a2 :: b :: tl) 3 = true) (k : V Γ μ d N Nf h (pc + 2) (a0 :: a1 :: a2 :: some (.ref x) :: tl) st Q) : V Γ μ d N Nf h pc (a0 :: a1 :: a2 :: b :: tl) (.ref x :: st) Q :=
  V.loc (fun p l e Rm s m args below meth c H locs cells slots Z ls hx hb hl kk => lv_astore hx hb hd hl hn rfl (fun ls' hl' => kk ls' (gLv_st1 (v := .ref x) hnl hl'))) k
theorem V_iinc3 {a0 a1 a2 : Option Value} {x v : Int32} {n : Int} {tl : List (Option Value)} (hd : decode μ.2.1 pc = .ok (.iinc 3 n, 3)) (hv : x + Int32.ofInt n = v) (hn : 3 < μ.2.2.1) (hnl : gNl (a0 :: a1 :: a2 :: some (.int x) :: tl) 3 = true) (k : V Γ μ d N Nf h (pc + 3) (a0 :: a1 :: a2 :: some (.int v) :: tl) st Q) : V Γ μ d N Nf h pc (a0 :: a1 :: a2 :: some (.int x) :: tl) st Q :=
  V.loc (fun p l e Rm s m args below meth c H locs cells slots Z ls hx hb hl kk => gm_iinc hx hb hd hl rfl hv hn hnl (fun ls' hl' => kk ls' hl')) k
theorem V_istorew4 {a0 a1 a2 a3 : Option Value} {b : Option Value} {x : Int32} {tl : List (Option Value)} (hd : decode μ.2.1 pc = .ok (.istore 4, 2)) (hn : 4 < μ.2.2.1) (hnl : gNl (a0 :: a1 :: a2 :: a3 :: b :: tl) 4 = true) (k : V Γ μ d N Nf h (pc + 2) (a0 :: a1 :: a2 :: a3 :: some (.int x) :: tl) st Q) : V Γ μ d N Nf h pc (a0 :: a1 :: a2 :: a3 :: b :: tl) (.int x :: st) Q :=
  V.loc (fun p l e Rm s m args below meth c H locs cells slots Z ls hx hb hl kk => lv_istore hx hb hd hl hn rfl (fun ls' hl' => kk ls' (gLv_st1 (v := .int x) hnl hl'))) k
theorem V_lstorew4 {a0 a1 a2 a3 : Option Value} {b b2 : Option Value} {x : Int64} {tl : List (Option Value)} (hd : decode μ.2.1 pc = .ok (.lstore 4, 2)) (hn : 5 < μ.2.2.1) (hnl : gNl (a0 :: a1 :: a2 :: a3 :: b :: b2 :: tl) 4 = true) (k : V Γ μ d N Nf h (pc + 2) (a0 :: a1 :: a2 :: a3 :: some (.long x) :: none :: tl) st Q) : V Γ μ d N Nf h pc (a0 :: a1 :: a2 :: a3 :: b :: b2 :: tl) (.long x :: st) Q :=
  V.loc (fun p l e Rm s m args below meth c H locs cells slots Z ls hx hb hl kk => lv_lstore hx hb hd hl hn rfl (fun ls' hl' => kk ls' (gLv_st2 (v := .long x) hnl hl'))) k
theorem V_astorew4 {a0 a1 a2 a3 : Option Value} {b : Option Value} {x : Nat} {tl : List (Option Value)} (hd : decode μ.2.1 pc = .ok (.astore 4, 2)) (hn : 4 < μ.2.2.1) (hnl : gNl (a0 :: a1 :: a2 :: a3 :: b :: tl) 4 = true) (k : V Γ μ d N Nf h (pc + 2) (a0 :: a1 :: a2 :: a3 :: some (.ref x) :: tl) st Q) : V Γ μ d N Nf h pc (a0 :: a1 :: a2 :: a3 :: b :: tl) (.ref x :: st) Q :=
  V.loc (fun p l e Rm s m args below meth c H locs cells slots Z ls hx hb hl kk => lv_astore hx hb hd hl hn rfl (fun ls' hl' => kk ls' (gLv_st1 (v := .ref x) hnl hl'))) k
theorem V_iinc4 {a0 a1 a2 a3 : Option Value} {x v : Int32} {n : Int} {tl : List (Option Value)} (hd : decode μ.2.1 pc = .ok (.iinc 4 n, 3)) (hv : x + Int32.ofInt n = v) (hn : 4 < μ.2.2.1) (hnl : gNl (a0 :: a1 :: a2 :: a3 :: some (.int x) :: tl) 4 = true) (k : V Γ μ d N Nf h (pc + 3) (a0 :: a1 :: a2 :: a3 :: some (.int v) :: tl) st Q) : V Γ μ d N Nf h pc (a0 :: a1 :: a2 :: a3 :: some (.int x) :: tl) st Q :=
  V.loc (fun p l e Rm s m args below meth c H locs cells slots Z ls hx hb hl kk => gm_iinc hx hb hd hl rfl hv hn hnl (fun ls' hl' => kk ls' hl')) k
theorem V_istorew5 {a0 a1 a2 a3 a4 : Option Value} {b : Option Value} {x : Int32} {tl : List (Option Value)} (hd : decode μ.2.1 pc = .ok (.istore 5, 2)) (hn : 5 < μ.2.2.1) (hnl : gNl (a0 :: a1 :: a2 :: a3 :: a4 :: b :: tl) 5 = true) (k : V Γ μ d N Nf h (pc + 2) (a0 :: a1 :: a2 :: a3 :: a4 :: some (.int x) :: tl) st Q) : V Γ μ d N Nf h pc (a0 :: a1 :: a2 :: a3 :: a4 :: b :: tl) (.int x :: st) Q :=
  V.loc (fun p l e Rm s m args below meth c H locs cells slots Z ls hx hb hl kk => lv_istore hx hb hd hl hn rfl (fun ls' hl' => kk ls' (gLv_st1 (v := .int x) hnl hl'))) k
theorem V_lstorew5 {a0 a1 a2 a3 a4 : Option Value} {b b2 : Option Value} {x : Int64} {tl : List (Option Value)} (hd : decode μ.2.1 pc = .ok (.lstore 5, 2)) (hn : 6 < μ.2.2.1) (hnl : gNl (a0 :: a1 :: a2 :: a3 :: a4 :: b :: b2 :: tl) 5 = true) (k : V Γ μ d N Nf h (pc + 2) (a0 :: a1 :: a2 :: a3 :: a4 :: some (.long x) :: none :: tl) st Q) : V Γ μ d N Nf h pc (a0 :: a1 :: a2 :: a3 :: a4 :: b :: b2 :: tl) (.long x :: st) Q :=
  V.loc (fun p l e Rm s m args below meth c H locs cells slots Z ls hx hb hl kk => lv_lstore hx hb hd hl hn rfl (fun ls' hl' => kk ls' (gLv_st2 (v := .long x) hnl hl'))) k
theorem V_astorew5 {a0 a1 a2 a3 a4 : Option Value} {b : Option Value} {x : Nat} {tl : List (Option Value)} (hd : decode μ.2.1 pc = .ok (.astore 5, 2)) (hn : 5 < μ.2.2.1) (hnl : gNl (a0 :: a1 :: a2 :: a3 :: a4 :: b :: tl) 5 = true) (k : V Γ μ d N Nf h (pc + 2) (a0 :: a1 :: a2 :: a3 :: a4 :: some (.ref x) :: tl) st Q) : V Γ μ d N Nf h pc (a0 :: a1 :: a2 :: a3 :: a4 :: b :: tl) (.ref x :: st) Q :=
  V.loc (fun p l e Rm s m args below meth c H locs cells slots Z ls hx hb hl kk => lv_astore hx hb hd hl hn rfl (fun ls' hl' => kk ls' (gLv_st1 (v := .ref x) hnl hl'))) k
theorem V_iinc5 {a0 a1 a2 a3 a4 : Option Value} {x v : Int32} {n : Int} {tl : List (Option Value)} (hd : decode μ.2.1 pc = .ok (.iinc 5 n, 3)) (hv : x + Int32.ofInt n = v) (hn : 5 < μ.2.2.1) (hnl : gNl (a0 :: a1 :: a2 :: a3 :: a4 :: some (.int x) :: tl) 5 = true) (k : V Γ μ d N Nf h (pc + 3) (a0 :: a1 :: a2 :: a3 :: a4 :: some (.int v) :: tl) st Q) : V Γ μ d N Nf h pc (a0 :: a1 :: a2 :: a3 :: a4 :: some (.int x) :: tl) st Q :=
  V.loc (fun p l e Rm s m args below meth c H locs cells slots Z ls hx hb hl kk => gm_iinc hx hb hd hl rfl hv hn hnl (fun ls' hl' => kk ls' hl')) k
theorem V_istorew6 {a0 a1 a2 a3 a4 a5 : Option Value} {b : Option Value} {x : Int32} {tl : List (Option Value)} (hd : decode μ.2.1 pc = .ok (.istore 6, 2)) (hn : 6 < μ.2.2.1) (hnl : gNl (a0 :: a1 :: a2 :: a3 :: a4 :: a5 :: b :: tl) 6 = true) (k : V Γ μ d N Nf h (pc + 2) (a0 :: a1 :: a2 :: a3 :: a4 :: a5 :: some (.int x) :: tl) st Q) : V Γ μ d N Nf h pc (a0 :: a1 :: a2 :: a3 :: a4 :: a5 :: b :: tl) (.int x :: st) Q :=
  V.loc (fun p l e Rm s m args below meth c H locs cells slots Z ls hx hb hl kk => lv_istore hx hb hd hl hn rfl (fun ls' hl' => kk ls' (gLv_st1 (v := .int x) hnl hl'))) k
theorem V_lstorew6 {a0 a1 a2 a3 a4 a5 : Option Value} {b b2 : Option Value} {x : Int64} {tl : List (Option Value)} (hd : decode μ.2.1 pc = .ok (.lstore 6, 2)) (hn : 7 < μ.2.2.1) (hnl : gNl (a0 :: a1 :: a2 :: a3 :: a4 :: a5 :: b :: b2 :: tl) 6 = true) (k : V Γ μ d N Nf h (pc + 2) (a0 :: a1 :: a2 :: a3 :: a4 :: a5 :: some (.long x) :: none :: tl) st Q) : V Γ μ d N Nf h pc (a0 :: a1 :: a2 :: a3 :: a4 :: a5 :: b :: b2 :: tl) (.long x :: st) Q :=
  V.loc (fun p l e Rm s m args below meth c H locs cells slots Z ls hx hb hl kk => lv_lstore hx hb hd hl hn rfl (fun ls' hl' => kk ls' (gLv_st2 (v := .long x) hnl hl'))) k
theorem V_astorew6 {a0 a1 a2 a3 a4 a5 : Option Value} {b : Option Value} {x : Nat} {tl : List (Option Value)} (hd : decode μ.2.1 pc = .ok (.astore 6, 2)) (hn : 6 < μ.2.2.1) (hnl : gNl (a0 :: a1 :: a2 :: a3 :: a4 :: a5 :: b :: tl) 6 = true) (k : V Γ μ d N Nf h (pc + 2) (a0 :: a1 :: a2 :: a3 :: a4 :: a5 :: some (.ref x) :: tl) st Q) : V Γ μ d N Nf h pc (a0 :: a1 :: a2 :: a3 :: a4 :: a5 :: b :: tl) (.ref x :: st) Q :=
  V.loc (fun p l e Rm s m args below meth c H locs cells slots Z ls hx hb hl kk => lv_astore hx hb hd hl hn rfl (fun ls' hl' => kk ls' (gLv_st1 (v := .ref x) hnl hl'))) k
theorem V_iinc6 {a0 a1 a2 a3 a4 a5 : Option Value} {x v : Int32} {n : Int} {tl : List (Option Value)} (hd : decode μ.2.1 pc = .ok (.iinc 6 n, 3)) (hv : x + Int32.ofInt n = v) (hn : 6 < μ.2.2.1) (hnl : gNl (a0 :: a1 :: a2 :: a3 :: a4 :: a5 :: some (.int x) :: tl) 6 = true) (k : V Γ μ d N Nf h (pc + 3) (a0 :: a1 :: a2 :: a3 :: a4 :: a5 :: some (.int v) :: tl) st Q) : V Γ μ d N Nf h pc (a0 :: a1 :: a2 :: a3 :: a4 :: a5 :: some (.int x) :: tl) st Q :=
  V.loc (fun p l e Rm s m args below meth c H locs cells slots Z ls hx hb hl kk => gm_iinc hx hb hd hl rfl hv hn hnl (fun ls' hl' => kk ls' hl')) k
theorem V_istorew7 {a0 a1 a2 a3 a4 a5 a6 : Option Value} {b : Option Value} {x : Int32} {tl : List (Option Value)} (hd : decode μ.2.1 pc = .ok (.istore 7, 2)) (hn : 7 < μ.2.2.1) (hnl : gNl (a0 :: a1 :: a2 :: a3 :: a4 :: a5 :: a6 :: b :: tl) 7 = true) (k : V Γ μ d N Nf h (pc + 2) (a0 :: a1 :: a2 :: a3 :: a4 :: a5 :: a6 :: some (.int x) :: tl) st Q) : V Γ μ d N Nf h pc (a0 :: a1 :: a2 :: a3 :: a4 :: a5 :: a6 :: b :: tl) (.int x :: st) Q :=
  V.loc (fun p l e Rm s m args below meth c H locs cells slots Z ls hx hb hl kk => lv_istore hx hb hd hl hn rfl (fun ls' hl' => kk ls' (gLv_st1 (v := .int x) hnl hl'))) k
theorem V_lstorew7 {a0 a1 a2 a3 a4 a5 a6 : Option Value} {b b2 : Option Value} {x : Int64} {tl : List (Option Value)} (hd : decode μ.2.1 pc = .ok (.lstore 7, 2)) (hn : 8 < μ.2.2.1) (hnl : gNl (a0 :: a1 :: a2 :: a3 :: a4 :: a5 :: a6 :: b :: b2 :: tl) 7 = true) (k : V Γ μ d N Nf h (pc + 2) (a0 :: a1 :: a2 :: a3 :: a4 :: a5 :: a6 :: some (.long x) :: none :: tl) st Q) : V Γ μ d N Nf h pc (a0 :: a1 :: a2 :: a3 :: a4 :: a5 :: a6 :: b :: b2 :: tl) (.long x :: st) Q :=
  V.loc (fun p l e Rm s m args below meth c H locs cells slots Z ls hx hb hl kk => lv_lstore hx hb hd hl hn rfl (fun ls' hl' => kk ls' (gLv_st2 (v := .long x) hnl hl'))) k
theorem V_astorew7 {a0 a1 a2 a3 a4 a5 a6 : Option Value} {b : Option Value} {x : Nat} {tl : List (Option Value)} (hd : decode μ.2.1 pc = .ok (.astore 7, 2)) (hn : 7 < μ.2.2.1) (hnl : gNl (a0 :: a1 :: a2 :: a3 :: a4 :: a5 :: a6 :: b :: tl) 7 = true) (k : V Γ μ d N Nf h (pc + 2) (a0 :: a1 :: a2 :: a3 :: a4 :: a5 :: a6 :: some (.ref x) :: tl) st Q) : V Γ μ d N Nf h pc (a0 :: a1 :: a2 :: a3 :: a4 :: a5 :: a6 :: b :: tl) (.ref x :: st) Q :=
  V.loc (fun p l e Rm s m args below meth c H locs cells slots Z ls hx hb hl kk => lv_astore hx hb hd hl hn rfl (fun ls' hl' => kk ls' (gLv_st1 (v := .ref x) hnl hl'))) k
theorem V_iinc7 {a0 a1 a2 a3 a4 a5 a6 : Option Value} {x v : Int32} {n : Int} {tl : List (Option Value)} (hd : decode μ.2.1 pc = .ok (.iinc 7 n, 3)) (hv : x + Int32.ofInt n = v) (hn : 7 < μ.2.2.1) (hnl : gNl (a0 :: a1 :: a2 :: a3 :: a4 :: a5 :: a6 :: some (.int x) :: tl) 7 = true) (k : V Γ μ d N Nf h (pc + 3) (a0 :: a1 :: a2 :: a3 :: a4 :: a5 :: a6 :: some (.int v) :: tl) st Q) : V Γ μ d N Nf h pc (a0 :: a1 :: a2 :: a3 :: a4 :: a5 :: a6 :: some (.int x) :: tl) st Q :=
  V.loc (fun p l e Rm s m args below meth c H locs cells slots Z ls hx hb hl kk => gm_iinc hx hb hd hl rfl hv hn hnl (fun ls' hl' => kk ls' hl')) k
theorem V_istorew8 {a0 a1 a2 a3 a4 a5 a6 a7 : Option Value} {b : Option Value} {x : Int32} {tl : List (Option Value)} (hd : decode μ.2.1 pc = .ok (.istore 8, 2)) (hn : 8 < μ.2.2.1) (hnl : gNl (a0 :: a1 :: a2 :: a3 :: a4 :: a5 :: a6 :: a7 :: b :: tl) 8 = true) (k : V Γ μ d N Nf h (pc + 2) (a0 :: a1 :: a2 :: a3 :: a4 :: a5 :: a6 :: a7 :: some (.int x) :: tl) st Q) : V Γ μ d N Nf h pc (a0 :: a1 :: a2 :: a3 :: a4 :: a5 :: a6 :: a7 :: b :: tl) (.int x :: st) Q :=
  V.loc (fun p l e Rm s m args below meth c H locs cells slots Z ls hx hb hl kk => lv_istore hx hb hd hl hn rfl (fun ls' hl' => kk ls' (gLv_st1 (v := .int x) hnl hl'))) k
theorem V_lstorew8 {a0 a1 a2 a3 a4 a5 a6 a7 : Option Value} {b b2 : Option Value} {x : Int64} {tl : List (Option Value)} (hd : decode μ.2.1 pc = .ok (.lstore 8, 2)) (hn : 9 < μ.2.2.1) (hnl : gNl (a0 :: a1 :: a2 :: a3 :: a4 :: a5 :: a6 :: a7 :: b :: b2 :: tl) 8 = true) (k : V Γ μ d N Nf h (pc + 2) (a0 :: a1 :: a2 :: a3 :: a4 :: a5 :: a6 :: a7 :: some (.long x) :: none :: tl) st Q) : V Γ μ d N Nf h pc (a0 :: a1 :: a2 :: a3 :: a4 :: a5 :: a6 :: a7 :: b :: b2 :: tl) (.long x :: st) Q :=
  V.loc (fun p l e Rm s m args below meth c H locs cells slots Z ls hx hb hl kk => lv_lstore hx hb hd hl hn rfl (fun ls' hl' => kk ls' (gLv_st2 (v := .long x) hnl hl'))) k
theorem V_astorew8 {a0 a1 a2 a3 a4 a5 a6 a7 : Option Value} {b : Option Value} {x : Nat} {tl : List (Option Value)} (hd : decode μ.2.1 pc = .ok (.astore 8, 2)) (hn : 8 < μ.2.2.1) (hnl : gNl (a0 :: a1 :: a2 :: a3 :: a4 :: a5 :: a6 :: a7 :: b :: tl) 8 = true) (k : V Γ μ d N Nf h (pc + 2) (a0 :: a1 :: a2 :: a3 :: a4 :: a5 :: a6 :: a7 :: some (.ref x) :: tl) st Q) : V Γ μ d N Nf h pc (a0 :: a1 :: a2 :: a3 :: a4 :: a5 :: a6 :: a7 :: b :: tl) (.ref x :: st) Q :=
  V.loc (fun p l e Rm s m args below meth c H locs cells slots Z ls hx hb hl kk => lv_astore hx hb hd hl hn rfl (fun ls' hl' => kk ls' (gLv_st1 (v := .ref x) hnl hl'))) k
theorem V_iinc8 {a0 a1 a2 a3 a4 a5 a6 a7 : Option Value} {x v : Int32} {n : Int} {tl : List (Option Value)} (hd : decode μ.2.1 pc = .ok (.iinc 8 n, 3)) (hv : x + Int32.ofInt n = v) (hn : 8 < μ.2.2.1) (hnl : gNl (a0 :: a1 :: a2 :: a3 :: a4 :: a5 :: a6 :: a7 :: some (.int x) :: tl) 8 = true) (k : V Γ μ d N Nf h (pc + 3) (a0 :: a1 :: a2 :: a3 :: a4 :: a5 :: a6 :: a7 :: some (.int v) :: tl) st Q) : V Γ μ d N Nf h pc (a0 :: a1 :: a2 :: a3 :: a4 :: a5 :: a6 :: a7 :: some (.int x) :: tl) st Q :=
  V.loc (fun p l e Rm s m args below meth c H locs cells slots Z ls hx hb hl kk => gm_iinc hx hb hd hl rfl hv hn hnl (fun ls' hl' => kk ls' hl')) k
theorem V_istorew9 {a0 a1 a2 a3 a4 a5 a6 a7 a8 : Option Value} {b : Option Value} {x : Int32} {tl : List (Option Value)} (hd : decode μ.2.1 pc = .ok (.istore 9, 2)) (hn : 9 < μ.2.2.1) (hnl : gNl (a0 :: a1 :: a2 :: a3 :: a4 :: a5 :: a6 :: a7 :: a8 :: b :: tl) 9 = true) (k : V Γ μ d N Nf h (pc + 2) (a0 :: a1 :: a2 :: a3 :: a4 :: a5 :: a6 :: a7 :: a8 :: some (.int x) :: tl) st Q) : V Γ μ d N Nf h pc (a0 :: a1 :: a2 :: a3 :: a4 :: a5 :: a6 :: a7 :: a8 :: b :: tl) (.int x :: st) Q :=
  V.loc (fun p l e Rm s m args below meth c H locs cells slots Z ls hx hb hl kk => lv_istore hx hb hd hl hn rfl (fun ls' hl' => kk ls' (gLv_st1 (v := .int x) hnl hl'))) k
theorem V_lstorew9 {a0 a1 a2 a3 a4 a5 a6 a7 a8 : Option Value} {b b2 : Option Value} {x : Int64} {tl : List (Option Value)} (hd : decode μ.2.1 pc = .ok (.lstore 9, 2)) (hn : 10 < μ.2.2.1) (hnl : gNl (a0 :: a1 :: a2 :: a3 :: a4 :: a5 :: a6 :: a7 :: a8 :: b :: b2 :: tl) 9 = true) (k : V Γ μ d N Nf h (pc + 2) (a0 :: a1 :: a2 :: a3 :: a4 :: a5 :: a6 :: a7 :: a8 :: some (.long x) :: none :: tl) st Q) : V Γ μ d N Nf h pc (a0 :: a1 :: a2 :: a3 :: a4 :: a5 :: a6 :: a7 :: a8 :: b :: b2 :: tl) (.long x :: st) Q :=
  V.loc (fun p l e Rm s m args below meth c H locs cells slots Z ls hx hb hl kk => lv_lstore hx hb hd hl hn rfl (fun ls' hl' => kk ls' (gLv_st2 (v := .long x) hnl hl'))) k
theorem V_astorew9 {a0 a1 a2 a3 a4 a5 a6 a7 a8 : Option Value} {b : Option Value} {x : Nat} {tl : List (Option Value)} (hd : decode μ.2.1 pc = .ok (.astore 9, 2)) (hn : 9 < μ.2.2.1) (hnl : gNl (a0 :: a1 :: a2 :: a3 :: a4 :: a5 :: a6 :: a7 :: a8 :: b :: tl) 9 = true) (k : V Γ μ d N Nf h (pc + 2) (a0 :: a1 :: a2 :: a3 :: a4 :: a5 :: a6 :: a7 :: a8 :: some (.ref x) :: tl) st Q) : V Γ μ d N Nf h pc (a0 :: a1 :: a2 :: a3 :: a4 :: a5 :: a6 :: a7 :: a8 :: b :: tl) (.ref x :: st) Q :=
  V.loc (fun p l e Rm s m args below meth c H locs cells slots Z ls hx hb hl kk => lv_astore hx hb hd hl hn rfl (fun ls' hl' => kk ls' (gLv_st1 (v := .ref x) hnl hl'))) k
theorem V_iinc9 {a0 a1 a2 a3 a4 a5 a6 a7 a8 : Option Value} {x v : Int32} {n : Int} {tl : List (Option Value)} (hd : decode μ.2.1 pc = .ok (.iinc 9 n, 3)) (hv : x + Int32.ofInt n = v) (hn : 9 < μ.2.2.1) (hnl : gNl (a0 :: a1 :: a2 :: a3 :: a4 :: a5 :: a6 :: a7 :: a8 :: some (.int x) :: tl) 9 = true) (k : V Γ μ d N Nf h (pc + 3) (a0 :: a1 :: a2 :: a3 :: a4 :: a5 :: a6 :: a7 :: a8 :: some (.int v) :: tl) st Q) : V Γ μ d N Nf h pc (a0 :: a1 :: a2 :: a3 :: a4 :: a5 :: a6 :: a7 :: a8 :: some (.int x) :: tl) st Q :=
  V.loc (fun p l e Rm s m args below meth c H locs cells slots Z ls hx hb hl kk => gm_iinc hx hb hd hl rfl hv hn hnl (fun ls' hl' => kk ls' hl')) k
theorem V_istorew10 {a0 a1 a2 a3 a4 a5 a6 a7 a8 a9 : Option Value} {b : Option Value} {x : Int32} {tl : List (Option Value)} (hd : decode μ.2.1 pc = .ok (.istore 10, 2)) (hn : 10 < μ.2.2.1) (hnl : gNl (a0 :: a1 :: a2 :: a3 :: a4 :: a5 :: a6 :: a7 :: a8 :: a9 :: b :: tl) 10 = true) (k : V Γ μ d N Nf h (pc + 2) (a0 :: a1 :: a2 :: a3 :: a4 :: a5 :: a6 :: a7 :: a8 :: a9 :: some (.int x) :: tl) st Q) : V Γ μ d N Nf h pc (a0 :: a1 :: a2 :: a3 :: a4 :: a5 :: a6 :: a7 :: a8 :: a9 :: b :: tl) (.int x :: st) Q :=
  V.loc (fun p l e Rm s m args below meth c H locs cells slots Z ls hx hb hl kk => lv_istore hx hb hd hl hn rfl (fun ls' hl' => kk ls' (gLv_st1 (v := .int x) hnl hl'))) k
theorem V_lstorew10 {a0 a1 a2 a3 a4 a5 a6 a7 a8 a9 : Option Value} {b b2 : Option Value} {x : Int64} {tl : List (Option Value)} (hd : decode μ.2.1 pc = .ok (.lstore 10, 2)) (hn : 11 < μ.2.2.1) (hnl : gNl (a0 :: a1 :: a2 :: a3 :: a4 :: a5 :: a6 :: a7 :: a8 :: a9 :: b :: b2 :: tl) 10 = true) (k : V Γ μ d N Nf h (pc + 2) (a0 :: a1 :: a2 :: a3 :: a4 :: a5 :: a6 :: a7 :: a8 :: a9 :: some (.long x) :: none :: tl) st Q) : V Γ μ d N Nf h pc (a0 :: a1 :: a2 :: a3 :: a4 :: a5 :: a6 :: a7 :: a8 :: a9 :: b :: b2 :: tl) (.long x :: st) Q :=
  V.loc (fun p l e Rm s m args below meth c H locs cells slots Z ls hx hb hl kk => lv_lstore hx hb hd hl hn rfl (fun ls' hl' => kk ls' (gLv_st2 (v := .long x) hnl hl'))) k
theorem V_astorew10 {a0 a1 a2 a3 a4 a5 a6 a7 a8 a9 : Option Value} {b : Option Value} {x : Nat} {tl : List (Option Value)} (hd : decode μ.2.1 pc = .ok (.astore 10, 2)) (hn : 10 < μ.2.2.1) (hnl : gNl (a0 :: a1 :: a2 :: a3 :: a4 :: a5 :: a6 :: a7 :: a8 :: a9 :: b :: tl) 10 = true) (k : V Γ μ d N Nf h (pc + 2) (a0 :: a1 :: a2 :: a3 :: a4 :: a5 :: a6 :: a7 :: a8 :: a9 :: some (.ref x) :: tl) st Q) : V Γ μ d N Nf h pc (a0 :: a1 :: a2 :: a3 :: a4 :: a5 :: a6 :: a7 :: a8 :: a9 :: b :: tl) (.ref x :: st) Q :=
  V.loc (fun p l e Rm s m args below meth c H locs cells slots Z ls hx hb hl kk => lv_astore hx hb hd hl hn rfl (fun ls' hl' => kk ls' (gLv_st1 (v := .ref x) hnl hl'))) k
theorem V_iinc10 {a0 a1 a2 a3 a4 a5 a6 a7 a8 a9 : Option Value} {x v : Int32} {n : Int} {tl : List (Option Value)} (hd : decode μ.2.1 pc = .ok (.iinc 10 n, 3)) (hv : x + Int32.ofInt n = v) (hn : 10 < μ.2.2.1) (hnl : gNl (a0 :: a1 :: a2 :: a3 :: a4 :: a5 :: a6 :: a7 :: a8 :: a9 :: some (.int x) :: tl) 10 = true) (k : V Γ μ d N Nf h (pc + 3) (a0 :: a1 :: a2 :: a3 :: a4 :: a5 :: a6 :: a7 :: a8 :: a9 :: some (.int v) :: tl) st Q) : V Γ μ d N Nf h pc (a0 :: a1 :: a2 :: a3 :: a4 :: a5 :: a6 :: a7 :: a8 :: a9 :: some (.int x) :: tl) st Q :=
  V.loc (fun p l e Rm s m args below meth c H locs cells slots Z ls hx hb hl kk => gm_iinc hx hb hd hl rfl hv hn hnl (fun ls' hl' => kk ls' hl')) k
theorem V_istorew11 {a0 a1 a2 a3 a4 a5 a6 a7 a8 a9 a10 : Option Value} {b : Option Value} {x : Int32} {tl : List (Option Value)} (hd : decode μ.2.1 pc = .ok (.istore 11, 2)) (hn : 11 < μ.2.2.1) (hnl : gNl (a0 :: a1 :: a2 :: a3 :: a4 :: a5 :: a6 :: a7 :: a8 :: a9 :: a10 :: b :: tl) 11 = true) (k : V Γ μ d N Nf h (pc + 2) (a0 :: a1 :: a2 :: a3 :: a4 :: a5 :: a6 :: a7 :: a8 :: a9 :: a10 :: some (.int x) :: tl) st Q) : V Γ μ d N Nf h pc (a0 :: a1 :: a2 :: a3 :: a4 :: a5 :: a6 :: a7 :: a8 :: a9 :: a10 :: b :: tl) (.int x :: st) Q :=
  V.loc (fun p l e Rm s m args below meth c H locs cells slots Z ls hx hb hl kk => lv_istore hx hb hd hl hn rfl (fun ls' hl' => kk ls' (gLv_st1 (v := .int x) hnl hl'))) k
theorem V_lstorew11 {a0 a1 a2 a3 a4 a5 a6 a7 a8 a9 a10 : Option Value} {b b2 : Option Value} {x : Int64} {tl : List (Option Value)} (hd : decode μ.2.1 pc = .ok (.lstore 11, 2)) (hn : 12 < μ.2.2.1) (hnl : gNl (a0 :: a1 :: a2 :: a3 :: a4 :: a5 :: a6 :: a7 :: a8 :: a9 :: a10 :: b :: b2 :: tl) 11 = true) (k : V Γ μ d N Nf h (pc + 2) (a0 :: a1 :: a2 :: a3 :: a4 :: a5 :: a6 :: a7 :: a8 :: a9 :: a10 :: some (.long x) :: none :: tl) st Q) : V Γ μ d N Nf h pc (a0 :: a1 :: a2 :: a3 :: a4 :: a5 :: a6 :: a7 :: a8 :: a9 :: a10 :: b :: b2 :: tl) (.long x :: st) Q :=
  V.loc (fun p l e Rm s m args below meth c H locs cells slots Z ls hx hb hl kk => lv_lstore hx hb hd hl hn rfl (fun ls' hl' => kk ls' (gLv_st2 (v := .long x) hnl hl'))) k
theorem V_astorew11 {a0 a1 a2 a3 a4 a5 a6 a7 a8 a9 a10 : Option Value} {b : Option Value} {x : Nat} {tl : List (Option Value)} (hd : decode μ.2.1 pc = .ok (.astore 11, 2)) (hn : 11 < μ.2.2.1) (hnl : gNl (a0 :: a1 :: a2 :: a3 :: a4 :: a5 :: a6 :: a7 :: a8 :: a9 :: a10 :: b :: tl) 11 = true) (k : V Γ μ d N Nf h (pc + 2) (a0 :: a1 :: a2 :: a3 :: a4 :: a5 :: a6 :: a7 :: a8 :: a9 :: a10 :: some (.ref x) :: tl) st Q) : V Γ μ d N Nf h pc (a0 :: a1 :: a2 :: a3 :: a4 :: a5 :: a6 :: a7 :: a8 :: a9 :: a10 :: b :: tl) (.ref x :: st) Q :=
  V.loc (fun p l e Rm s m args below meth c H locs cells slots Z ls hx hb hl kk => lv_astore hx hb hd hl hn rfl (fun ls' hl' => kk ls' (gLv_st1 (v := .ref x) hnl hl'))) k
theorem V_iinc11 {a0 a1 a2 a3 a4 a5 a6 a7 a8 a9 a10 : Option Value} {x v : Int32} {n : Int} {tl : List (Option Value)} (hd : decode μ.2.1 pc = .ok (.iinc 11 n, 3)) (hv : x + Int32.ofInt n = v) (hn : 11 < μ.2.2.1) (hnl : gNl (a0 :: a1 :: a2 :: a3 :: a4 :: a5 :: a6 :: a7 :: a8 :: a9 :: a10 :: some (.int x) :: tl) 11 = true) (k : V Γ μ d N Nf h (pc + 3) (a0 :: a1 :: a2 :: a3 :: a4 :: a5 :: a6 :: a7 :: a8 :: a9 :: a10 :: some (.int v) :: tl) st Q) : V Γ μ d N Nf h pc (a0 :: a1 :: a2 :: a3 :: a4 :: a5 :: a6 :: a7 :: a8 :: a9 :: a10 :: some (.int x) :: tl) st Q :=
  V.loc (fun p l e Rm s m args below meth c H locs cells slots Z ls hx hb hl kk => gm_iinc hx hb hd hl rfl hv hn hnl (fun ls' hl' => kk ls' hl')) k
theorem V_istorew12 {a0 a1 a2 a3 a4 a5 a6 a7 a8 a9 a10 a11 : Option Value} {b : Option Value} {x : Int32} {tl : List (Option Value)} (hd : decode μ.2.1 pc = .ok (.istore 12, 2)) (hn : 12 < μ.2.2.1) (hnl : gNl (a0 :: a1 :: a2 :: a3 :: a4 :: a5 :: a6 :: a7 :: a8 :: a9 :: a10 :: a11 :: b :: tl) 12 = true) (k : V Γ μ d N Nf h (pc + 2) (a0 :: a1 :: a2 :: a3 :: a4 :: a5 :: a6 :: a7 :: a8 :: a9 :: a10 :: a11 :: some (.int x) :: tl) st Q) : V Γ μ d N Nf h pc (a0 :: a1 :: a2 :: a3 :: a4 :: a5 :: a6 :: a7 :: a8 :: a9 :: a10 :: a11 :: b :: tl) (.int x :: st) Q :=
  V.loc (fun p l e Rm s m args below meth c H locs cells slots Z ls hx hb hl kk => lv_istore hx hb hd hl hn rfl (fun ls' hl' => kk ls' (gLv_st1 (v := .int x) hnl hl'))) k
theorem V_lstorew12 {a0 a1 a2 a3 a4 a5 a6 a7 a8 a9 a10 a11 : Option Value} {b b2 : Option Value} {x : Int64} {tl : List (Option Value)} (hd : decode μ.2.1 pc = .ok (.lstore 12, 2)) (hn : 13 < μ.2.2.1) (hnl : gNl (a0 :: a1 :: a2 :: a3 :: a4 :: a5 :: a6 :: a7 :: a8 :: a9 :: a10 :: a11 :: b :: b2 :: tl) 12 = true) (k : V Γ μ d N Nf h (pc + 2) (a0 :: a1 :: a2 :: a3 :: a4 :: a5 :: a6 :: a7 :: a8 :: a9 :: a10 :: a11 :: some (.long x) :: none :: tl) st Q) : V Γ μ d N Nf h pc (a0 :: a1 :: a2 :: a3 :: a4 :: a5 :: a6 :: a7 :: a8 :: a9 :: a10 :: a11 :: b :: b2 :: tl) (.long x :: st) Q :=
  V.loc (fun p l e Rm s m args below meth c H locs cells slots Z ls hx hb hl kk => lv_lstore hx hb hd hl hn rfl (fun ls' hl' => kk ls' (gLv_st2 (v := .long x) hnl hl'))) k
theorem V_astorew12 {a0 a1 a2 a3 a4 a5 a6 a7 a8 a9 a10 a11 : Option Value} {b : Option Value} {x : Nat} {tl : List (Option Value)} (hd : decode μ.2.1 pc = .ok (.astore 12, 2)) (hn : 12 < μ.2.2.1) (hnl : gNl (a0 :: a1 :: a2 :: a3 :: a4 :: a5 :: a6 :: a7 :: a8 :: a9 :: a10 :: a11 :: b :: tl) 12 = true) (k : V Γ μ d N Nf h (pc + 2) (a0 :: a1 :: a2 :: a3 :: a4 :: a5 :: a6 :: a7 :: a8 :: a9 :: a10 :: a11 :: some (.ref x) :: tl) st Q) : V Γ μ d N Nf h pc (a0 :: a1 :: a2 :: a3 :: a4 :: a5 :: a6 :: a7 :: a8 :: a9 :: a10 :: a11 :: b :: tl) (.ref x :: st) Q :=
  V.loc (fun p l e Rm s m args below meth c H locs cells slots Z ls hx hb hl kk => lv_astore hx hb hd hl hn rfl (fun ls' hl' => kk ls' (gLv_st1 (v := .ref x) hnl hl'))) k
theorem V_iinc12 {a0 a1 a2 a3 a4 a5 a6 a7 a8 a9 a10 a11 : Option Value} {x v : Int32} {n : Int} {tl : List (Option Value)} (hd : decode μ.2.1 pc = .ok (.iinc 12 n, 3)) (hv : x + Int32.ofInt n = v) (hn : 12 < μ.2.2.1) (hnl : gNl (a0 :: a1 :: a2 :: a3 :: a4 :: a5 :: a6 :: a7 :: a8 :: a9 :: a10 :: a11 :: some (.int x) :: tl) 12 = true) (k : V Γ μ d N Nf h (pc + 3) (a0 :: a1 :: a2 :: a3 :: a4 :: a5 :: a6 :: a7 :: a8 :: a9 :: a10 :: a11 :: some (.int v) :: tl) st Q) : V Γ μ d N Nf h pc (a0 :: a1 :: a2 :: a3 :: a4 :: a5 :: a6 :: a7 :: a8 :: a9 :: a10 :: a11 :: some (.int x) :: tl) st Q :=
  V.loc (fun p l e Rm s m args below meth c H locs cells slots Z ls hx hb hl kk => gm_iinc hx hb hd hl rfl hv hn hnl (fun ls' hl' => kk ls' hl')) k
theorem V_istorew13 {a0 a1 a2 a3 a4 a5 a6 a7 a8 a9 a10 a11 a12 : Option Value} {b : Option Value} {x : Int32} {tl : List (Option Value)} (hd : decode μ.2.1 pc = .ok (.istore 13, 2)) (hn : 13 < μ.2.2.1) (hnl : gNl (a0 :: a1 :: a2 :: a3 :: a4 :: a5 :: a6 :: a7 :: a8 :: a9 :: a10 :: a11 :: a12 :: b :: tl) 13 = true) (k : V Γ μ d N Nf h (pc + 2) (a0 :: a1 :: a2 :: a3 :: a4 :: a5 :: a6 :: a7 :: a8 :: a9 :: a10 :: a11 :: a12 :: some (.int x) :: tl) st Q) : V Γ μ d N Nf h pc (a0 :: a1 :: a2 :: a3 :: a4 :: a5 :: a6 :: a7 :: a8 :: a9 :: a10 :: a11 :: a12 :: b :: tl) (.int x :: st) Q :=
  V.loc (fun p l e Rm s m args below meth c H locs cells slots Z ls hx hb hl kk => lv_istore hx hb hd hl hn rfl (fun ls' hl' => kk ls' (gLv_st1 (v := .int x) hnl hl'))) k
theorem V_lstorew13 {a0 a1 a2 a3 a4 a5 a6 a7 a8 a9 a10 a11 a12 : Option Value} {b b2 : Option Value} {x : Int64} {tl : List (Option Value)} (hd : decode μ.2.1 pc = .ok (.lstore 13, 2)) (hn : 14 < μ.2.2.1) (hnl : gNl (a0 :: a1 :: a2 :: a3 :: a4 :: a5 :: a6 :: a7 :: a8 :: a9 :: a10 :: a11 :: a12 :: b :: b2 :: tl) 13 = true) (k : V Γ μ d N Nf h (pc + 2) (a0 :: a1 :: a2 :: a3 :: a4 :: a5 :: a6 :: a7 :: a8 :: a9 :: a10 :: a11 :: a12 :: some (.long x) :: none :: tl) st Q) : V Γ μ d N Nf h pc (a0 :: a1 :: a2 :: a3 :: a4 :: a5 :: a6 :: a7 :: a8 :: a9 :: a10 :: a11 :: a12 :: b :: b2 :: tl) (.long x :: st) Q :=
  V.loc (fun p l e Rm s m args below meth c H locs cells slots Z ls hx hb hl kk => lv_lstore hx hb hd hl hn rfl (fun ls' hl' => kk ls' (gLv_st2 (v := .long x) hnl hl'))) k
theorem V_astorew13 {a0 a1 a2 a3 a4 a5 a6 a7 a8 a9 a10 a11 a12 : Option Value} {b : Option Value} {x : Nat} {tl : List (Option Value)} (hd : decode μ.2.1 pc = .ok (.astore 13, 2)) (hn : 13 < μ.2.2.1) (hnl : gNl (a0 :: a1 :: a2 :: a3 :: a4 :: a5 :: a6 :: a7 :: a8 :: a9 :: a10 :: a11 :: a12 :: b :: tl) 13 = true) (k : V Γ μ d N Nf h (pc + 2) (a0 :: a1 :: a2 :: a3 :: a4 :: a5 :: a6 :: a7 :: a8 :: a9 :: a10 :: a11 :: a12 :: some (.ref x) :: tl) st Q) : V Γ μ d N Nf h pc (a0 :: a1 :: a2 :: a3 :: a4 :: a5 :: a6 :: a7 :: a8 :: a9 :: a10 :: a11 :: a12 :: b :: tl) (.ref x :: st) Q :=
  V.loc (fun p l e Rm s m args below meth c H locs cells slots Z ls hx hb hl kk => lv_astore hx hb hd hl hn rfl (fun ls' hl' => kk ls' (gLv_st1 (v := .ref x) hnl hl'))) k
theorem V_iinc13 {a0 a1 a2 a3 a4 a5 a6 a7 a8 a9 a10 a11 a12 : Option Value} {x v : Int32} {n : Int} {tl : List (Option Value)} (hd : decode μ.2.1 pc = .ok (.iinc 13 n, 3)) (hv : x + Int32.ofInt n = v) (hn : 13 < μ.2.2.1) (hnl : gNl (a0 :: a1 :: a2 :: a3 :: a4 :: a5 :: a6 :: a7 :: a8 :: a9 :: a10 :: a11 :: a12 :: some (.int x) :: tl) 13 = true) (k : V Γ μ d N Nf h (pc + 3) (a0 :: a1 :: a2 :: a3 :: a4 :: a5 :: a6 :: a7 :: a8 :: a9 :: a10 :: a11 :: a12 :: some (.int v) :: tl) st Q) : V Γ μ d N Nf h pc (a0 :: a1 :: a2 :: a3 :: a4 :: a5 :: a6 :: a7 :: a8 :: a9 :: a10 :: a11 :: a12 :: some (.int x) :: tl) st Q :=
  V.loc (fun p l e Rm s m args below meth c H locs cells slots Z ls hx hb hl kk => gm_iinc hx hb hd hl rfl hv hn hnl (fun ls' hl' => kk ls' hl')) k
theorem V_istorew14 {a0 a1 a2 a3 a4 a5 a6 a7 a8 a9 a10 a11 a12 a13 : Option Value} {b : Option Value} {x : Int32} {tl : List (Option Value)} (hd : decode μ.2.1 pc = .ok (.istore 14, 2)) (hn : 14 < μ.2.2.1) (hnl : gNl (a0 :: a1 :: a2 :: a3 :: a4 :: a5 :: a6 :: a7 :: a8 :: a9 :: a10 :: a11 :: a12 :: a13 :: b :: tl) 14 = true) (k : V Γ μ d N Nf h (pc + 2) (a0 :: a1 :: a2 :: a3 :: a4 :: a5 :: a6 :: a7 :: a8 :: a9 :: a10 :: a11 :: a12 :: a13 :: some (.int x) :: tl) st Q) : V Γ μ d N Nf h pc (a0 :: a1 :: a2 :: a3 :: a4 :: a5 :: a6 :: a7 :: a8 :: a9 :: a10 :: a11 :: a12 :: a13 :: b :: tl) (.int x :: st) Q :=
  V.loc (fun p l e Rm s m args below meth c H locs cells slots Z ls hx hb hl kk => lv_istore hx hb hd hl hn rfl (fun ls' hl' => kk ls' (gLv_st1 (v := .int x) hnl hl'))) k
theorem V_lstorew14 {a0 a1 a2 a3 a4 a5 a6 a7 a8 a9 a10 a11 a12 a13 : Option Value} {b b2 : Option Value} {x : Int64} {tl : List (Option Value)} (hd : decode μ.2.1 pc = .ok (.lstore 14, 2)) (hn : 15 < μ.2.2.1) (hnl : gNl (a0 :: a1 :: a2 :: a3 :: a4 :: a5 :: a6 :: a7 :: a8 :: a9 :: a10 :: a11 :: a12 :: a13 :: b :: b2 :: tl) 14 = true) (k : V Γ μ d N Nf h (pc + 2) (a0 :: a1 :: a2 :: a3 :: a4 :: a5 :: a6 :: a7 :: a8 :: a9 :: a10 :: a11 :: a12 :: a13 :: some (.long x) :: none :: tl) st Q) : V Γ μ d N Nf h pc (a0 :: a1 :: a2 :: a3 :: a4 :: a5 :: a6 :: a7 :: a8 :: a9 :: a10 :: a11 :: a12 :: a13 :: b :: b2 :: tl) (.long x :: st) Q :=
  V.loc (fun p l e Rm s m args below meth c H locs cells slots Z ls hx hb hl kk => lv_lstore hx hb hd hl hn rfl (fun ls' hl' => kk ls' (gLv_st2 (v := .long x) hnl hl'))) k
theorem V_astorew14 {a0 a1 a2 a3 a4 a5 a6 a7 a8 a9 a10 a11 a12 a13 : Option Value} {b : Option Value} {x : Nat} {tl : List (Option Value)} (hd : decode μ.2.1 pc = .ok (.astore 14, 2)) (hn : 14 < μ.2.2.1) (hnl : gNl (a0 :: a1 :: a2 :: a3 :: a4 :: a5 :: a6 :: a7 :: a8 :: a9 :: a10 :: a11 :: a12 :: a13 :: b :: tl) 14 = true) (k : V Γ μ d N Nf h (pc + 2) (a0 :: a1 :: a2 :: a3 :: a4 :: a5 :: a6 :: a7 :: a8 :: a9 :: a10 :: a11 :: a12 :: a13 :: some (.ref x) :: tl) st Q) : V Γ μ d N Nf h pc (a0 :: a1 :: a2 :: a3 :: a4 :: a5 :: a6 :: a7 :: a8 :: a9 :: a10 :: a11 :: a12 :: a13 :: b :: tl) (.ref x :: st) Q :=
  V.loc (fun p l e Rm s m args below meth c H locs cells slots Z ls hx hb hl kk => lv_astore hx hb hd hl hn rfl (fun ls' hl' => kk ls' (gLv_st1 (v := .ref x) hnl hl'))) k
theorem V_iinc14 {a0 a1 a2 a3 a4 a5 a6 a7 a8 a9 a10 a11 a12 a13 : Option Value} {x v : Int32} {n : Int} {tl : List (Option Value)} (hd : decode μ.2.1 pc = .ok (.iinc 14 n, 3)) (hv : x + Int32.ofInt n = v) (hn : 14 < μ.2.2.1) (hnl : gNl (a0 :: a1 :: a2 :: a3 :: a4 :: a5 :: a6 :: a7 :: a8 :: a9 :: a10 :: a11 :: a12 :: a13 :: some (.int x) :: tl) 14 = true) (k : V Γ μ d N Nf h (pc + 3) (a0 :: a1 :: a2 :: a3 :: a4 :: a5 :: a6 :: a7 :: a8 :: a9 :: a10 :: a11 :: a12 :: a13 :: some (.int v) :: tl) st Q) : V Γ μ d N Nf h pc (a0 :: a1 :: a2 :: a3 :: a4 :: a5 :: a6 :: a7 :: a8 :: a9 :: a10 :: a11 :: a12 :: a13 :: some (.int x) :: tl) st Q :=
  V.loc (fun p l e Rm s m args below meth c H locs cells slots Z ls hx hb hl kk => gm_iinc hx hb hd hl rfl hv hn hnl (fun ls' hl' => kk ls' hl')) k
theorem V_istorew15 {a0 a1 a2 a3 a4 a5 a6 a7 a8 a9 a10 a11 a12 a13 a14 : Option Value} {b : Option Value} {x : Int32} {tl : List (Option Value)} (hd : decode μ.2.1 pc = .ok (.istore 15, 2)) (hn : 15 < μ.2.2.1) (hnl : gNl (a0 :: a1 :: a2 :: a3 :: a4 :: a5 :: a6 :: a7 :: a8 :: a9 :: a10 :: a11 :: a12 :: a13 :: a14 :: b :: tl) 15 = true) (k : V Γ μ d N Nf h (pc + 2) (a0 :: a1 :: a2 :: a3 :: a4 :: a5 :: a6 :: a7 :: a8 :: a9 :: a10 :: a11 :: a12 :: a13 :: a14 :: some (.int x) :: tl) st Q) : V Γ μ d N Nf h pc (a0 :: a1 :: a2 :: a3 :: a4 :: a5 :: a6 :: a7 :: a8 :: a9 :: a10 :: a11 :: a12 :: a13 :: a14 :: b :: tl) (.int x :: st) Q :=
  V.loc (fun p l e Rm s m args below meth c H locs cells slots Z ls hx hb hl kk => lv_istore hx hb hd hl hn rfl (fun ls' hl' => kk ls' (gLv_st1 (v := .int x) hnl hl'))) k
theorem V_lstorew15 {a0 a1 a2 a3 a4 a5 a6 a7 a8 a9 a10 a11 a12 a13 a14 : Option Value} {b b2 : Option Value} {x : Int64} {tl : List (Option Value)} (hd : decode μ.2.1 pc = .ok (.lstore 15, 2)) (hn : 16 < μ.2.2.1) (hnl : gNl (a0 :: a1 :: a2 :: a3 :: a4 :: a5 :: a6 :: a7 :: a8 :: a9 :: a10 :: a11 :: a12 :: a13 :: a14 :: b :: b2 :: tl) 15 = true) (k : V Γ μ d N Nf h (pc + 2) (a0 :: a1 :: a2 :: a3 :: a4 :: a5 :: a6 :: a7 :: a8 :: a9 :: a10 :: a11 :: a12 :: a13 :: a14 :: some (.long x) :: none :: tl) st Q) : V Γ μ d N Nf h pc (a0 :: a1 :: a2 :: a3 :: a4 :: a5 :: a6 :: a7 :: a8 :: a9 :: a10 :: a11 :: a12 :: a13 :: a14 :: b :: b2 :: tl) (.long x :: st) Q :=
  V.loc (fun p l e Rm s m args below meth c H locs cells slots Z ls hx hb hl kk => lv_lstore hx hb hd hl hn rfl (fun ls' hl' => kk ls' (gLv_st2 (v := .long x) hnl hl'))) k
theorem V_astorew15 {a0 a1 a2 a3 a4 a5 a6 a7 a8 a9 a10 a11 a12 a13 a14 : Option Value} {b : Option Value} {x : Nat} {tl : List (Option Value)} (hd : decode μ.2.1 pc = .ok (.astore 15, 2)) (hn : 15 < μ.2.2.1) (hnl : gNl (a0 :: a1 :: a2 :: a3 :: a4 :: a5 :: a6 :: a7 :: a8 :: a9 :: a10 :: a11 :: a12 :: a13 :: a14 :: b :: tl) 15 = true) (k : V Γ μ d N Nf h (pc + 2) (a0 :: a1 :: a2 :: a3 :: a4 :: a5 :: a6 :: a7 :: a8 :: a9 :: a10 :: a11 :: a12 :: a13 :: a14 :: some (.ref x) :: tl) st Q) : V Γ μ d N Nf h pc (a0 :: a1 :: a2 :: a3 :: a4 :: a5 :: a6 :: a7 :: a8 :: a9 :: a10 :: a11 :: a12 :: a13 :: a14 :: b :: tl) (.ref x :: st) Q :=
  V.loc (fun p l e Rm s m args below meth c H locs cells slots Z ls hx hb hl kk => lv_astore hx hb hd hl hn rfl (fun ls' hl' => kk ls' (gLv_st1 (v := .ref x) hnl hl'))) k
theorem V_iinc15 {a0 a1 a2 a3 a4 a5 a6 a7 a8 a9 a10 a11 a12 a13 a14 : Option Value} {x v : Int32} {n : Int} {tl : List (Option Value)} (hd : decode μ.2.1 pc = .ok (.iinc 15 n, 3)) (hv : x + Int32.ofInt n = v) (hn : 15 < μ.2.2.1) (hnl : gNl (a0 :: a1 :: a2 :: a3 :: a4 :: a5 :: a6 :: a7 :: a8 :: a9 :: a10 :: a11 :: a12 :: a13 :: a14 :: some (.int x) :: tl) 15 = true) (k : V Γ μ d N Nf h (pc + 3) (a0 :: a1 :: a2 :: a3 :: a4 :: a5 :: a6 :: a7 :: a8 :: a9 :: a10 :: a11 :: a12 :: a13 :: a14 :: some (.int v) :: tl) st Q) : V Γ μ d N Nf h pc (a0 :: a1 :: a2 :: a3 :: a4 :: a5 :: a6 :: a7 :: a8 :: a9 :: a10 :: a11 :: a12 :: a13 :: a14 :: some (.int x) :: tl) st Q :=
  V.loc (fun p l e Rm s m args below meth c H locs cells slots Z ls hx hb hl kk => gm_iinc hx hb hd hl rfl hv hn hnl (fun ls' hl' => kk ls' hl')) k
theorem V_iadd {x y : Int32} (hd : decode μ.2.1 pc = .ok (.iadd, 1)) (k : V Γ μ d N Nf h (pc + 1) lv (.int (x + y) :: st) Q) : V Γ μ d N Nf h pc lv (.int y :: .int x :: st) Q :=
  V.pure (fun p l e Rm s m args below meth c H locs cells slots Z ls hx hb hl kk => lv_iadd hx hb hd kk) k
theorem V_isub {x y : Int32} (hd : decode μ.2.1 pc = .ok (.isub, 1)) (k : V Γ μ d N Nf h (pc + 1) lv (.int (x - y) :: st) Q) : V Γ μ d N Nf h pc lv (.int y :: .int x :: st) Q :=
  V.pure (fun p l e Rm s m args below meth c H locs cells slots Z ls hx hb hl kk => lv_isub hx hb hd kk) k
theorem V_imul {x y : Int32} (hd : decode μ.2.1 pc = .ok (.imul, 1)) (k : V Γ μ d N Nf h (pc + 1) lv (.int (x * y) :: st) Q) : V Γ μ d N Nf h pc lv (.int y :: .int x :: st) Q :=
  V.pure (fun p l e Rm s m args below meth c H locs cells slots Z ls hx hb hl kk => lv_imul hx hb hd kk) k
theorem V_iand {x y : Int32} (hd : decode μ.2.1 pc = .ok (.iand, 1)) (k : V Γ μ d N Nf h (pc + 1) lv (.int (x &&& y) :: st) Q) : V Γ μ d N Nf h pc lv (.int y :: .int x :: st) Q :=
  V.pure (fun p l e Rm s m args below meth c H locs cells slots Z ls hx hb hl kk => lv_iand hx hb hd kk) k
theorem V_ior {x y : Int32} (hd : decode μ.2.1 pc = .ok (.ior, 1)) (k : V Γ μ d N Nf h (pc + 1) lv (.int (x ||| y) :: st) Q) : V Γ μ d N Nf h pc lv (.int y :: .int x :: st) Q :=
  V.pure (fun p l e Rm s m args below meth c H locs cells slots Z ls hx hb hl kk => lv_ior hx hb hd kk) k
theorem V_ixor {x y : Int32} (hd : decode μ.2.1 pc = .ok (.ixor, 1)) (k : V Γ μ d N Nf h (pc + 1) lv (.int (x ^^^ y) :: st) Q) : V Γ μ d N Nf h pc lv (.int y :: .int x :: st) Q :=
  V.pure (fun p l e Rm s m args below meth c H locs cells slots Z ls hx hb hl kk => lv_ixor hx hb hd kk) k
theorem V_ishl {x y : Int32} (hd : decode μ.2.1 pc = .ok (.ishl, 1)) (k : V Γ μ d N Nf h (pc + 1) lv (.int (x <<< (y &&& 31)) :: st) Q) : V Γ μ d N Nf h pc lv (.int y :: .int x :: st) Q :=
  V.pure (fun p l e Rm s m args below meth c H locs cells slots Z ls hx hb hl kk => lv_ishl hx hb hd kk) k
theorem V_ishr {x y : Int32} (hd : decode μ.2.1 pc = .ok (.ishr, 1)) (k : V Γ μ d N Nf h (pc + 1) lv (.int (x >>> (y &&& 31)) :: st) Q) : V Γ μ d N Nf h pc lv (.int y :: .int x :: st) Q :=
  V.pure (fun p l e Rm s m args below meth c H locs cells slots Z ls hx hb hl kk => lv_ishr hx hb hd kk) k
theorem V_iushr {x y v : Int32} (hd : decode μ.2.1 pc = .ok (.iushr, 1)) (hv : (x.toUInt32 >>> (y.toUInt32 &&& Int32.toUInt32 31)).toInt32 = v) (k : V Γ μ d N Nf h (pc + 1) lv (.int v :: st) Q) : V Γ μ d N Nf h pc lv (.int y :: .int x :: st) Q :=
  V.pure (fun p l e Rm s m args below meth c H locs cells slots Z ls hx hb hl kk => lv_iushr hx hb hd hv kk) k
theorem V_ineg {x : Int32} (hd : decode μ.2.1 pc = .ok (.ineg, 1)) (k : V Γ μ d N Nf h (pc + 1) lv (.int (-x) :: st) Q) : V Γ μ d N Nf h pc lv (.int x :: st) Q :=
  V.pure (fun p l e Rm s m args below meth c H locs cells slots Z ls hx hb hl kk => lv_ineg hx hb hd kk) k
theorem V_idiv {x y : Int32} (hd : decode μ.2.1 pc = .ok (.idiv, 1)) (hne : ¬ y = 0) (k : V Γ μ d N Nf h (pc + 1) lv (.int (x / y) :: st) Q) : V Γ μ d N Nf h pc lv (.int y :: .int x :: st) Q :=
  V.pure (fun p l e Rm s m args below meth c H locs cells slots Z ls hx hb hl kk => lv_idiv hx hb hd hne kk) k
theorem V_irem {x y : Int32} (hd : decode μ.2.1 pc = .ok (.irem, 1)) (hne : ¬ y = 0) (k : V Γ μ d N Nf h (pc + 1) lv (.int (x - x / y * y) :: st) Q) : V Γ μ d N Nf h pc lv (.int y :: .int x :: st) Q :=
  V.pure (fun p l e Rm s m args below meth c H locs cells slots Z ls hx hb hl kk => lv_irem hx hb hd hne kk) k
theorem V_ladd {x y : Int64} (hd : decode μ.2.1 pc = .ok (.ladd, 1)) (k : V Γ μ d N Nf h (pc + 1) lv (.long (x + y) :: st) Q) : V Γ μ d N Nf h pc lv (.long y :: .long x :: st) Q :=
  V.pure (fun p l e Rm s m args below meth c H locs cells slots Z ls hx hb hl kk => lv_ladd hx hb hd kk) k
theorem V_lsub {x y : Int64} (hd : decode μ.2.1 pc = .ok (.lsub, 1)) (k : V Γ μ d N Nf h (pc + 1) lv (.long (x - y) :: st) Q) : V Γ μ d N Nf h pc lv (.long y :: .long x :: st) Q :=
  V.pure (fun p l e Rm s m args below meth c H locs cells slots Z ls hx hb hl kk => lv_lsub hx hb hd kk) k
theorem V_lmul {x y : Int64} (hd : decode μ.2.1 pc = .ok (.lmul, 1)) (k : V Γ μ d N Nf h (pc + 1) lv (.long (x * y) :: st) Q) : V Γ μ d N Nf h pc lv (.long y :: .long x :: st) Q :=
  V.pure (fun p l e Rm s m args below meth c H locs cells slots Z ls hx hb hl kk => lv_lmul hx hb hd kk) k
theorem V_land {x y : Int64} (hd : decode μ.2.1 pc = .ok (.land, 1)) (k : V Γ μ d N Nf h (pc + 1) lv (.long (x &&& y) :: st) Q) : V Γ μ d N Nf h pc lv (.long y :: .long x :: st) Q :=
  V.pure (fun p l e Rm s m args below meth c H locs cells slots Z ls hx hb hl kk => lv_land hx hb hd kk) k
theorem V_lor {x y : Int64} (hd : decode μ.2.1 pc = .ok (.lor, 1)) (k : V Γ μ d N Nf h (pc + 1) lv (.long (x ||| y) :: st) Q) : V Γ μ d N Nf h pc lv (.long y :: .long x :: st) Q :=
  V.pure (fun p l e Rm s m args below meth c H locs cells slots Z ls hx hb hl kk => lv_lor hx hb hd kk) k
theorem V_lushr {x v : Int64} {y : Int32} (hd : decode μ.2.1 pc = .ok (.lushr, 1)) (hv : (x.toUInt64 >>> (y.toInt64.toUInt64 &&& Int64.toUInt64 63)).toInt64 = v) (k : V Γ μ d N Nf h (pc + 1) lv (.long v :: st) Q) : V Γ μ d N Nf h pc lv (.int y :: .long x :: st) Q :=
  V.pure (fun p l e Rm s m args below meth c H locs cells slots Z ls hx hb hl kk => lv_lushr hx hb hd hv kk) k
theorem V_lshl {x v : Int64} {y : Int32} (hd : decode μ.2.1 pc = .ok (.lshl, 1)) (hv : x <<< (y.toInt64 &&& 63) = v) (k : V Γ μ d N Nf h (pc + 1) lv (.long v :: st) Q) : V Γ μ d N Nf h pc lv (.int y :: .long x :: st) Q :=
  V.pure (fun p l e Rm s m args below meth c H locs cells slots Z ls hx hb hl kk => lv_lshl hx hb hd hv kk) k
theorem V_lshr {x v : Int64} {y : Int32} (hd : decode μ.2.1 pc = .ok (.lshr, 1)) (hv : x >>> (y.toInt64 &&& 63) = v) (k : V Γ μ d N Nf h (pc + 1) lv (.long v :: st) Q) : V Γ μ d N Nf h pc lv (.int y :: .long x :: st) Q :=
  V.pure (fun p l e Rm s m args below meth c H locs cells slots Z ls hx hb hl kk => lv_lshr hx hb hd hv kk) k
theorem V_i2l {x : Int32} {v : Int64} (hd : decode μ.2.1 pc = .ok (.i2l, 1)) (hv : x.toInt64 = v) (k : V Γ μ d N Nf h (pc + 1) lv (.long v :: st) Q) : V Γ μ d N Nf h pc lv (.int x :: st) Q :=
  V.pure (fun p l e Rm s m args below meth c H locs cells slots Z ls hx hb hl kk => lv_i2l hx hb hd hv kk) k
theorem V_l2i {x : Int64} {v : Int32} (hd : decode μ.2.1 pc = .ok (.l2i, 1)) (hv : x.toInt32 = v) (k : V Γ μ d N Nf h (pc + 1) lv (.int v :: st) Q) : V Γ μ d N Nf h pc lv (.long x :: st) Q :=
  V.pure (fun p l e Rm s m args below meth c H locs cells slots Z ls hx hb hl kk => lv_l2i hx hb hd hv kk) k
theorem V_i2b {x v : Int32} (hd : decode μ.2.1 pc = .ok (.i2b, 1)) (hv : x.toInt8.toInt32 = v) (k : V Γ μ d N Nf h (pc + 1) lv (.int v :: st) Q) : V Γ μ d N Nf h pc lv (.int x :: st) Q :=
  V.pure (fun p l e Rm s m args below meth c H locs cells slots Z ls hx hb hl kk => lv_i2b hx hb hd hv kk) k
theorem V_i2c {x v : Int32} (hd : decode μ.2.1 pc = .ok (.i2c, 1)) (hv : (x.toUInt32 % 65536).toInt32 = v) (k : V Γ μ d N Nf h (pc + 1) lv (.int v :: st) Q) : V Γ μ d N Nf h pc lv (.int x :: st) Q :=
  V.pure (fun p l e Rm s m args below meth c H locs cells slots Z ls hx hb hl kk => lv_i2c hx hb hd hv kk) k
theorem V_lcmp {x y : Int64} (hd : decode μ.2.1 pc = .ok (.lcmp, 1)) (k : V Γ μ d N Nf h (pc + 1) lv (.int (lg_cmp x y) :: st) Q) : V Γ μ d N Nf h pc lv (.long y :: .long x :: st) Q :=
  V.pure (fun p l e Rm s m args below meth c H locs cells slots Z ls hx hb hl kk => gm_lcmp hx hb hd kk) k
theorem V_dupi {x : Int32} (hd : decode μ.2.1 pc = .ok (.dup, 1)) (k : V Γ μ d N Nf h (pc + 1) lv (.int x :: .int x :: st) Q) : V Γ μ d N Nf h pc lv (.int x :: st) Q :=
  V.pure (fun p l e Rm s m args below meth c H locs cells slots Z ls hx hb hl kk => lv_dup hx hb hd rfl kk) k
theorem V_dupa {x : Nat} (hd : decode μ.2.1 pc = .ok (.dup, 1)) (k : V Γ μ d N Nf h (pc + 1) lv (.ref x :: .ref x :: st) Q) : V Γ μ d N Nf h pc lv (.ref x :: st) Q :=
  V.pure (fun p l e Rm s m args below meth c H locs cells slots Z ls hx hb hl kk => lv_dup hx hb hd rfl kk) k
theorem V_popi {x : Int32} (hd : decode μ.2.1 pc = .ok (.pop, 1)) (k : V Γ μ d N Nf h (pc + 1) lv (st) Q) : V Γ μ d N Nf h pc lv (.int x :: st) Q :=
  V.pure (fun p l e Rm s m args below meth c H locs cells slots Z ls hx hb hl kk => lv_pop hx hb hd rfl kk) k
theorem V_dup2 {x : Int32} {a : Nat} (hd : decode μ.2.1 pc = .ok (.dup2, 1)) (k : V Γ μ d N Nf h (pc + 1) lv (.int x :: .ref a :: .int x :: .ref a :: st) Q) : V Γ μ d N Nf h pc lv (.int x :: .ref a :: st) Q :=
  V.pure (fun p l e Rm s m args below meth c H locs cells slots Z ls hx hb hl kk => lv_dup2_11 hx hb hd rfl rfl kk) k
theorem V_if_eq {x : Int32} {off : Int} {tgt : Nat} (hd : decode μ.2.1 pc = .ok (.ifCond .eq off, 3)) (ht : (pc : Int) + off = (tgt : Int)) (kt : x = 0 → V Γ μ d N Nf h tgt lv st Q) (kf : ¬ x = 0 → V Γ μ d N Nf h (pc + 3) lv st Q) : V Γ μ d N Nf h pc lv (.int x :: st) Q := by
  intro p l e Rm s m args below meth c H locs cells slots cf sf Z ls cx gs rt
  exact lv_if_eq cx.1 cx.2.1 hd ht (fun q => kt q p l e Rm s m args below meth c H locs cells slots cf sf Z ls cx gs rt) (fun q => kf q p l e Rm s m args below meth c H locs cells slots cf sf Z ls cx gs rt)
theorem V_if_ne {x : Int32} {off : Int} {tgt : Nat} (hd : decode μ.2.1 pc = .ok (.ifCond .ne off, 3)) (ht : (pc : Int) + off = (tgt : Int)) (kt : ¬ x = 0 → V Γ μ d N Nf h tgt lv st Q) (kf : x = 0 → V Γ μ d N Nf h (pc + 3) lv st Q) : V Γ μ d N Nf h pc lv (.int x :: st) Q := by
  intro p l e Rm s m args below meth c H locs cells slots cf sf Z ls cx gs rt
  exact lv_if_ne cx.1 cx.2.1 hd ht (fun q => kt q p l e Rm s m args below meth c H locs cells slots cf sf Z ls cx gs rt) (fun q => kf q p l e Rm s m args below meth c H locs cells slots cf sf Z ls cx gs rt)
theorem V_if_lt {x : Int32} {off : Int} {tgt : Nat} (hd : decode μ.2.1 pc = .ok (.ifCond .lt off, 3)) (ht : (pc : Int) + off = (tgt : Int)) (kt : x < 0 → V Γ μ d N Nf h tgt lv st Q) (kf : ¬ x < 0 → V Γ μ d N Nf h (pc + 3) lv st Q) : V Γ μ d N Nf h pc lv (.int x :: st) Q := by
  intro p l e Rm s m args below meth c H locs cells slots cf sf Z ls cx gs rt
  exact lv_if_lt cx.1 cx.2.1 hd ht (fun q => kt q p l e Rm s m args below meth c H locs cells slots cf sf Z ls cx gs rt) (fun q => kf q p l e Rm s m args below meth c H locs cells slots cf sf Z ls cx gs rt)
theorem V_if_ge {x : Int32} {off : Int} {tgt : Nat} (hd : decode μ.2.1 pc = .ok (.ifCond .ge off, 3)) (ht : (pc : Int) + off = (tgt : Int)) (kt : 0 ≤ x → V Γ μ d N Nf h tgt lv st Q) (kf : ¬ 0 ≤ x → V Γ μ d N Nf h (pc + 3) lv st Q) : V Γ μ d N Nf h pc lv (.int x :: st) Q := by
  intro p l e Rm s m args below meth c H locs cells slots cf sf Z ls cx gs rt
  exact lv_if_ge cx.1 cx.2.1 hd ht (fun q => kt q p l e Rm s m args below meth c H locs cells slots cf sf Z ls cx gs rt) (fun q => kf q p l e Rm s m args below meth c H locs cells slots cf sf Z ls cx gs rt)
theorem V_if_gt {x : Int32} {off : Int} {tgt : Nat} (hd : decode μ.2.1 pc = .ok (.ifCond .gt off, 3)) (ht : (pc : Int) + off = (tgt : Int)) (kt : 0 < x → V Γ μ d N Nf h tgt lv st Q) (kf : ¬ 0 < x → V Γ μ d N Nf h (pc + 3) lv st Q) : V Γ μ d N Nf h pc lv (.int x :: st) Q := by
  intro p l e Rm s m args below meth c H locs cells slots cf sf Z ls cx gs rt
  exact lv_if_gt cx.1 cx.2.1 hd ht (fun q => kt q p l e Rm s m args below meth c H locs cells slots cf sf Z ls cx gs rt) (fun q => kf q p l e Rm s m args below meth c H locs cells slots cf sf Z ls cx gs rt)
theorem V_if_le {x : Int32} {off : Int} {tgt : Nat} (hd : decode μ.2.1 pc = .ok (.ifCond .le off, 3)) (ht : (pc : Int) + off = (tgt : Int)) (kt : x ≤ 0 → V Γ μ d N Nf h tgt lv st Q) (kf : ¬ x ≤ 0 → V Γ μ d N Nf h (pc + 3) lv st Q) : V Γ μ d N Nf h pc lv (.int x :: st) Q := by
  intro p l e Rm s m args below meth c H locs cells slots cf sf Z ls cx gs rt
  exact lv_if_le cx.1 cx.2.1 hd ht (fun q => kt q p l e Rm s m args below meth c H locs cells slots cf sf Z ls cx gs rt) (fun q => kf q p l e Rm s m args below meth c H locs cells slots cf sf Z ls cx gs rt)
theorem V_icmp_eq {x y : Int32} {off : Int} {tgt : Nat} (hd : decode μ.2.1 pc = .ok (.if_icmp .eq off, 3)) (ht : (pc : Int) + off = (tgt : Int)) (kt : x = y → V Γ μ d N Nf h tgt lv st Q) (kf : ¬ x = y → V Γ μ d N Nf h (pc + 3) lv st Q) : V Γ μ d N Nf h pc lv (.int y :: .int x :: st) Q := by
  intro p l e Rm s m args below meth c H locs cells slots cf sf Z ls cx gs rt
  exact lv_icmp_eq cx.1 cx.2.1 hd ht (fun q => kt q p l e Rm s m args below meth c H locs cells slots cf sf Z ls cx gs rt) (fun q => kf q p l e Rm s m args below meth c H locs cells slots cf sf Z ls cx gs rt)
theorem V_icmp_ne {x y : Int32} {off : Int} {tgt : Nat} (hd : decode μ.2.1 pc = .ok (.if_icmp .ne off, 3)) (ht : (pc : Int) + off = (tgt : Int)) (kt : ¬ x = y → V Γ μ d N Nf h tgt lv st Q) (kf : x = y → V Γ μ d N Nf h (pc + 3) lv st Q) : V Γ μ d N Nf h pc lv (.int y :: .int x :: st) Q := by
  intro p l e Rm s m args below meth c H locs cells slots cf sf Z ls cx gs rt
  exact lv_icmp_ne cx.1 cx.2.1 hd ht (fun q => kt q p l e Rm s m args below meth c H locs cells slots cf sf Z ls cx gs rt) (fun q => kf q p l e Rm s m args below meth c H locs cells slots cf sf Z ls cx gs rt)
theorem V_icmp_lt {x y : Int32} {off : Int} {tgt : Nat} (hd : decode μ.2.1 pc = .ok (.if_icmp .lt off, 3)) (ht : (pc : Int) + off = (tgt : Int)) (kt : x < y → V Γ μ d N Nf h tgt lv st Q) (kf : ¬ x < y → V Γ μ d N Nf h (pc + 3) lv st Q) : V Γ μ d N Nf h pc lv (.int y :: .int x :: st) Q := by
  intro p l e Rm s m args below meth c H locs cells slots cf sf Z ls cx gs rt
  exact lv_icmp_lt cx.1 cx.2.1 hd ht (fun q => kt q p l e Rm s m args below meth c H locs cells slots cf sf Z ls cx gs rt) (fun q => kf q p l e Rm s m args below meth c H locs cells slots cf sf Z ls cx gs rt)
theorem V_icmp_ge {x y : Int32} {off : Int} {tgt : Nat} (hd : decode μ.2.1 pc = .ok (.if_icmp .ge off, 3)) (ht : (pc : Int) + off = (tgt : Int)) (kt : y ≤ x → V Γ μ d N Nf h tgt lv st Q) (kf : ¬ y ≤ x → V Γ μ d N Nf h (pc + 3) lv st Q) : V Γ μ d N Nf h pc lv (.int y :: .int x :: st) Q := by
  intro p l e Rm s m args below meth c H locs cells slots cf sf Z ls cx gs rt
  exact lv_icmp_ge cx.1 cx.2.1 hd ht (fun q => kt q p l e Rm s m args below meth c H locs cells slots cf sf Z ls cx gs rt) (fun q => kf q p l e Rm s m args below meth c H locs cells slots cf sf Z ls cx gs rt)
theorem V_icmp_gt {x y : Int32} {off : Int} {tgt : Nat} (hd : decode μ.2.1 pc = .ok (.if_icmp .gt off, 3)) (ht : (pc : Int) + off = (tgt : Int)) (kt : y < x → V Γ μ d N Nf h tgt lv st Q) (kf : ¬ y < x → V Γ μ d N Nf h (pc + 3) lv st Q) : V Γ μ d N Nf h pc lv (.int y :: .int x :: st) Q := by
  intro p l e Rm s m args below meth c H locs cells slots cf sf Z ls cx gs rt
  exact lv_icmp_gt cx.1 cx.2.1 hd ht (fun q => kt q p l e Rm s m args below meth c H locs cells slots cf sf Z ls cx gs rt) (fun q => kf q p l e Rm s m args below meth c H locs cells slots cf sf Z ls cx gs rt)
theorem V_icmp_le {x y : Int32} {off : Int} {tgt : Nat} (hd : decode μ.2.1 pc = .ok (.if_icmp .le off, 3)) (ht : (pc : Int) + off = (tgt : Int)) (kt : x ≤ y → V Γ μ d N Nf h tgt lv st Q) (kf : ¬ x ≤ y → V Γ μ d N Nf h (pc + 3) lv st Q) : V Γ μ d N Nf h pc lv (.int y :: .int x :: st) Q := by
  intro p l e Rm s m args below meth c H locs cells slots cf sf Z ls cx gs rt
  exact lv_icmp_le cx.1 cx.2.1 hd ht (fun q => kt q p l e Rm s m args below meth c H locs cells slots cf sf Z ls cx gs rt) (fun q => kf q p l e Rm s m args below meth c H locs cells slots cf sf Z ls cx gs rt)
theorem V_goto {off : Int} {tgt : Nat} (hd : decode μ.2.1 pc = .ok (.goto off, 3)) (ht : (pc : Int) + off = (tgt : Int)) (k : V Γ μ d N Nf h tgt lv st Q) : V Γ μ d N Nf h pc lv st Q :=
  V.pure (fun p l e Rm s m args below meth c H locs cells slots Z ls hx hb hl kk => lv_goto hx hb hd ht kk) k
theorem V_ifnullN {off : Int} {tgt : Nat} (hd : decode μ.2.1 pc = .ok (.ifnull off, 3)) (ht : (pc : Int) + off = (tgt : Int)) (k : V Γ μ d N Nf h tgt lv st Q) : V Γ μ d N Nf h pc lv (.null :: st) Q :=
  V.pure (fun p l e Rm s m args below meth c H locs cells slots Z ls hx hb hl kk => lv_ifnullN hx hb hd ht kk) k
theorem V_ifnullR {off : Int} {a : Nat} (hd : decode μ.2.1 pc = .ok (.ifnull off, 3)) (k : V Γ μ d N Nf h (pc + 3) lv st Q) : V Γ μ d N Nf h pc lv (.ref a :: st) Q :=
  V.pure (fun p l e Rm s m args below meth c H locs cells slots Z ls hx hb hl kk => lv_ifnull hx hb hd kk) k
theorem V_ifnonnullR {off : Int} {tgt a : Nat} (hd : decode μ.2.1 pc = .ok (.ifnonnull off, 3)) (ht : (pc : Int) + off = (tgt : Int)) (k : V Γ μ d N Nf h tgt lv st Q) : V Γ μ d N Nf h pc lv (.ref a :: st) Q :=
  V.pure (fun p l e Rm s m args below meth c H locs cells slots Z ls hx hb hl kk => lv_ifnonnull hx hb hd ht kk) k
theorem V_ifnonnullN {off : Int} (hd : decode μ.2.1 pc = .ok (.ifnonnull off, 3)) (k : V Γ μ d N Nf h (pc + 3) lv st Q) : V Γ μ d N Nf h pc lv (.null :: st) Q :=
  V.pure (fun p l e Rm s m args below meth c H locs cells slots Z ls hx hb hl kk => lv_ifnonnullN hx hb hd kk) k
theorem V_tableOut {dflt lo hi : Int} {offs : Array Int} {len : Nat} {x : Int32} {tgt : Nat} (hd : decode μ.2.1 pc = .ok (.tableswitch dflt lo hi offs, len)) (hh : x.toInt < lo ∨ hi < x.toInt) (ht : (pc : Int) + dflt = (tgt : Int)) (k : V Γ μ d N Nf h tgt lv st Q) : V Γ μ d N Nf h pc lv (.int x :: st) Q :=
  V.pure (fun p l e Rm s m args below meth c H locs cells slots Z ls hx hb hl kk => lv_tableOut hx hb hd hh ht kk) k
theorem V_tableIn {dflt lo hi : Int} {offs : Array Int} {len : Nat} {x : Int32} {off : Int} {tgt : Nat} (hd : decode μ.2.1 pc = .ok (.tableswitch dflt lo hi offs, len)) (h1 : ¬ x.toInt < lo) (h2 : ¬ hi < x.toInt) (ho : offs[(x.toInt - lo).toNat]? = some off) (ht : (pc : Int) + off = (tgt : Int)) (k : V Γ μ d N Nf h tgt lv st Q) : V Γ μ d N Nf h pc lv (.int x :: st) Q :=
  V.pure (fun p l e Rm s m args below meth c H locs cells slots Z ls hx hb hl kk => lv_tableIn hx hb hd h1 h2 ho ht kk) k
theorem V_ldc {idx : Nat} {v : Int32} (hd : decode μ.2.1 pc = .ok (.ldc idx, 2)) (hc : Cond.constant μ.1.cls idx v ∈ gTbl) (k : V Γ μ d N Nf h (pc + 2) lv (.int v :: st) Q) : V Γ μ d N Nf h pc lv st Q :=
  V.look (fun p l e Rm s m args below meth c H locs cells slots Z ls cx hP hS hls kk => lv_ldc cx.1 cx.2.1 cx.2.2.2.1 (cx.2.2.2.2.1 _ hc) hd kk) k
theorem V_ldcw {idx : Nat} {v : Int32} (hd : decode μ.2.1 pc = .ok (.ldc_w idx, 3)) (hc : Cond.constant μ.1.cls idx v ∈ gTbl) (k : V Γ μ d N Nf h (pc + 3) lv (.int v :: st) Q) : V Γ μ d N Nf h pc lv st Q :=
  V.look (fun p l e Rm s m args below meth c H locs cells slots Z ls cx hP hS hls kk => lv_ldcw cx.1 cx.2.1 cx.2.2.2.1 (cx.2.2.2.2.1 _ hc) hd kk) k
theorem V_ldc2 {idx : Nat} {v : Int64} (hd : decode μ.2.1 pc = .ok (.ldc2_w idx, 3)) (hc : Cond.constantLong μ.1.cls idx v ∈ gTbl) (k : V Γ μ d N Nf h (pc + 3) lv (.long v :: st) Q) : V Γ μ d N Nf h pc lv st Q :=
  V.look (fun p l e Rm s m args below meth c H locs cells slots Z ls cx hP hS hls kk => lv_ldc2 cx.1 cx.2.1 cx.2.2.2.1 (cx.2.2.2.2.1 _ hc) hd kk) k
theorem V_getI {t k ci kd idx : Nat} {fin : Bool} {v : Int32} (hd : decode μ.2.1 pc = .ok (.getfield idx, 3)) (fl : gFld μ.1.cls idx ci k kd fin) (hk : kd = 0 ∨ kd = 3) (hl : lay t = some (.inr ci)) (ht : t < N) (hv : gI h t k = v) (kk : V Γ μ d N Nf h (pc + 3) lv (.int v :: st) Q) : V Γ μ d N Nf h pc lv (.ref t :: st) Q := by
  refine V.look (fun p l e Rm s m args below meth c H locs cells slots Z ls cx hP hS hls kk => ?_) kk
  have hg : gFv Γ h t k kd = .int v := by rw [← hv]; rcases hk with rfl | rfl <;> rfl
  exact gm_get fl hl ht cx hP hg hd kk
theorem V_getL {t k ci idx : Nat} {fin : Bool} {v : Int64} (hd : decode μ.2.1 pc = .ok (.getfield idx, 3)) (fl : gFld μ.1.cls idx ci k 1 fin) (hl : lay t = some (.inr ci)) (ht : t < N) (hv : gL h t k = v) (kk : V Γ μ d N Nf h (pc + 3) lv (.long v :: st) Q) : V Γ μ d N Nf h pc lv (.ref t :: st) Q := by
  refine V.look (fun p l e Rm s m args below meth c H locs cells slots Z ls cx hP hS hls kk => ?_) kk
  have hg : gFv Γ h t k 1 = .long v := by rw [← hv]; rfl
  exact gm_get fl hl ht cx hP hg hd kk
theorem V_getR {t k ci idx r : Nat} {fin : Bool} (hd : decode μ.2.1 pc = .ok (.getfield idx, 3)) (fl : gFld μ.1.cls idx ci k 2 fin) (hl : lay t = some (.inr ci)) (ht : t < N) (hv : gR h t k = some r) (kk : V Γ μ d N Nf h (pc + 3) lv (.ref r :: st) Q) : V Γ μ d N Nf h pc lv (.ref t :: st) Q := by
  refine V.look (fun p l e Rm s m args below meth c H locs cells slots Z ls cx hP hS hls kk => ?_) kk
  have hg : gFv Γ h t k 2 = .ref (gAl Γ r) := by unfold gFv; rw [hv]; rfl
  exact gm_get fl hl ht cx hP hg hd kk
theorem V_getN {t k ci idx : Nat} {fin : Bool} (hd : decode μ.2.1 pc = .ok (.getfield idx, 3)) (fl : gFld μ.1.cls idx ci k 2 fin) (hl : lay t = some (.inr ci)) (ht : t < N) (hv : gR h t k = none) (kk : V Γ μ d N Nf h (pc + 3) lv (.null :: st) Q) : V Γ μ d N Nf h pc lv (.ref t :: st) Q := by
  refine V.look (fun p l e Rm s m args below meth c H locs cells slots Z ls cx hP hS hls kk => ?_) kk
  have hg : gFv Γ h t k 2 = .null := by unfold gFv; rw [hv]; rfl
  exact gm_get fl hl ht cx hP hg hd kk
theorem V_putI {t k ci idx : Nat} {v : Int32} (hd : decode μ.2.1 pc = .ok (.putfield idx, 3)) (fl : gFld μ.1.cls idx ci k 0 false) (hl : lay t = some (.inr ci)) (ht : t < N) (kk : V Γ μ d N Nf (sI h t k v) (pc + 3) lv st Q) : V Γ μ d N Nf h pc lv (.int v :: .ref t :: st) Q := by
  refine V.heap (fun p l e Rm s m args below meth c H locs cells slots Z ls cx hP hS hls kk => ?_) kk
  exact gm_put (v := .int v) fl hl ht cx hP hS (gSI_put hl (by intro kd hkd; rw [fl.kd] at hkd; cases hkd; exact ⟨by decide, by decide⟩)) (by rw [fl.ty0]; rfl) (by rw [fl.ty0]; rfl) hd kk
theorem V_putZ {t k ci idx : Nat} {v : Int32} (hd : decode μ.2.1 pc = .ok (.putfield idx, 3)) (fl : gFld μ.1.cls idx ci k 3 false) (hl : lay t = some (.inr ci)) (ht : t < N) (hv : v = 0 ∨ v = 1) (kk : V Γ μ d N Nf (sI h t k v) (pc + 3) lv st Q) : V Γ μ d N Nf h pc lv (.int v :: .ref t :: st) Q := by
  refine V.heap (fun p l e Rm s m args below meth c H locs cells slots Z ls cx hP hS hls kk => ?_) kk
  exact gm_put (v := .int v) fl hl ht cx hP hS (gSI_put hl (by intro kd hkd; rw [fl.kd] at hkd; cases hkd; exact ⟨by decide, by decide⟩)) (by rw [fl.ty3]; rcases hv with rfl | rfl <;> rfl) (by rw [fl.ty3]; rcases hv with rfl | rfl <;> rfl) hd kk
theorem V_putL {t k ci idx : Nat} {v : Int64} (hd : decode μ.2.1 pc = .ok (.putfield idx, 3)) (fl : gFld μ.1.cls idx ci k 1 false) (hl : lay t = some (.inr ci)) (ht : t < N) (kk : V Γ μ d N Nf (sL h t k v) (pc + 3) lv st Q) : V Γ μ d N Nf h pc lv (.long v :: .ref t :: st) Q := by
  refine V.heap (fun p l e Rm s m args below meth c H locs cells slots Z ls cx hP hS hls kk => ?_) kk
  exact gm_put (v := .long v) fl hl ht cx hP hS (gSL_put hl (by intro kd hkd; rw [fl.kd] at hkd; cases hkd; rfl)) (by rw [fl.ty1]; rfl) (by rw [fl.ty1]; rfl) hd kk
theorem V_putR {t k ci idx r : Nat} (hd : decode μ.2.1 pc = .ok (.putfield idx, 3)) (fl : gFld μ.1.cls idx ci k 2 false) (hl : lay t = some (.inr ci)) (ht : t < N) (kk : V Γ μ d N Nf (sR h t k (some r)) (pc + 3) lv st Q) : V Γ μ d N Nf h pc lv (.ref r :: .ref t :: st) Q := by
  refine V.heap (fun p l e Rm s m args below meth c H locs cells slots Z ls cx hP hS hls kk => ?_) kk
  exact gm_put (v := .ref (gAl Γ r)) fl hl ht cx hP hS (gSR_put (r := some r) rfl hl (by intro kd hkd; rw [fl.kd] at hkd; cases hkd; rfl)) (by rcases fl.ty2 with ⟨n, e⟩ | ⟨n, e⟩ <;> rw [e] <;> rfl) (by rcases fl.ty2 with ⟨n, e⟩ | ⟨n, e⟩ <;> rw [e] <;> rfl) hd kk
theorem V_putN {t k ci idx : Nat} (hd : decode μ.2.1 pc = .ok (.putfield idx, 3)) (fl : gFld μ.1.cls idx ci k 2 false) (hl : lay t = some (.inr ci)) (ht : t < N) (kk : V Γ μ d N Nf (sR h t k none) (pc + 3) lv st Q) : V Γ μ d N Nf h pc lv (.null :: .ref t :: st) Q := by
  refine V.heap (fun p l e Rm s m args below meth c H locs cells slots Z ls cx hP hS hls kk => ?_) kk
  exact gm_put (v := .null) fl hl ht cx hP hS (gSR_put (r := none) rfl hl (by intro kd hkd; rw [fl.kd] at hkd; cases hkd; rfl)) (by rcases fl.ty2 with ⟨n, e⟩ | ⟨n, e⟩ <;> rw [e] <;> rfl) (by rcases fl.ty2 with ⟨n, e⟩ | ⟨n, e⟩ <;> rw [e] <;> rfl) hd kk
/-- a final field, in its class's own constructor -/
theorem V_putF {t k ci idx r : Nat} (hd : decode μ.2.1 pc = .ok (.putfield idx, 3)) (fl : gFld μ.1.cls idx ci k 2 true) (hi : μ.1.name = "<init>") (ho : gOwn ci = μ.1.cls) (hl : lay t = some (.inr ci)) (ht : t < N) (kk : V Γ μ d N Nf (sR h t k (some r)) (pc + 3) lv st Q) : V Γ μ d N Nf h pc lv (.ref r :: .ref t :: st) Q := by
  refine V.heap (fun p l e Rm s m args below meth c H locs cells slots Z ls cx hP hS hls kk => ?_) kk
  exact gm_putF (v := .ref (gAl Γ r)) fl hi ho hl ht cx hP hS (gSR_put (r := some r) rfl hl (by intro kd hkd; rw [fl.kd] at hkd; cases hkd; rfl)) (by rcases fl.ty2 with ⟨n, e⟩ | ⟨n, e⟩ <;> rw [e] <;> rfl) (by rcases fl.ty2 with ⟨n, e⟩ | ⟨n, e⟩ <;> rw [e] <;> rfl) hd kk
/-! arrays -/
theorem V_iald {t n j : Nat} {v : Int32} (hd : decode μ.2.1 pc = .ok (.iaload, 1)) (hl : lay t = some (.inl (0, n))) (ht : t < N) (hj : j < n) (hv : gI h t j = v) (kk : V Γ μ d N Nf h (pc + 1) lv (.int v :: st) Q) : V Γ μ d N Nf h pc lv (.int (nI j) :: .ref t :: st) Q := by
  refine V.look (fun p l e Rm s m args below meth c H locs cells slots Z ls cx hP hS hls kk => ?_) kk
  have e1 : gI h t (nI j).toNatClampNeg = v := by rw [nI_clamp (lay_j hl hj)]; exact hv
  show W p l e Rm s m args below meth c H locs cells slots Z (F0 m pc ls (.int (nI j) :: .ref (gAl Γ t) :: st.map (gV Γ)))
  rw [gAl_lay hl]
  exact va_iald cx.1 cx.2.1 cx.2.2.2.2.2.2.2.2.2.2.1 hP t 0 ((gWd_get ht).trans (by rw [gEnt_i hl])) rfl (vp_in_nI hj (lay_n hl)) hd (by rw [e1]; exact kk)
theorem V_iast {t n j : Nat} {v : Int32} (hd : decode μ.2.1 pc = .ok (.iastore, 1)) (hl : lay t = some (.inl (0, n))) (ht : t < N) (hj : j < n) (kk : V Γ μ d N Nf (sI h t j v) (pc + 1) lv st Q) : V Γ μ d N Nf h pc lv (.int v :: .int (nI j) :: .ref t :: st) Q := by
  refine V.heap (fun p l e Rm s m args below meth c H locs cells slots Z ls cx hP hS hls kk => ?_) kk
  show W p l e Rm s m args below meth c H locs cells slots Z (F0 m pc ls (.int v :: .int (nI j) :: .ref (gAl Γ t) :: st.map (gV Γ)))
  rw [gAl_lay hl]
  refine va_iast cx.1 cx.2.1 cx.2.2.2.2.2.2.2.2.2.2.1 hP gWd_D hS t 0 ((gWd_get ht).trans (by rw [gEnt_i hl])) rfl (vp_in_nI hj (lay_n hl)) hd (fun H1 locs1 hP1 hD1 hS1 => kk H1 locs1 ?_ hS1)
  rw [nI_clamp (lay_j hl hj), gWd_set (h' := sI h t j v) (by rw [gEnt_i hl]; unfold sI; rw [gI_sIa, if_pos rfl]; rfl) (fun a ha => gEnt_sIa a ha)] at hP1
  exact hP1
theorem V_lald {t n j : Nat} {v : Int64} (hd : decode μ.2.1 pc = .ok (.laload, 1)) (hl : lay t = some (.inl (1, n))) (ht : t < N) (hj : j < n) (hv : gL h t j = v) (kk : V Γ μ d N Nf h (pc + 1) lv (.long v :: st) Q) : V Γ μ d N Nf h pc lv (.int (nI j) :: .ref t :: st) Q := by
  refine V.look (fun p l e Rm s m args below meth c H locs cells slots Z ls cx hP hS hls kk => ?_) kk
  have e1 : gL h t (nI j).toNatClampNeg = v := by rw [nI_clamp (lay_j hl hj)]; exact hv
  show W p l e Rm s m args below meth c H locs cells slots Z (F0 m pc ls (.int (nI j) :: .ref (gAl Γ t) :: st.map (gV Γ)))
  rw [gAl_lay hl]
  exact va_lald cx.1 cx.2.1 cx.2.2.2.2.2.2.2.2.2.2.1 hP t 1 ((gWd_get ht).trans (by rw [gEnt_l hl])) rfl (vp_in_nI hj (lay_n hl)) hd (by rw [e1]; exact kk)
theorem V_last {t n j : Nat} {v : Int64} (hd : decode μ.2.1 pc = .ok (.lastore, 1)) (hl : lay t = some (.inl (1, n))) (ht : t < N) (hj : j < n) (kk : V Γ μ d N Nf (sL h t j v) (pc + 1) lv st Q) : V Γ μ d N Nf h pc lv (.long v :: .int (nI j) :: .ref t :: st) Q := by
  refine V.heap (fun p l e Rm s m args below meth c H locs cells slots Z ls cx hP hS hls kk => ?_) kk
  show W p l e Rm s m args below meth c H locs cells slots Z (F0 m pc ls (.long v :: .int (nI j) :: .ref (gAl Γ t) :: st.map (gV Γ)))
  rw [gAl_lay hl]
  refine va_last cx.1 cx.2.1 cx.2.2.2.2.2.2.2.2.2.2.1 hP gWd_D hS t 1 ((gWd_get ht).trans (by rw [gEnt_l hl])) rfl (vp_in_nI hj (lay_n hl)) hd (fun H1 locs1 hP1 hD1 hS1 => kk H1 locs1 ?_ hS1)
  rw [nI_clamp (lay_j hl hj), gWd_set (h' := sL h t j v) (by rw [gEnt_l hl]; unfold sL; rw [gL_sLa, if_pos rfl]; rfl) (fun a ha => gEnt_sLa a ha)] at hP1
  exact hP1
theorem V_aald {t n j k r : Nat} (hd : decode μ.2.1 pc = .ok (.aaload, 1)) (hl : lay t = some (.inl (k + 2, n))) (hk : k < 2) (ht : t < N) (hj : j < n) (hv : gR h t j = some r) (kk : V Γ μ d N Nf h (pc + 1) lv (.ref r :: st) Q) : V Γ μ d N Nf h pc lv (.int (nI j) :: .ref t :: st) Q := by
  refine V.look (fun p l e Rm s m args below meth c H locs cells slots Z ls cx hP hS hls kk => ?_) kk
  show W p l e Rm s m args below meth c H locs cells slots Z (F0 m pc ls (.int (nI j) :: .ref (gAl Γ t) :: st.map (gV Γ)))
  rw [gAl_lay hl]
  have hkk : W p l e Rm s m args below meth c H locs cells slots Z (F0 m (pc + 1) ls (va_rf ((fun j => (gR h t j).map (gAl Γ)) (nI j).toNatClampNeg) :: st.map (gV Γ))) := by
    rw [nI_clamp (lay_j hl hj)]
    show W p l e Rm s m args below meth c H locs cells slots Z (F0 m (pc + 1) ls (va_rf ((gR h t j).map (gAl Γ)) :: st.map (gV Γ)))
    rw [hv]
    exact kk
  match k, hk, hl with
  | 0, _, hl => exact va_aldq cx.1 cx.2.1 cx.2.2.2.2.2.2.2.2.2.2.1 hP t 2 ((gWd_get ht).trans (by rw [gEnt_r hl])) rfl (vp_in_nI hj (lay_n hl)) hd hkk
  | 1, _, hl => exact va_aldq cx.1 cx.2.1 cx.2.2.2.2.2.2.2.2.2.2.1 hP t 3 ((gWd_get ht).trans (by rw [gEnt_r hl])) rfl (vp_in_nI hj (lay_n hl)) hd hkk
theorem V_aleni {t n : Nat} (hd : decode μ.2.1 pc = .ok (.arraylength, 1)) (hl : lay t = some (.inl (0, n))) (ht : t < N) (kk : V Γ μ d N Nf h (pc + 1) lv (.int (nI n) :: st) Q) : V Γ μ d N Nf h pc lv (.ref t :: st) Q := by
  refine V.look (fun p l e Rm s m args below meth c H locs cells slots Z ls cx hP hS hls kk => ?_) kk
  show W p l e Rm s m args below meth c H locs cells slots Z (F0 m pc ls (.ref (gAl Γ t) :: st.map (gV Γ)))
  rw [gAl_lay hl]
  exact va_alen cx.1 cx.2.1 cx.2.2.2.2.2.2.2.2.2.2.1 hP t 0 (x := (n, .inl (gI h t))) ((gWd_get ht).trans (by rw [gEnt_i hl])) (ty := .int) rfl rfl hd kk
theorem V_alenl {t n : Nat} (hd : decode μ.2.1 pc = .ok (.arraylength, 1)) (hl : lay t = some (.inl (1, n))) (ht : t < N) (kk : V Γ μ d N Nf h (pc + 1) lv (.int (nI n) :: st) Q) : V Γ μ d N Nf h pc lv (.ref t :: st) Q := by
  refine V.look (fun p l e Rm s m args below meth c H locs cells slots Z ls cx hP hS hls kk => ?_) kk
  show W p l e Rm s m args below meth c H locs cells slots Z (F0 m pc ls (.ref (gAl Γ t) :: st.map (gV Γ)))
  rw [gAl_lay hl]
  exact va_alen cx.1 cx.2.1 cx.2.2.2.2.2.2.2.2.2.2.1 hP t 1 (x := (n, .inr (.inl (gL h t)))) ((gWd_get ht).trans (by rw [gEnt_l hl])) (ty := .long) rfl rfl hd kk

end VL
