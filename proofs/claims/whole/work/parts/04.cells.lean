/-! ===== new cells, rows copied, texts, the script ===== -/
/-- cells that are not yet made hold nothing -/
def gZ (N : Nat) (h : gH) : Prop := ∀ t, N ≤ t → (∀ k, gI h t k = 0) ∧ (∀ k, gL h t k = 0) ∧ ∀ k, gR h t k = none
theorem gZ.mono {N N' : Nat} {h : gH} (z : gZ N h) (hN : N ≤ N') : gZ N' h := fun t ht => z t (Nat.le_trans hN ht)
theorem gZ.sI {N t k : Nat} {h : gH} {v : Int32} (z : gZ N h) (ht : t < N) : gZ N (sI h t k v) := fun a ha => ⟨fun b => by rw [gI_sI, if_neg (by omega)]; exact (z a ha).1 b, fun b => (z a ha).2.1 b, fun b => (z a ha).2.2 b⟩
theorem gZ.sIa {N t : Nat} {h : gH} {f : Nat → Int32} (z : gZ N h) (ht : t < N) : gZ N (sIa h t f) := fun a ha => ⟨fun b => by rw [gI_sIa, if_neg (by omega)]; exact (z a ha).1 b, fun b => (z a ha).2.1 b, fun b => (z a ha).2.2 b⟩
theorem gZ.sR {N t k : Nat} {h : gH} {v : Option Nat} (z : gZ N h) (ht : t < N) : gZ N (sR h t k v) := fun a ha => ⟨fun b => (z a ha).1 b, fun b => (z a ha).2.1 b, fun b => by rw [gR_sR, if_neg (by omega)]; exact (z a ha).2.2 b⟩
section VN
variable {Γ : gM} {μ : gMD} {d N Nf pc idx : Nat} {h : gH} {lv : List (Option Value)} {st : List Value} {Q : Option Value → gH → Prop}
theorem V_new {ci n : Nat} {C : String} {T : u_T} (hd : decode μ.2.1 pc = .ok (.new idx, 3)) (hc : gCl[ci]? = some (C, T, n)) (hw : Cond.classLink μ.1.cls idx C ∈ gTbl ∧ Cond.instantiable C n ∈ gTbl ∧ Cond.initialized C ∈ gTbl) (hl : lay N = some (.inr ci)) (hN : N < Nf) (z : gZ N h) (kk : V Γ μ d (N + 1) Nf h (pc + 3) lv (.ref N :: st) Q) : V Γ μ d N Nf h pc lv st Q := by
  intro p l e Rm s m args below meth c H locs cells slots cf sf Z ls cx gs rt T0 hT X
  have hK := cx.2.2.2.2.2.2.2.2.2.2
  have hsz := gm_size gs hK hT X
  have hts := cx.2.2.2.2.1
  obtain ⟨k1, k2, k3, k4, k5⟩ := gCl_ok hc
  obtain ⟨hP, hS, g3, g4, g5, g6, g7, g8, g9, g10⟩ := gs
  have hsum := gSum_succ hl
  have hmono := gSum_mono (show N + 1 ≤ Nf from hN)
  have hgz : gSz (.inr ci) = n := k4
  rw [hgz] at hsum
  have hKn := hK.1.1 ci _ hc
  refine W.newcK (g := F0 m pc ls (st.map (gV Γ))) cx.1 cx.2.1 cx.2.2.2.1 (hts _ hw.1) (hts _ hw.2.1) (hts _ hw.2.2) rfl hd (by omega) (by omega) hKn.2.1 hsz (fun H1 kC hkC e1 z1 o1 => ?_) T0 hT X
  have hP1 : va_P (gD Γ) gCl (gWd Γ (N + 1) h) H1 := by
    rw [gWd_succ]
    refine (hP.kept (fun k x hx => o1 x.1 ?_)).app (fun k x hx => ?_)
    · rw [← hsz]
      exact (hP k x hx).lt
    · have hz : k < 1 := (List.getElem?_eq_some_iff.mp hx).1
      rw [show k = 0 by omega] at hx
      cases hx
      rw [gEnt_o hl]
      refine ⟨_, hc, (u_born (gTy ci) hts k1 hKn hkC e1 k2).to (fun j hj => ?_)⟩
      obtain ⟨kd, hkd⟩ : ∃ kd, (fk ci)[j]? = some kd := ⟨_, List.getElem?_eq_getElem (by rw [k4]; exact hj)⟩
      have h5 := k5 j hj
      rw [List.getD_eq_getElem?_getD, hkd] at h5
      have h6 : vp_V (gFs Γ h N ci) j = gFv Γ h N j kd := by
        unfold vp_V
        rw [List.getD_eq_getElem?_getD, gFs_get hkd]
        rfl
      rw [h6]
      unfold gFv
      rw [(z N (Nat.le_refl _)).1 j, (z N (Nat.le_refl _)).2.1 j, (z N (Nat.le_refl _)).2.2 j]
      simp only [Option.getD_some] at h5
      revert h5
      cases gTy ci j <;> (intro h5; match kd, h5 with
        | 0, h5 => first | rfl | (simp [gTk] at h5)
        | 1, h5 => first | rfl | (simp [gTk] at h5)
        | 2, h5 => first | rfl | (simp [gTk] at h5)
        | 3, h5 => first | rfl | (simp [gTk] at h5)
        | _ + 4, h5 => simp [gTk] at h5)
  have hS1 : va_S (gA Γ) s.heap H1 locs := ⟨Nat.le_trans hS.1 (by omega), fun x h1 h2 => (o1 x (by rw [← hsz]; exact Nat.lt_of_lt_of_le h1 hS.1)).trans (hS.2.1 x h1 h2), hS.2.2⟩
  have w := kk p l e Rm s m args below meth c H1 locs (cells + 1) (slots + n) cf sf Z ls cx ⟨hP1, hS1, g3, by omega, hN, g6, by omega, by omega, g9, g10⟩ rt
  have ea : gAl Γ N = gB Γ + N := gAl_lay hl
  rw [← ea]
  exact w
theorem gm_newarr {N : Nat} {h : gH} {x : va_E} {H H1 : Heap} {s : State} {locs : List Loc} (hsz : H.size = gB Γ + N) (hP : va_P (gD Γ) gCl (gWd Γ N h) H) (hS : va_S (gA Γ) s.heap H locs) (hx : va_at (gD Γ) gCl (gB Γ + N, x) H1) (he : gEnt Γ h N = x) (z1 : H1.size = gB Γ + N + 1) (o1 : ∀ q, q < gB Γ + N → H1[q]? = H[q]?) : va_P (gD Γ) gCl (gWd Γ (N + 1) h) H1 ∧ va_S (gA Γ) s.heap H1 locs := by
  refine ⟨?_, ⟨Nat.le_trans hS.1 (by omega), fun x h1 h2 => (o1 x (by rw [← hsz]; exact Nat.lt_of_lt_of_le h1 hS.1)).trans (hS.2.1 x h1 h2), hS.2.2⟩⟩
  rw [gWd_succ]
  refine (hP.kept (fun k x hx => o1 x.1 ?_)).app (fun k x hx => ?_)
  · rw [← hsz]
    exact (hP k x hx).lt
  · have hz : k < 1 := (List.getElem?_eq_some_iff.mp hx).1
    rw [show k = 0 by omega] at hx
    cases hx
    rw [he]
    assumption
theorem V_newI {n : Nat} (hd : decode μ.2.1 pc = .ok (.newarray .int, 2)) (hw : Cond.arrayClass .int ∈ gTbl) (hl : lay N = some (.inl (0, n))) (hN : N < Nf) (z : gZ N h) (kk : V Γ μ d (N + 1) Nf h (pc + 2) lv (.ref N :: st) Q) : V Γ μ d N Nf h pc lv (.int (nI n) :: st) Q := by
  intro p l e Rm s m args below meth c H locs cells slots cf sf Z ls cx gs rt T0 hT X
  have hK := cx.2.2.2.2.2.2.2.2.2.2
  have hsz := gm_size gs hK hT X
  have hts := cx.2.2.2.2.1
  obtain ⟨hP, hS, g3, g4, g5, g6, g7, g8, g9, g10⟩ := gs
  have hsum := gSum_succ hl
  have hmono := gSum_mono (show N + 1 ≤ Nf from hN)
  have hgz : gSz (.inl (0, n)) = n := rfl
  rw [hgz] at hsum
  have hn2 := lay_n hl
  have hn3 : n < 1000 := by
    have h1 := List.all_eq_true.mp gLay_small _ (List.mem_of_getElem? hl)
    simpa using h1
  refine va_newaK (atype := .int) (g := F0 m pc ls (.int (nI n) :: st.map (gV Γ))) cx.1 cx.2.1 (hts _ hw) rfl hd rfl (nI_pos hn2) (nI_clamp hn2) (by show n * 4 ≤ 536870912; omega) (by omega) (by omega) hsz (fun H1 cA e1 z1 o1 hAr hNm => ?_) T0 hT X
  have hcA : cA = gCy Γ 0 := Option.some.inj (hNm.symm.trans (hK.1.2 0 _ rfl).2)
  subst hcA
  obtain ⟨hP1, hS1⟩ := gm_newarr hsz hP hS (x := .inl (gCy Γ 0, n, .inl (gI h N))) (by
    show H1[gB Γ + N]? = some (arrV (gCy Γ 0) n (fun j => .int (gI h N j)))
    rw [e1]
    congr 2
    funext j
    rw [(z N (Nat.le_refl _)).1 j]
    rfl) (gEnt_i hl) z1 o1
  have w := kk p l e Rm s m args below meth c H1 locs (cells + 1) (slots + n) cf sf Z ls cx ⟨hP1, hS1, g3, by omega, hN, g6, by omega, by omega, g9, g10⟩ rt
  have ea : gAl Γ N = gB Γ + N := gAl_lay hl
  rw [← ea]
  exact w
theorem V_newL {n : Nat} (hd : decode μ.2.1 pc = .ok (.newarray .long, 2)) (hw : Cond.arrayClass .long ∈ gTbl) (hl : lay N = some (.inl (1, n))) (hN : N < Nf) (z : gZ N h) (kk : V Γ μ d (N + 1) Nf h (pc + 2) lv (.ref N :: st) Q) : V Γ μ d N Nf h pc lv (.int (nI n) :: st) Q := by
  intro p l e Rm s m args below meth c H locs cells slots cf sf Z ls cx gs rt T0 hT X
  have hK := cx.2.2.2.2.2.2.2.2.2.2
  have hsz := gm_size gs hK hT X
  have hts := cx.2.2.2.2.1
  obtain ⟨hP, hS, g3, g4, g5, g6, g7, g8, g9, g10⟩ := gs
  have hsum := gSum_succ hl
  have hmono := gSum_mono (show N + 1 ≤ Nf from hN)
  have hgz : gSz (.inl (1, n)) = n := rfl
  rw [hgz] at hsum
  have hn2 := lay_n hl
  have hn3 : n < 1000 := by
    have h1 := List.all_eq_true.mp gLay_small _ (List.mem_of_getElem? hl)
    simpa using h1
  refine va_newaK (atype := .long) (g := F0 m pc ls (.int (nI n) :: st.map (gV Γ))) cx.1 cx.2.1 (hts _ hw) rfl hd rfl (nI_pos hn2) (nI_clamp hn2) (by show n * 8 ≤ 536870912; omega) (by omega) (by omega) hsz (fun H1 cA e1 z1 o1 hAr hNm => ?_) T0 hT X
  have hcA : cA = gCy Γ 1 := Option.some.inj (hNm.symm.trans (hK.1.2 1 _ rfl).2)
  subst hcA
  obtain ⟨hP1, hS1⟩ := gm_newarr hsz hP hS (x := .inl (gCy Γ 1, n, .inr (.inl (gL h N)))) (by
    show H1[gB Γ + N]? = some (arrV (gCy Γ 1) n (fun j => .long (gL h N j)))
    rw [e1]
    congr 2
    funext j
    rw [(z N (Nat.le_refl _)).2.1 j]
    rfl) (gEnt_l hl) z1 o1
  have w := kk p l e Rm s m args below meth c H1 locs (cells + 1) (slots + n) cf sf Z ls cx ⟨hP1, hS1, g3, by omega, hN, g6, by omega, by omega, g9, g10⟩ rt
  have ea : gAl Γ N = gB Γ + N := gAl_lay hl
  rw [← ea]
  exact w
def gRc (k : Nat) : String := if k = 0 then "RaisedTableaux$Thing" else "RaisedTableaux$Sheet"
theorem V_newR {n k : Nat} (hd : decode μ.2.1 pc = .ok (.anewarray idx, 3)) (hw : Cond.classLink μ.1.cls idx (gRc k) ∈ gTbl) (hk : k < 2) (hl : lay N = some (.inl (k + 2, n))) (hN : N < Nf) (z : gZ N h) (kk : V Γ μ d (N + 1) Nf h (pc + 3) lv (.ref N :: st) Q) : V Γ μ d N Nf h pc lv (.int (nI n) :: st) Q := by
  intro p l e Rm s m args below meth c H locs cells slots cf sf Z ls cx gs rt T0 hT X
  have hK := cx.2.2.2.2.2.2.2.2.2.2
  have hsz := gm_size gs hK hT X
  have hts := cx.2.2.2.2.1
  obtain ⟨hP, hS, g3, g4, g5, g6, g7, g8, g9, g10⟩ := gs
  have hsum := gSum_succ hl
  have hmono := gSum_mono (show N + 1 ≤ Nf from hN)
  have hgz : gSz (.inl (k + 2, n)) = n := rfl
  rw [hgz] at hsum
  have hn2 := lay_n hl
  have hn3 : n < 1000 := by
    have h1 := List.all_eq_true.mp gLay_small _ (List.mem_of_getElem? hl)
    simpa using h1
  have hAO : va_AO (gRc k) s := by
    match k, hk with
    | 0, _ => exact hK.2.2.1
    | 1, _ => exact hK.2.2.2.1
  have hcy : s.vm.findClass ("[" ++ (FieldType.object (gRc k)).toString) = some (gCy Γ (k + 2)) := by
    match k, hk with
    | 0, _ => obtain ⟨kA, comp, a1, a2, a3, a4⟩ := (hK.1.2 2 _ rfl).2; exact a4
    | 1, _ => obtain ⟨kA, comp, a1, a2, a3, a4⟩ := (hK.1.2 3 _ rfl).2; exact a4
  refine W.anew (g := F0 m pc ls (.int (nI n) :: st.map (gV Γ))) cx.1 cx.2.1 cx.2.2.2.1 (hts _ hw) (va_AO.use hAO) rfl hd rfl (nI_pos hn2) (by rw [nI_clamp hn2]; omega) (by omega) (by rw [nI_clamp hn2]; omega) (fun cA kA comp f1 f2 f3 f4 => ?_) T0 hT X
  have hcA : cA = gCy Γ (k + 2) := Option.some.inj (f1.symm.trans hcy)
  subst hcA
  rw [nI_clamp hn2]
  generalize hH1 : H.push ({ cls := gCy Γ (k + 2), slots := Array.replicate n .null, vm := .none } : Cell) = H1
  have z1 : H1.size = gB Γ + N + 1 := by rw [← hH1, Array.size_push, hsz]
  have e1 : H1[gB Γ + N]? = some (arrV (gCy Γ (k + 2)) n (fun _ => .null)) := by rw [← hsz, ← hH1, Array.getElem?_push_size, ← arrV_new]
  have o1 : ∀ q : Nat, q < gB Γ + N → H1[q]? = H[q]? := fun q hq => by rw [← hH1, Array.getElem?_push, if_neg (by rw [hsz]; exact Nat.ne_of_lt hq)]
  obtain ⟨hP1, hS1⟩ := gm_newarr hsz hP hS (x := .inl (gCy Γ (k + 2), n, .inr (.inr (.inr (.inr (fun j => (gR h N j).map (gAl Γ))))))) (by
    show H1[gB Γ + N]? = some (arrV (gCy Γ (k + 2)) n (fun j => va_rf ((gR h N j).map (gAl Γ))))
    rw [e1]
    congr 2
    funext j
    rw [(z N (Nat.le_refl _)).2.2 j]
    rfl) (gEnt_r hl) z1 o1
  have w := kk p l e Rm s m args below meth c H1 locs (cells + 1) (slots + n) cf sf Z ls cx ⟨hP1, hS1, g3, by omega, hN, g6, by omega, by omega, g9, g10⟩ rt
  have ea : gAl Γ N = H.size := by rw [hsz]; exact gAl_lay hl
  rw [← ea]
  exact w
theorem V_aast {t n j k r ci : Nat} (hd : decode μ.2.1 pc = .ok (.aastore, 1)) (hl : lay t = some (.inl (k + 2, n))) (hk : k < 2) (ht : t < N) (hj : j < n) (hr : lay r = some (.inr ci)) (hrN : r < N) (hC : gOwn ci = gRc k) (kk : V Γ μ d N Nf (sR h t j (some r)) (pc + 1) lv st Q) : V Γ μ d N Nf h pc lv (.ref r :: .int (nI j) :: .ref t :: st) Q := by
  refine V.heap (fun p l e Rm s m args below meth c H locs cells slots Z ls cx hP hS hls kk => ?_) kk
  show W p l e Rm s m args below meth c H locs cells slots Z (F0 m pc ls (.ref (gAl Γ r) :: .int (nI j) :: .ref (gAl Γ t) :: st.map (gV Γ)))
  obtain ⟨q, hq⟩ : ∃ q, gCl[ci]? = some q := by
    obtain ⟨q, hq, -⟩ := hP r _ ((gWd_get hrN).trans (by rw [gEnt_o hr]))
    exact ⟨q, hq⟩
  have hq1 : q.1 = gRc k := by
    unfold gOwn at hC
    rw [hq] at hC
    exact hC
  have hset : (gWd Γ N h).set t (gB Γ + t, .inl (gCy Γ (k + 2), n, .inr (.inr (.inr (.inr (va_up (fun j => (gR h t j).map (gAl Γ)) j (some (gB Γ + r)))))))) = gWd Γ N (sR h t j (some r)) := by
    refine gWd_set ?_ (fun a ha => gEnt_sRa a ha)
    rw [gEnt_r hl]
    congr 7
    funext i
    unfold va_up
    show _ = (gR (sR h t j (some r)) t i).map (gAl Γ)
    rw [gR_sR]
    by_cases hi : i = j
    · rw [if_pos hi, if_pos ⟨rfl, hi⟩]
      show _ = some (gAl Γ r)
      rw [gAl_lay hr]
    · rw [if_neg hi, if_neg (fun q => hi q.2)]
  rw [gAl_lay hl, gAl_lay hr]
  have hty : (gTys Γ)[k + 2]? = some (gCy Γ (k + 2), .object q.1) := by
    rw [hq1]
    match k, hk with
    | 0, _ => rfl
    | 1, _ => rfl
  refine va_astq cx.1 cx.2.1 cx.2.2.2.2.2.2.2.2.2.2.1 hP gWd_D hS t (k + 2) r ci ((gWd_get ht).trans (by rw [gEnt_r hl])) hty ((gWd_get hrN).trans (by rw [gEnt_o hr])) hq (vp_in_nI hj (lay_n hl)) hd (fun H1 locs1 hP1 hD1 hS1 => kk H1 locs1 ?_ hS1)
  rw [← hset]
  rw [nI_clamp (lay_j hl hj)] at hP1
  exact hP1
def gLkA (own : String) (idx : Nat) : Prop := Cond.methodLink own idx arraycopyName ∈ gTbl ∧ Cond.native arraycopyName ∈ gTbl ∧ Cond.static arraycopyName ∈ gTbl ∧ Cond.initialized "java/lang/System" ∈ gTbl
theorem gm_nfw : nativeFrameWords "java/lang/System" "arraycopy" 5 + 11 ≤ 48 := by decide +kernel
/-- System.arraycopy of ints -/
theorem V_copyI {a b na nb sp dp n : Nat} (hd : decode μ.2.1 pc = .ok (.invokestatic idx, 3)) (lk : gLkA μ.1.cls idx) (hla : lay a = some (.inl (0, na))) (hlb : lay b = some (.inl (0, nb))) (ha : a < N) (hb : b < N) (h4 : sp + n ≤ na) (h5 : dp + n ≤ nb) (hst : (st.map fun v => v.category).sum ≤ 8) (hd0 : 0 < d) (kk : V Γ μ d N Nf (sIa h b (va_cpy (gI h a) (gI h b) sp dp n)) (pc + 3) lv st Q) : V Γ μ d N Nf h pc lv (.int (nI n) :: .int (nI dp) :: .ref b :: .int (nI sp) :: .ref a :: st) Q := by
  refine V.heap (fun p l e Rm s m args below meth c H locs cells slots Z ls cx hP hS hls kk => ?_) kk
  show W p l e Rm s m args below meth c H locs cells slots Z (F0 m pc ls (.int (nI n) :: .int (nI dp) :: .ref (gAl Γ b) :: .int (nI sp) :: .ref (gAl Γ a) :: st.map (gV Γ)))
  have hts := cx.2.2.2.2.1
  have e1 := cx.2.2.2.2.2.2.2.2.1
  have e2 := cx.2.2.2.2.2.2.2.2.2.1
  have hna := lay_n hla
  have hnb := lay_n hlb
  have c1 : (nI n).toNatClampNeg = n := nI_clamp (by omega)
  have c2 : (nI sp).toNatClampNeg = sp := nI_clamp (by omega)
  have c3 : (nI dp).toNatClampNeg = dp := nI_clamp (by omega)
  rw [gAl_lay hla, gAl_lay hlb]
  have hnf := gm_nfw
  have hst2 : ((st.map (gV Γ)).map fun v => v.category).sum ≤ 8 := by rw [gCat_map]; exact hst
  refine va_copyi (ty := .int) cx.1 cx.2.1 (cx.2.2.1.trans hls.symm) cx.2.2.2.1 (hts _ lk.1) (hts _ lk.2.1) (hts _ lk.2.2.1) (hts _ lk.2.2.2) cx.2.2.2.2.2.2.2.2.2.2.1 hP gWd_D hS a b 0 0 ((gWd_get ha).trans (by rw [gEnt_i hla])) ((gWd_get hb).trans (by rw [gEnt_i hlb])) rfl rfl rfl (nI_pos (by omega)) (nI_pos (by omega)) (nI_pos (by omega)) (by rw [c1, c2]; exact h4) (by rw [c1, c3]; exact h5) (fun i _ => rfl) (by omega) (by omega) hd (fun H1 locs1 hP1 hD1 hS1 => kk H1 locs1 ?_ hS1)
  rw [c1, c2, c3, gWd_set (h' := sIa h b (va_cpy (gI h a) (gI h b) sp dp n)) (by rw [gEnt_i hlb, gI_sIa, if_pos rfl]) (fun a ha => gEnt_sIa a ha)] at hP1
  exact hP1
theorem V_copyL {a b na nb sp dp n : Nat} (hd : decode μ.2.1 pc = .ok (.invokestatic idx, 3)) (lk : gLkA μ.1.cls idx) (hla : lay a = some (.inl (1, na))) (hlb : lay b = some (.inl (1, nb))) (ha : a < N) (hb : b < N) (h4 : sp + n ≤ na) (h5 : dp + n ≤ nb) (hst : (st.map fun v => v.category).sum ≤ 8) (hd0 : 0 < d) (kk : V Γ μ d N Nf (sLa h b (va_cpy (gL h a) (gL h b) sp dp n)) (pc + 3) lv st Q) : V Γ μ d N Nf h pc lv (.int (nI n) :: .int (nI dp) :: .ref b :: .int (nI sp) :: .ref a :: st) Q := by
  refine V.heap (fun p l e Rm s m args below meth c H locs cells slots Z ls cx hP hS hls kk => ?_) kk
  show W p l e Rm s m args below meth c H locs cells slots Z (F0 m pc ls (.int (nI n) :: .int (nI dp) :: .ref (gAl Γ b) :: .int (nI sp) :: .ref (gAl Γ a) :: st.map (gV Γ)))
  have hts := cx.2.2.2.2.1
  have e1 := cx.2.2.2.2.2.2.2.2.1
  have e2 := cx.2.2.2.2.2.2.2.2.2.1
  have hna := lay_n hla
  have hnb := lay_n hlb
  have c1 : (nI n).toNatClampNeg = n := nI_clamp (by omega)
  have c2 : (nI sp).toNatClampNeg = sp := nI_clamp (by omega)
  have c3 : (nI dp).toNatClampNeg = dp := nI_clamp (by omega)
  rw [gAl_lay hla, gAl_lay hlb]
  have hnf := gm_nfw
  have hst2 : ((st.map (gV Γ)).map fun v => v.category).sum ≤ 8 := by rw [gCat_map]; exact hst
  refine va_copyl (ty := .long) cx.1 cx.2.1 (cx.2.2.1.trans hls.symm) cx.2.2.2.1 (hts _ lk.1) (hts _ lk.2.1) (hts _ lk.2.2.1) (hts _ lk.2.2.2) cx.2.2.2.2.2.2.2.2.2.2.1 hP gWd_D hS a b 1 1 ((gWd_get ha).trans (by rw [gEnt_l hla])) ((gWd_get hb).trans (by rw [gEnt_l hlb])) rfl rfl rfl (nI_pos (by omega)) (nI_pos (by omega)) (nI_pos (by omega)) (by rw [c1, c2]; exact h4) (by rw [c1, c3]; exact h5) (fun i _ => rfl) (by omega) (by omega) hd (fun H1 locs1 hP1 hD1 hS1 => kk H1 locs1 ?_ hS1)
  rw [c1, c2, c3, gWd_set (h' := sLa h b (va_cpy (gL h a) (gL h b) sp dp n)) (by rw [gEnt_l hlb, gL_sLa, if_pos rfl]) (fun a ha => gEnt_sLa a ha)] at hP1
  exact hP1
/-! the script -/
theorem V_sld {j : Nat} (hd : decode μ.2.1 pc = .ok (.iaload, 1)) (hj : j < Γ.2.2.2.1.2.1) (kk : V Γ μ d N Nf h (pc + 1) lv (.int (Γ.2.2.2.1.2.2 j) :: st) Q) : V Γ μ d N Nf h pc lv (.int (nI j) :: .ref 1000 :: st) Q := by
  refine V.look (fun p l e Rm s m args below meth c H locs cells slots Z ls cx hP hS hls kk => ?_) kk
  have hK := cx.2.2.2.2.2.2.2.2.2.2
  obtain ⟨hX, hb, hL⟩ := hK.2.2.2.2.2.2.1
  show W p l e Rm s m args below meth c H locs cells slots Z (F0 m pc ls (.int (nI j) :: .ref (Γ.2.2.2.1.1) :: st.map (gV Γ)))
  have hbl := Nat.lt_of_lt_of_le hb hK.2.2.2.2.2.2.2.2.2
  refine va_sld cx.1 cx.2.1 hX hbl (by show ¬ gB Γ ≤ _; omega) hS (vp_in_nI hj (by omega)) hd ?_
  rw [nI_clamp (by omega)]
  exact kk
theorem V_slen (hd : decode μ.2.1 pc = .ok (.arraylength, 1)) (kk : V Γ μ d N Nf h (pc + 1) lv (.int (nI (Γ.2.2.2.1.2.1)) :: st) Q) : V Γ μ d N Nf h pc lv (.ref 1000 :: st) Q := by
  refine V.look (fun p l e Rm s m args below meth c H locs cells slots Z ls cx hP hS hls kk => ?_) kk
  have hK := cx.2.2.2.2.2.2.2.2.2.2
  obtain ⟨hX, hb, hL⟩ := hK.2.2.2.2.2.2.1
  show W p l e Rm s m args below meth c H locs cells slots Z (F0 m pc ls (.ref (Γ.2.2.2.1.1) :: st.map (gV Γ)))
  have hbl := Nat.lt_of_lt_of_le hb hK.2.2.2.2.2.2.2.2.2
  exact va_slen cx.1 cx.2.1 hX hbl (by show ¬ gB Γ ≤ _; omega) hS hd kk
end VN
