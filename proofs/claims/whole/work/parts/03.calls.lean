/-! ===== calls ===== -/
def gOkM (μ : gMD) (n : Nat) : Prop := plainName μ.1.cls = true ∧ (μ.1.cls ≠ "java/lang/invoke/MethodHandle" ∧ μ.1.cls ≠ "java/lang/invoke/VarHandle" ∧ (parseMethodDescriptor μ.1.desc).map (fun d => d.parameters.length) = some n) ∧ μ.2.2.1 ≤ 45 ∧ Cond.code μ.1 μ.2.1 μ.2.2.1 μ.2.2.2 ∈ gTbl ∧ Cond.initialized μ.1.cls ∈ gTbl
def gWs (μ : gMD) : List Cond := .code μ.1 μ.2.1 μ.2.2.1 μ.2.2.2 :: gTbl
def gRm (d N Nf : Nat) : Room := { frames := d, cells := Nf - N, slots := gSum Nf - gSum N, locals := 64 * d }
theorem gTbl_good {w : Cond} (hw : w ∈ gTbl) : (w.onTables && w.keeps) = true ∨ ∃ ty, w = .arrayClass ty := good_of_word (List.mem_filter.mp hw).2
theorem gWs_in {μ : gMD} {n : Nat} (ok : gOkM μ n) : GoodIn gTbl (gWs μ) := fun w hw => by
  rcases List.mem_cons.mp hw with rfl | hw
  · exact ⟨ok.2.2.2.1, gTbl_good ok.2.2.2.1⟩
  · exact ⟨hw, gTbl_good hw⟩
theorem gArg_len {Γ : gM} : ∀ as : List Value, (lg_sl (as.map (gV Γ))).length = (gArg as).length
  | [] => rfl
  | v :: r => by
    have ih := gArg_len (Γ := Γ) r
    unfold lg_sl at ih ⊢
    rw [List.map_cons, List.flatMap_cons, List.length_append, ih, gV_cat]
    by_cases h2 : v.category = 2
    · rw [gArg, if_pos h2, if_pos h2]
      simp; omega
    · rw [gArg, if_neg h2, if_neg h2]
      simp; omega
abbrev gQa (Γ : gM) (Nf : Nat) (Q : Option Value → gH → Prop) (st : State) (o : Outcome) (t : State) : Prop := ∃ (r : Option Value) (h' : gH), o = .returned (r.map (gV Γ)) ∧ Q r h' ∧ va_P (gD Γ) gCl (gWd Γ Nf h') t.heap ∧ va_F (gA Γ) st t
theorem gm_met {Γ : gM} {μ : gMD} {d N Nf n : Nat} {h : gH} {as : List Value} {Q : Option Value → gH → Prop} (l : Launch) (ok : gOkM μ n) (hlen : (gArg as).length ≤ μ.2.2.1) (hN : N ≤ Nf) (hNf : Nf ≤ 124) {H : Heap} (hP : va_P (gD Γ) gCl (gWd Γ N h) H) (hsz : H.size = gB Γ + N) (kc : V Γ μ d N Nf h 0 (gArgs μ.2.2.1 as) [] Q) :
    Met l μ.1 (gWs μ) (gRm d N Nf) (va_Pc (as.map (gV Γ)) (fun U => U.heap = H ∧ gKn Γ U)) (fun _ st o t => gQa Γ Nf Q st o t) (Nf - N) (gSum Nf - gSum N) (gA Γ) := by
  refine Met.ofW (cc := μ.2.1) (maxL := μ.2.2.1) (ret := μ.2.2.2) ok.1 rfl ?_
  intro p e s m args below meth c s₁ B hml hv
  obtain ⟨rfl, hH, hK⟩ := hv
  have hts : ∀ w ∈ gWs μ, w.before (as.map (gV Γ)).toArray s = true := atoms_spec (ws := gWs μ) B.pre
  have hown : s.vm.findClass μ.1.cls = some m.cls := findClass_of_methodNamed B.named
  have hl := lv_entry (as.map (gV Γ)) (n := μ.2.2.1) (by rw [gArg_len]; exact hlen)
  rw [lg_entry_eq]
  have hcx : gCx Γ μ d p (gRm d N Nf) s m (as.map (gV Γ)).toArray meth c := ⟨B.exec, B.bytes, hml, hown, fun w hw => hts w (List.mem_cons_of_mem _ hw), B.returns, (name_of_methodNamed B.named B.method).1, B.notSynchronized, Nat.le_refl _, Nat.le_refl _, hK⟩
  refine kc p l e (gRm d N Nf) s m _ below meth c s.heap [] 0 0 (Nf - N) (gSum Nf - gSum N) _ _ hcx ⟨by rw [hH]; exact hP, va_S.rf, ?_, by rw [hH, hsz]; rfl, hN, hNf, by omega, by omega, Nat.le_refl _, Nat.le_refl _⟩ ?_
  · unfold gArgs
    rw [gLv_arg]
    exact hl
  · intro r h' H' locs' pc' ls' hq hP' hS' hr
    have hfree : ∀ q ∈ locs', gA Γ q.base := fun q hq => hS'.2.2 q hq
    match r, hr, hq with
    | none, hr, hq => exact W.vret B.exec B.bytes (B.returns.trans hr.2) (fun t ht hw => ⟨none, h', rfl, hq, by rw [ht]; exact hP', hS'.F ht⟩) hfree hr.1
    | some (.int v), hr, hq =>
      obtain ⟨r1, ty, r2, r3⟩ := hr
      exact W.zret B.exec B.bytes (B.returns.trans r2) r3 (fun t ht hw => ⟨some (.int v), h', rfl, hq, by rw [ht]; exact hP', hS'.F ht⟩) hfree r1
    | some (.long v), hr, hq => exact W.lret B.exec B.bytes (B.returns.trans hr.2) (fun t ht hw => ⟨some (.long v), h', rfl, hq, by rw [ht]; exact hP', hS'.F ht⟩) hfree hr.1
    | some (.ref v), hr, hq =>
      obtain ⟨r1, n', r2⟩ := hr
      exact W.aret (v := .ref (gAl Γ v)) B.exec B.bytes (B.returns.trans r2) (Or.inl ⟨n', rfl⟩) (Or.inr ⟨_, rfl⟩) (fun t ht hw => ⟨some (.ref v), h', rfl, hq, by rw [ht]; exact hP', hS'.F ht⟩) hfree r1
    | some .null, hr, hq => exact hr.elim
    | some (.float _), hr, hq => exact hr.elim
    | some (.double _), hr, hq => exact hr.elim
def gPush (r : Option Value) (st : List Value) : List Value := match r with
  | none => st
  | some v => v :: st
theorem gPush_map {Γ : gM} (r : Option Value) (st : List Value) : (gPush r st).map (gV Γ) = (r.map (gV Γ)).toList ++ st.map (gV Γ) := by cases r <;> rfl
theorem gm_size {Γ : gM} {μ : gMD} {N Nf : Nat} {h : gH} {Rm : Room} {s : State} {H : Heap} {locs : List Loc} {cells slots cf sf : Nat} {ls : Array Slot} {lv : List (Option Value)} {p : Program} {l : Launch} {e : Env} {m : MethodId} {args : Array Value} {below : List Frame} {meth : Method} {c : Code} {T : State} {L : List Loc} {R : Room} {sl : Nat} (gs : gSt Γ μ N Nf h Rm s H locs cells slots cf sf ls lv) (hK : gKn Γ s) (hT : T.heap = H) (X : Stand p l e R s m args below meth c T L cells sl) : H.size = gB Γ + N := by
  have h1 : H.size ≤ s.heap.size + cells := by rw [← hT]; exact X.heapSize
  obtain ⟨hP, hS, -, h2, -⟩ := gs
  have h3 : gB Γ ≤ s.heap.size := hK.2.2.2.2.2.2.2.2.2
  cases N with
  | zero =>
    have := hS.1
    omega
  | succ n =>
    have h4 : gB Γ + n < H.size := (hP n _ (gWd_get (Nat.lt_succ_self n))).lt
    omega
section VC
variable {Γ : gM} {μ μ' : gMD} {d N N1 Nf pc idx n : Nat} {h : gH} {lv : List (Option Value)} {st As : List Value} {Q : Option Value → gH → Prop}
theorem gm_run {p : Program} {l : Launch} {e : Env} {Rm : Room} {s : State} {m : MethodId} {args : Array Value} {below : List Frame} {meth : Method} {c : Code} {H : Heap} {locs : List Loc} {cells slots cf sf : Nat} {Z : State → Prop} {ls : Array Slot} {st0 : List Value}
    (hr : va_Run p l e Rm s m args below meth c H locs cells slots (N1 - N) (gSum N1 - gSum N) (F0 m pc ls st0) (st.map (gV Γ)) (gQa Γ N1 (fun r h' => V Γ μ d N1 Nf h' (pc + 3) lv (gPush r st) Q)) (gA Γ))
    (cx : gCx Γ μ d p Rm s m args meth c) (gs : gSt Γ μ N Nf h Rm s H locs cells slots cf sf ls lv) (rt : gRt Γ μ Nf p l e Rm s m args below meth c cf sf Q Z) (h1 : N ≤ N1) (h2 : N1 ≤ Nf) :
    W p l e Rm s m args below meth c H locs cells slots Z (F0 m pc ls st0) := by
  intro T hT X
  obtain ⟨v, st₀, t, T', L, h0, X', hL, e1, e2, ⟨r, h', hv, hk, hP', hz, hF⟩, stp⟩ := hr T hT X
  cases hv
  obtain ⟨g1, g2, g3, g4, g5, g6, g7, g8, g9, g10⟩ := gs
  rw [h0] at hz hF
  have hm1 := gSum_mono h1
  have hm2 := gSum_mono h2
  have hS' : va_S (gA Γ) s.heap T'.heap (locs ++ L) := ⟨Nat.le_trans g2.1 (by rw [e1]; exact hz), fun q q1 q2 => by rw [e1, hF q (Nat.lt_of_lt_of_le q1 g2.1) q2]; exact g2.2.1 q q1 q2, fun q hq => by
    rcases List.mem_append.mp hq with hq | hq
    · exact g2.2.2 q hq
    · exact hL q hq⟩
  have w := hk p l e Rm s m args below meth c T'.heap (locs ++ L) (cells + (N1 - N)) (slots + (gSum N1 - gSum N)) cf sf Z ls cx ⟨by rw [e1]; exact hP', hS', g3, by omega, h2, g6, by omega, by omega, g9, g10⟩ rt
  rw [gPush_map] at w
  obtain ⟨t2, a1, b1⟩ := w T' rfl X'
  exact ⟨t2, stp t2 a1, b1⟩
theorem gm_pc {s : State} {H : Heap} {locs : List Loc} {as : List Value} (hK : gKn Γ s) (hS : va_S (gA Γ) s.heap H locs) : FrameBlind (va_Pc (as.map (gV Γ)) (fun U => U.heap = H ∧ gKn Γ U)) ∧ ∀ U : State, U.heap = H → s.WarmedH U.vm → va_Pc (as.map (gV Γ)) (fun U => U.heap = H ∧ gKn Γ U) (as.map (gV Γ)).toArray U := by
  refine ⟨fun a U g mk q => ?_, fun U hU hW => ⟨rfl, hU, gKn_moved hK hS hU hW⟩⟩
  obtain ⟨q1, q2, q3⟩ := q
  exact ⟨q1, q2, gKn_moved (locs := []) (U := U.calling g mk a) q3 va_S.rf rfl (State.WarmedH.refl _)⟩
theorem gCx_room {p : Program} {Rm : Room} {s : State} {m : MethodId} {args : Array Value} {meth : Method} {c : Code} (cx : gCx Γ μ d p Rm s m args meth c) (hd0 : 0 < d) (hm : μ'.2.2.1 ≤ 45) : (gRm (d - 1) N N1).frames + 1 ≤ Rm.frames ∧ 8 + (μ'.2.2.1 + 11) + (gRm (d - 1) N N1).locals ≤ Rm.locals := by
  have h1 := cx.2.2.2.2.2.2.2.2.1
  have h2 := cx.2.2.2.2.2.2.2.2.2.1
  show d - 1 + 1 ≤ Rm.frames ∧ 8 + (μ'.2.2.1 + 11) + 64 * (d - 1) ≤ Rm.locals
  omega
theorem gm_room {Rm : Room} {s : State} {H : Heap} {locs : List Loc} {cells slots cf sf : Nat} {ls : Array Slot} (gs : gSt Γ μ N Nf h Rm s H locs cells slots cf sf ls lv) (h1 : N ≤ N1) (h2 : N1 ≤ Nf) : cells + (N1 - N) ≤ Rm.cells ∧ slots + (gSum N1 - gSum N) ≤ Rm.slots := by
  obtain ⟨g1, g2, g3, g4, g5, g6, g7, g8, g9, g10⟩ := gs
  have hm1 := gSum_mono h1
  have hm2 := gSum_mono h2
  omega
theorem gCat_map (st : List Value) : ((st.map (gV Γ)).map fun v => v.category).sum = (st.map fun v => v.category).sum := by
  rw [List.map_map]
  congr 1
  exact List.map_congr_left (fun v _ => gV_cat v)
def gLkV (own : String) (idx : Nat) (μ' : gMD) : Prop := Cond.methodLink own idx μ'.1 ∈ gTbl ∧ Cond.instanceMethod μ'.1 ∈ gTbl ∧ Cond.selects μ'.1.cls μ'.1 μ'.1 ∈ gTbl
def gLkS (own : String) (idx : Nat) (μ' : gMD) : Prop := Cond.methodLink own idx μ'.1 ∈ gTbl ∧ Cond.static μ'.1 ∈ gTbl
def gLkI (own : String) (idx : Nat) (μ' : gMD) : Prop := Cond.methodLink own idx μ'.1 ∈ gTbl ∧ Cond.instanceMethod μ'.1 ∈ gTbl ∧ μ'.1.name = "<init>" ∧ μ'.2.2.2 = none
def gLkIN (own : String) (idx : Nat) (μ' : gMD) : Prop := (own, idx, μ'.1) ∈ gNestL ∧ Cond.instanceMethod μ'.1 ∈ gTbl ∧ μ'.1.name = "<init>" ∧ μ'.2.2.2 = none
def gLkSN (own : String) (idx : Nat) (μ' : gMD) : Prop := (own, idx, μ'.1) ∈ gNestL ∧ Cond.static μ'.1 ∈ gTbl
theorem V_callV {a ci : Nat} (hd : decode μ.2.1 pc = .ok (.invokevirtual idx, 3)) (ok : gOkM μ' n) (lk : gLkV μ.1.cls idx μ') (hC : gOwn ci = μ'.1.cls) (hl : lay a = some (.inr ci)) (ha : a < N) (hn : As.length = n) (hst : (st.map fun v => v.category).sum ≤ 8) (hlen : (gArg (.ref a :: As)).length ≤ μ'.2.2.1) (hd0 : 0 < d) (h1 : N ≤ N1) (h2 : N1 ≤ Nf)
    (kc : V Γ μ' (d - 1) N N1 h 0 (gArgs μ'.2.2.1 (.ref a :: As)) [] (fun r h' => V Γ μ d N1 Nf h' (pc + 3) lv (gPush r st) Q)) : V Γ μ d N Nf h pc lv (As.reverse ++ .ref a :: st) Q := by
  intro p l e Rm s m args below meth c H locs cells slots cf sf Z ls cx gs rt T hT X
  have hK := cx.2.2.2.2.2.2.2.2.2.2
  have hsz := gm_size gs hK hT X
  have hM := gm_met l ok hlen h1 (Nat.le_trans h2 gs.2.2.2.2.2.1) gs.1 hsz kc
  have hpc := gm_pc (as := .ref a :: As) hK gs.2.1
  have hts := cx.2.2.2.2.1
  have hrec : ∃ cellB : Cell, H[gB Γ + a]? = some cellB ∧ cellB.vm.isStatics = false ∧ s.vm.findClass μ'.1.cls = some cellB.cls := by
    unfold gOwn at hC
    cases hq : gCl[ci]? with
    | none =>
      obtain ⟨r, hr, -⟩ := gs.1 a _ ((gWd_get ha).trans (by rw [gEnt_o hl]))
      rw [hq] at hr
      cases hr
    | some q =>
      rw [hq] at hC
      rw [← hC]
      exact va_recv hK.1 gs.1 hq ((gWd_get ha).trans (by rw [gEnt_o hl]))
  rw [← gAl_lay (Γ := Γ) hl] at hrec
  have hw : GoodIn gTbl (wsV μ.1.cls idx μ'.1.cls μ'.1 (gWs μ')) := by
    intro w hw
    unfold wsV at hw
    rcases List.mem_append.mp hw with hw | hw
    · have hg : w ∈ gTbl := by
        simp only [List.mem_cons, List.not_mem_nil, or_false] at hw
        rcases hw with rfl | rfl | rfl | rfl
        · exact lk.1
        · exact lk.2.1
        · exact lk.2.2
        · exact ok.2.2.2.2
      exact ⟨hg, gTbl_good hg⟩
    · exact gWs_in ok w hw
  refine gm_run (N1 := N1) (st := st) (va_runV (C := μ'.1.cls) (b := gAl Γ a) (As := As.map (gV Γ)) (rest := st.map (gV Γ)) (Ts := gTbl) (nL := μ.2.2.1) ⟨cx.1, cx.2.1, cx.2.2.1, cx.2.2.2.1, hts⟩ hM (cwV n hts hw rfl rfl rfl ⟨rfl, ok.2.1⟩ (gCx_room cx hd0 ok.2.2.1)) ⟨hpc.1, hrec, hpc.2⟩ rfl (by rw [List.length_map]; exact hn) gs.2.2.1.1 ?_ (lv_room (by rw [gCat_map]; exact hst)) hd (gm_room gs h1 h2)) cx gs rt h1 h2 T hT X
  show (As.reverse ++ .ref a :: st).map (gV Γ) = (As.map (gV Γ)).reverse ++ .ref (gAl Γ a) :: st.map (gV Γ)
  rw [List.map_append, List.map_reverse]
  rfl
theorem V_callS (hd : decode μ.2.1 pc = .ok (.invokestatic idx, 3)) (ok : gOkM μ' n) (lk : gLkS μ.1.cls idx μ') (hn : As.length = n) (hst : (st.map fun v => v.category).sum ≤ 8) (hlen : (gArg As).length ≤ μ'.2.2.1) (hd0 : 0 < d) (h1 : N ≤ N1) (h2 : N1 ≤ Nf)
    (kc : V Γ μ' (d - 1) N N1 h 0 (gArgs μ'.2.2.1 As) [] (fun r h' => V Γ μ d N1 Nf h' (pc + 3) lv (gPush r st) Q)) : V Γ μ d N Nf h pc lv (As.reverse ++ st) Q := by
  intro p l e Rm s m args below meth c H locs cells slots cf sf Z ls cx gs rt T hT X
  have hK := cx.2.2.2.2.2.2.2.2.2.2
  have hsz := gm_size gs hK hT X
  have hM := gm_met l ok hlen h1 (Nat.le_trans h2 gs.2.2.2.2.2.1) gs.1 hsz kc
  have hpc := gm_pc (as := As) hK gs.2.1
  have hts := cx.2.2.2.2.1
  have hw : GoodIn gTbl (va_wsS μ.1.cls idx μ'.1 (gWs μ')) := by
    intro w hw
    unfold va_wsS at hw
    rcases List.mem_append.mp hw with hw | hw
    · have hg : w ∈ gTbl := by
        simp only [List.mem_cons, List.not_mem_nil, or_false] at hw
        rcases hw with rfl | rfl | rfl
        · exact lk.1
        · exact lk.2
        · exact ok.2.2.2.2
      exact ⟨hg, gTbl_good hg⟩
    · exact gWs_in ok w hw
  refine gm_run (N1 := N1) (st := st) (va_runS (As := As.map (gV Γ)) (rest := st.map (gV Γ)) (Ts := gTbl) (nL := μ.2.2.1) ⟨cx.1, cx.2.1, cx.2.2.1, cx.2.2.2.1, hts⟩ hM (va_cwS n hts hw rfl rfl rfl ok.2.1 (gCx_room cx hd0 ok.2.2.1)) hpc rfl (by rw [List.length_map]; exact hn) gs.2.2.1.1 ?_ (lv_room (by rw [gCat_map]; exact hst)) hd (gm_room gs h1 h2)) cx gs rt h1 h2 T hT X
  show (As.reverse ++ st).map (gV Γ) = (As.map (gV Γ)).reverse ++ st.map (gV Γ)
  rw [List.map_append, List.map_reverse]
theorem V_callSN (hd : decode μ.2.1 pc = .ok (.invokestatic idx, 3)) (ok : gOkM μ' n) (lk : gLkSN μ.1.cls idx μ') (hn : As.length = n) (hst : (st.map fun v => v.category).sum ≤ 8) (hlen : (gArg As).length ≤ μ'.2.2.1) (hd0 : 0 < d) (h1 : N ≤ N1) (h2 : N1 ≤ Nf)
    (kc : V Γ μ' (d - 1) N N1 h 0 (gArgs μ'.2.2.1 As) [] (fun r h' => V Γ μ d N1 Nf h' (pc + 3) lv (gPush r st) Q)) : V Γ μ d N Nf h pc lv (As.reverse ++ st) Q := by
  intro p l e Rm s m args below meth c H locs cells slots cf sf Z ls cx gs rt T hT X
  have hK := cx.2.2.2.2.2.2.2.2.2.2
  have hsz := gm_size gs hK hT X
  have hM := gm_met l ok hlen h1 (Nat.le_trans h2 gs.2.2.2.2.2.1) gs.1 hsz kc
  have hpc := gm_pc (as := As) hK gs.2.1
  have hts := cx.2.2.2.2.1
  refine gm_run (N1 := N1) (st := st) (va_runSN (host := "RaisedTableaux") (As := As.map (gV Γ)) (rest := st.map (gV Γ)) (Ts := gTbl) (nL := μ.2.2.1) ⟨cx.1, cx.2.1, cx.2.2.1, cx.2.2.2.1, hts⟩ hM ⟨va_cnB n hts (gWs_in ok) rfl rfl rfl (hK.2.1 _ lk.1) (hts _ ok.2.2.2.2) ok.2.1 (gCx_room cx hd0 ok.2.2.1), hts _ lk.2, trivial⟩ hpc rfl (by rw [List.length_map]; exact hn) gs.2.2.1.1 ?_ (lv_room (by rw [gCat_map]; exact hst)) hd (gm_room gs h1 h2)) cx gs rt h1 h2 T hT X
  show (As.reverse ++ st).map (gV Γ) = (As.map (gV Γ)).reverse ++ st.map (gV Γ)
  rw [List.map_append, List.map_reverse]
theorem V_callI {a : Nat} (hd : decode μ.2.1 pc = .ok (.invokespecial idx, 3)) (ok : gOkM μ' 0) (lk : gLkI μ.1.cls idx μ') (hst : (st.map fun v => v.category).sum ≤ 8) (hlen : 1 ≤ μ'.2.2.1) (hd0 : 0 < d) (h1 : N ≤ N1) (h2 : N1 ≤ Nf)
    (kc : V Γ μ' (d - 1) N N1 h 0 (gArgs μ'.2.2.1 [.ref a]) [] (fun r h' => V Γ μ d N1 Nf h' (pc + 3) lv (gPush r st) Q)) : V Γ μ d N Nf h pc lv (.ref a :: st) Q := by
  intro p l e Rm s m args below meth c H locs cells slots cf sf Z ls cx gs rt T hT X
  have hK := cx.2.2.2.2.2.2.2.2.2.2
  have hsz := gm_size gs hK hT X
  have hM := gm_met l ok (as := [.ref a]) hlen h1 (Nat.le_trans h2 gs.2.2.2.2.2.1) gs.1 hsz kc
  have hpc := gm_pc (as := [.ref a]) hK gs.2.1
  have hts := cx.2.2.2.2.1
  obtain ⟨k1, k2, k3, k4⟩ := lk
  exact gm_run (N1 := N1) (st := st) (va_runI (b := gAl Γ a) (As := []) (rest := st.map (gV Γ)) (Ts := gTbl) (nL := μ.2.2.1) ⟨cx.1, cx.2.1, cx.2.2.1, cx.2.2.2.1, hts⟩ hM (cwI 0 hts (gWs_in ok) (by unfold gWs; rw [k4]) rfl rfl (hts _ ok.2.2.2.2) (hts _ k1) (hts _ k2) k3 ok.2.1 (gCx_room cx hd0 ok.2.2.1)) hpc rfl rfl gs.2.2.1.1 rfl (lv_room (by rw [gCat_map]; exact hst)) hd (gm_room gs h1 h2)) cx gs rt h1 h2 T hT X
theorem V_callIN {a : Nat} (hd : decode μ.2.1 pc = .ok (.invokespecial idx, 3)) (ok : gOkM μ' 0) (lk : gLkIN μ.1.cls idx μ') (hst : (st.map fun v => v.category).sum ≤ 8) (hlen : 1 ≤ μ'.2.2.1) (hd0 : 0 < d) (h1 : N ≤ N1) (h2 : N1 ≤ Nf)
    (kc : V Γ μ' (d - 1) N N1 h 0 (gArgs μ'.2.2.1 [.ref a]) [] (fun r h' => V Γ μ d N1 Nf h' (pc + 3) lv (gPush r st) Q)) : V Γ μ d N Nf h pc lv (.ref a :: st) Q := by
  intro p l e Rm s m args below meth c H locs cells slots cf sf Z ls cx gs rt T hT X
  have hK := cx.2.2.2.2.2.2.2.2.2.2
  have hsz := gm_size gs hK hT X
  have hM := gm_met l ok (as := [.ref a]) hlen h1 (Nat.le_trans h2 gs.2.2.2.2.2.1) gs.1 hsz kc
  have hpc := gm_pc (as := [.ref a]) hK gs.2.1
  have hts := cx.2.2.2.2.1
  obtain ⟨k1, k2, k3, k4⟩ := lk
  exact gm_run (N1 := N1) (st := st) (va_runIN (host := "RaisedTableaux") (b := gAl Γ a) (As := []) (rest := st.map (gV Γ)) (Ts := gTbl) (nL := μ.2.2.1) ⟨cx.1, cx.2.1, cx.2.2.1, cx.2.2.2.1, hts⟩ hM ⟨va_cnB 0 hts (gWs_in ok) (by unfold gWs; rw [k4]) rfl rfl (hK.2.1 _ k1) (hts _ ok.2.2.2.2) ok.2.1 (gCx_room cx hd0 ok.2.2.1), k3, hts _ k2⟩ hpc rfl rfl gs.2.2.1.1 rfl (lv_room (by rw [gCat_map]; exact hst)) hd (gm_room gs h1 h2)) cx gs rt h1 h2 T hT X
def gLkO (own : String) (idx : Nat) : Prop := Cond.methodLink own idx Lib.objectInit ∈ gTbl ∧ Cond.instanceMethod Lib.objectInit ∈ gTbl ∧ Cond.code Lib.objectInit ⟨#[0xb1]⟩ 1 none ∈ gTbl
theorem V_objInit {a : Nat} (hd : decode μ.2.1 pc = .ok (.invokespecial idx, 3)) (lk : gLkO μ.1.cls idx) (hst : (st.map fun v => v.category).sum ≤ 8) (hd0 : 0 < d) (kk : V Γ μ d N Nf h (pc + 3) lv st Q) : V Γ μ d N Nf h pc lv (.ref a :: st) Q := by
  refine V.look (fun p l e Rm s m args below meth c H locs cells slots Z ls cx hP hS hls kk => ?_) kk
  have hts := cx.2.2.2.2.1
  have h1 := cx.2.2.2.2.2.2.2.2.1
  have h2 := cx.2.2.2.2.2.2.2.2.2.1
  have h3 : 2 * (F0 m pc ls (.ref (gAl Γ a) :: st.map (gV Γ))).monitorRoom + ((st.map (gV Γ)).map fun v => v.category).sum ≤ 8 := lv_room (by rw [gCat_map]; exact hst)
  exact W.objInit (a := gAl Γ a) (rest := st.map (gV Γ)) cx.1 cx.2.1 cx.2.2.2.1 (hts _ lk.1) (hts _ lk.2.1) (hts _ lk.2.2) rfl (hls.trans cx.2.2.1.symm) rfl hd (by omega) (by
    have h4 : 2 * (F0 m pc ls (List.map (gV Γ) (Value.ref a :: st))).monitorRoom + ((st.map (gV Γ)).map fun v => v.category).sum ≤ 8 := h3
    omega) kk
/-! returns -/
theorem V_iret {v : Int32} {ty : FieldType} (hd : decode μ.2.1 pc = .ok (.ireturn, 1)) (hr : μ.2.2.2 = some ty) (hn : narrow ty (.int v) = .int v) (hq : Q (some (.int v)) h) : V Γ μ d Nf Nf h pc lv [.int v] Q := by
  intro p l e Rm s m args below meth c H locs cells slots cf sf Z ls cx gs rt
  obtain ⟨g1, g2, g3, g4, g5, g6, g7, g8, g9, g10⟩ := gs
  rw [Nat.sub_self, Nat.add_zero] at g7 g8
  subst g7; subst g8
  exact rt (some (.int v)) h H locs pc ls hq g1 g2 ⟨hd, ty, hr, hn⟩
theorem V_lret {v : Int64} (hd : decode μ.2.1 pc = .ok (.lreturn, 1)) (hr : μ.2.2.2 = some .long) (hq : Q (some (.long v)) h) : V Γ μ d Nf Nf h pc lv [.long v] Q := by
  intro p l e Rm s m args below meth c H locs cells slots cf sf Z ls cx gs rt
  obtain ⟨g1, g2, g3, g4, g5, g6, g7, g8, g9, g10⟩ := gs
  rw [Nat.sub_self, Nat.add_zero] at g7 g8
  subst g7; subst g8
  exact rt (some (.long v)) h H locs pc ls hq g1 g2 ⟨hd, hr⟩
theorem V_aret {v : Nat} {n : String} (hd : decode μ.2.1 pc = .ok (.areturn, 1)) (hr : μ.2.2.2 = some (.object n)) (hq : Q (some (.ref v)) h) : V Γ μ d Nf Nf h pc lv [.ref v] Q := by
  intro p l e Rm s m args below meth c H locs cells slots cf sf Z ls cx gs rt
  obtain ⟨g1, g2, g3, g4, g5, g6, g7, g8, g9, g10⟩ := gs
  rw [Nat.sub_self, Nat.add_zero] at g7 g8
  subst g7; subst g8
  exact rt (some (.ref v)) h H locs pc ls hq g1 g2 ⟨hd, n, hr⟩
theorem V_ret (hd : decode μ.2.1 pc = .ok (.return_, 1)) (hr : μ.2.2.2 = none) (hq : Q none h) : V Γ μ d Nf Nf h pc lv [] Q := by
  intro p l e Rm s m args below meth c H locs cells slots cf sf Z ls cx gs rt
  obtain ⟨g1, g2, g3, g4, g5, g6, g7, g8, g9, g10⟩ := gs
  rw [Nat.sub_self, Nat.add_zero] at g7 g8
  subst g7; subst g8
  exact rt none h H locs pc ls hq g1 g2 ⟨hd, hr⟩
end VC
