/-! ===== texts, statics; numbers that are small ===== -/
section VS
variable {Γ : gM} {μ : gMD} {d N Nf pc idx : Nat} {h : gH} {lv : List (Option Value)} {st : List Value} {Q : Option Value → gH → Prop}
theorem gAl_K {i : Nat} (hi : i < 90) : gAl Γ (1001 + i) = Γ.2.2.2.2.1 i := by
  unfold gAl
  rw [if_neg (by omega), if_neg (by omega), if_pos (by omega), show 1001 + i - 1001 = i by omega]
theorem gAl_V {i : Nat} (hi : i < 90) : gAl Γ (1101 + i) = Γ.2.2.2.2.2 i := by
  unfold gAl
  rw [if_neg (by omega), if_neg (by omega), if_neg (by omega), if_pos (by omega), show 1101 + i - 1101 = i by omega]
theorem gAl_raw {a : Nat} : gAl Γ (2000 + a) = a := by
  unfold gAl
  rw [if_neg (by omega), if_neg (by omega), if_neg (by omega), if_neg (by omega), show 2000 + a - 2000 = a by omega]
/-- ldc of the i-th text -/
theorem V_ldcS {i : Nat} {tx : String} {bs : List Int32} (hd : decode μ.2.1 pc = .ok (.ldc idx, 2)) (ho : μ.1.cls = "RaisedTableaux$Tape") (hi : gStrs[i]? = some (idx, tx, bs)) (k : V Γ μ d N Nf h (pc + 2) lv (.ref (1001 + i) :: st) Q) : V Γ μ d N Nf h pc lv st Q := by
  refine V.look (fun p l e Rm s m args below meth c H locs cells slots Z ls cx hP hS hls kk => ?_) k
  have hK := cx.2.2.2.2.2.2.2.2.2.2
  have h6 : i < 6 := (List.getElem?_eq_some_iff.mp hi).1
  have h2 := hK.2.2.2.2.1 i _ hi
  refine va_ldcS cx.1 cx.2.1 (by rw [← ho]; exact cx.2.2.2.1) h2 hd ?_
  rw [← gAl_K (Γ := Γ) (by omega)]
  exact kk
theorem V_strV {i : Nat} (hd : decode μ.2.1 pc = .ok (.getfield idx, 3)) (hw : Cond.fieldLink μ.1.cls idx "java/lang/String" "value" "[B" ∈ gTbl) (hi : i < 6) (k : V Γ μ d N Nf h (pc + 3) lv (.ref (1101 + i) :: st) Q) : V Γ μ d N Nf h pc lv (.ref (1001 + i) :: st) Q := by
  refine V.look (fun p l e Rm s m args below meth c H locs cells slots Z ls cx hP hS hls kk => ?_) k
  have hK := cx.2.2.2.2.2.2.2.2.2.2
  have h2 := (hK.2.2.2.2.2.1.1 i hi).2.2.1
  show W p l e Rm s m args below meth c H locs cells slots Z (F0 m pc ls (.ref (gAl Γ (1001 + i)) :: st.map (gV Γ)))
  rw [gAl_K (by omega)]
  refine vk_getf cx.1 cx.2.1 h2 hS cx.2.2.2.1 (cx.2.2.2.2.1 _ hw) (fun x hx => hx) hd ?_
  rw [← gAl_V (Γ := Γ) (by omega)]
  exact kk
theorem V_strC {i : Nat} (hd : decode μ.2.1 pc = .ok (.getfield idx, 3)) (hw : Cond.fieldLink μ.1.cls idx "java/lang/String" "coder" "B" ∈ gTbl) (hi : i < 6) (k : V Γ μ d N Nf h (pc + 3) lv (.int (nI 0) :: st) Q) : V Γ μ d N Nf h pc lv (.ref (1001 + i) :: st) Q := by
  refine V.look (fun p l e Rm s m args below meth c H locs cells slots Z ls cx hP hS hls kk => ?_) k
  have hK := cx.2.2.2.2.2.2.2.2.2.2
  have h2 := (hK.2.2.2.2.2.1.1 i hi).2.1
  show W p l e Rm s m args below meth c H locs cells slots Z (F0 m pc ls (.ref (gAl Γ (1001 + i)) :: st.map (gV Γ)))
  rw [gAl_K (by omega)]
  exact vk_getf cx.1 cx.2.1 h2 hS cx.2.2.2.1 (cx.2.2.2.2.1 _ hw) (fun x hx => hx) hd kk
theorem gSlen_lt {i : Nat} (hi : i < 6) : gSlen.getD i 0 < 100 := by
  match i, hi with
  | 0, _ => decide
  | 1, _ => decide
  | 2, _ => decide
  | 3, _ => decide
  | 4, _ => decide
  | 5, _ => decide
theorem V_sbald {i j : Nat} (hd : decode μ.2.1 pc = .ok (.baload, 1)) (hi : i < 6) (hj : j < gSlen.getD i 0) (k : V Γ μ d N Nf h (pc + 1) lv (.int ((gSbyt.getD i []).getD j 0) :: st) Q) : V Γ μ d N Nf h pc lv (.int (nI j) :: .ref (1101 + i) :: st) Q := by
  refine V.look (fun p l e Rm s m args below meth c H locs cells slots Z ls cx hP hS hls kk => ?_) k
  have hK := cx.2.2.2.2.2.2.2.2.2.2
  have h2 := (hK.2.2.2.2.2.1.1 i hi).2.2.2
  have h3 := gSlen_lt hi
  show W p l e Rm s m args below meth c H locs cells slots Z (F0 m pc ls (.int (nI j) :: .ref (gAl Γ (1101 + i)) :: st.map (gV Γ)))
  rw [gAl_V (by omega)]
  exact va_tb (v := .int ((gSbyt.getD i []).getD j 0)) cx.1 cx.2.1 h2 hS (vp_in_nI hj (by omega)) (by rw [nI_clamp (by omega)]) hd kk
theorem V_sblen {i : Nat} (hd : decode μ.2.1 pc = .ok (.arraylength, 1)) (hi : i < 6) (k : V Γ μ d N Nf h (pc + 1) lv (.int (nI (gSlen.getD i 0)) :: st) Q) : V Γ μ d N Nf h pc lv (.ref (1101 + i) :: st) Q := by
  refine V.look (fun p l e Rm s m args below meth c H locs cells slots Z ls cx hP hS hls kk => ?_) k
  have hK := cx.2.2.2.2.2.2.2.2.2.2
  have h2 := (hK.2.2.2.2.2.1.1 i hi).2.2.2
  show W p l e Rm s m args below meth c H locs cells slots Z (F0 m pc ls (.ref (gAl Γ (1101 + i)) :: st.map (gV Γ)))
  rw [gAl_V (by omega)]
  exact va_tlen cx.1 cx.2.1 h2 hS rfl hd kk
theorem V_compact (hd : decode μ.2.1 pc = .ok (.getstatic idx, 3)) (hw : Cond.fieldLink μ.1.cls idx "java/lang/String" "COMPACT_STRINGS" "Z" ∈ gTbl) (k : V Γ μ d N Nf h (pc + 3) lv (.int (nI 1) :: st) Q) : V Γ μ d N Nf h pc lv st Q := by
  refine V.look (fun p l e Rm s m args below meth c H locs cells slots Z ls cx hP hS hls kk => ?_) k
  have hK := cx.2.2.2.2.2.2.2.2.2.2
  exact va_gets cx.1 cx.2.1 hK.2.2.2.2.2.2.2.1 hS cx.2.2.2.1 (cx.2.2.2.2.1 _ hw) (fun x hx => hx) hd kk
/-- a static of which only 'a reference or null' is said -/
theorem V_sioobe (hd : decode μ.2.1 pc = .ok (.getstatic idx, 3)) (hw : Cond.fieldLink μ.1.cls idx "jdk/internal/util/Preconditions" "SIOOBE_FORMATTER" "Ljava/util/function/BiFunction;" ∈ gTbl) (k : ∀ v : Value, v.category = 1 → V Γ μ d N Nf h (pc + 3) lv (v :: st) Q) : V Γ μ d N Nf h pc lv st Q := by
  intro p l e Rm s m args below meth c H locs cells slots cf sf Z ls cx gs rt
  have hK := cx.2.2.2.2.2.2.2.2.2.2
  rcases hK.2.2.2.2.2.2.2.2.1 with hz | ⟨t, hz⟩
  · exact va_gets cx.1 cx.2.1 hz gs.2.1 cx.2.2.2.1 (cx.2.2.2.2.1 _ hw) (fun x hx => hx) hd (k .null rfl p l e Rm s m args below meth c H locs cells slots cf sf Z ls cx gs rt)
  · refine va_gets cx.1 cx.2.1 hz gs.2.1 cx.2.2.2.1 (cx.2.2.2.2.1 _ hw) (fun x hx => hx) hd ?_
    have w := k (.ref (2000 + t)) rfl p l e Rm s m args below meth c H locs cells slots cf sf Z ls cx gs rt
    rw [show (List.map (gV Γ) (Value.ref (2000 + t) :: st)) = Value.ref (gAl Γ (2000 + t)) :: st.map (gV Γ) from rfl, gAl_raw] at w
    exact w
/-- the receiver of a text's method -/
theorem V_callT {i n N1 : Nat} {μ' : gMD} {As : List Value} (hd : decode μ.2.1 pc = .ok (.invokevirtual idx, 3)) (ok : gOkM μ' n) (lk : gLkV μ.1.cls idx μ') (hC : μ'.1.cls = "java/lang/String") (hi : i < 6) (hn : As.length = n) (hst : (st.map fun v => v.category).sum ≤ 8) (hlen : (gArg (.ref (1001 + i) :: As)).length ≤ μ'.2.2.1) (hd0 : 0 < d) (h1 : N ≤ N1) (h2 : N1 ≤ Nf)
    (kc : V Γ μ' (d - 1) N N1 h 0 (gArgs μ'.2.2.1 (.ref (1001 + i) :: As)) [] (fun r h' => V Γ μ d N1 Nf h' (pc + 3) lv (gPush r st) Q)) : V Γ μ d N Nf h pc lv (As.reverse ++ .ref (1001 + i) :: st) Q := by
  intro p l e Rm s m args below meth c H locs cells slots cf sf Z ls cx gs rt T hT X
  have hK := cx.2.2.2.2.2.2.2.2.2.2
  have hsz := gm_size gs hK hT X
  have hM := gm_met l ok hlen h1 (Nat.le_trans h2 gs.2.2.2.2.2.1) gs.1 hsz kc
  have hpc := gm_pc (as := .ref (1001 + i) :: As) hK gs.2.1
  have hts := cx.2.2.2.2.1
  have hrec : ∃ cellB : Cell, H[gAl Γ (1001 + i)]? = some cellB ∧ cellB.vm.isStatics = false ∧ s.vm.findClass μ'.1.cls = some cellB.cls := by
    rw [gAl_K (by omega), hC]
    exact vk_recv hK.2.2.2.2.2.1 hi gs.2.1
  have hw : GoodIn gTbl (wsV μ.1.cls idx μ'.1.cls μ'.1 (gWs μ')) := by
    intro w hw
    unfold wsV at hw
    rcases List.mem_append.mp hw with hw | hw
    · have hg : w ∈ gTbl := by
        simp only [List.mem_cons, List.not_mem_nil, or_false] at hw
        rcases hw with rfl | rfl | rfl | rfl
        · exact lk.1
        · exact lk.2.1
        · exact lk.2.2
        · exact ok.2.2.2.2
      exact ⟨hg, gTbl_good hg⟩
    · exact gWs_in ok w hw
  refine gm_run (N1 := N1) (st := st) (va_runV (C := μ'.1.cls) (b := gAl Γ (1001 + i)) (As := As.map (gV Γ)) (rest := st.map (gV Γ)) (Ts := gTbl) (nL := μ.2.2.1) ⟨cx.1, cx.2.1, cx.2.2.1, cx.2.2.2.1, hts⟩ hM (cwV n hts hw rfl rfl rfl ⟨rfl, ok.2.1⟩ (gCx_room cx hd0 ok.2.2.1)) ⟨hpc.1, hrec, hpc.2⟩ rfl (by rw [List.length_map]; exact hn) gs.2.2.1.1 ?_ (lv_room (by rw [gCat_map]; exact hst)) hd (gm_room gs h1 h2)) cx gs rt h1 h2 T hT X
  show (As.reverse ++ .ref (1001 + i) :: st).map (gV Γ) = (As.map (gV Γ)).reverse ++ .ref (gAl Γ (1001 + i)) :: st.map (gV Γ)
  rw [List.map_append, List.map_reverse]
  rfl
/-! numbers that are small: nI -/
theorem V_iaddN {a b : Nat} (hd : decode μ.2.1 pc = .ok (.iadd, 1)) (k : V Γ μ d N Nf h (pc + 1) lv (.int (nI (a + b)) :: st) Q) : V Γ μ d N Nf h pc lv (.int (nI b) :: .int (nI a) :: st) Q := by
  rw [← nI_add] at k
  exact V_iadd hd k
theorem V_isubN {a b : Nat} (hd : decode μ.2.1 pc = .ok (.isub, 1)) (hb : b ≤ a) (k : V Γ μ d N Nf h (pc + 1) lv (.int (nI (a - b)) :: st) Q) : V Γ μ d N Nf h pc lv (.int (nI b) :: .int (nI a) :: st) Q := by
  rw [← pk_sub hb] at k
  exact V_isub hd k
theorem V_imulN {a b : Nat} (hd : decode μ.2.1 pc = .ok (.imul, 1)) (k : V Γ μ d N Nf h (pc + 1) lv (.int (nI (a * b)) :: st) Q) : V Γ μ d N Nf h pc lv (.int (nI b) :: .int (nI a) :: st) Q := by
  rw [← pk_mul] at k
  exact V_imul hd k
theorem V_idivN {a b : Nat} (hd : decode μ.2.1 pc = .ok (.idiv, 1)) (ha : a < 2 ^ 31) (h0 : 0 < b) (hb : b < 2 ^ 31) (k : V Γ μ d N Nf h (pc + 1) lv (.int (nI (a / b)) :: st) Q) : V Γ μ d N Nf h pc lv (.int (nI b) :: .int (nI a) :: st) Q := by
  rw [← pk_div ha h0 hb] at k
  exact V_idiv hd (nI_ne0 h0 hb) k
theorem V_iremN {a b : Nat} (hd : decode μ.2.1 pc = .ok (.irem, 1)) (ha : a < 2 ^ 31) (h0 : 0 < b) (hb : b < 2 ^ 31) (k : V Γ μ d N Nf h (pc + 1) lv (.int (nI (a % b)) :: st) Q) : V Γ μ d N Nf h pc lv (.int (nI b) :: .int (nI a) :: st) Q := by
  rw [← pk_rem ha h0 hb] at k
  exact V_irem hd (nI_ne0 h0 hb) k
theorem V_i2lN {a : Nat} (hd : decode μ.2.1 pc = .ok (.i2l, 1)) (ha : a < 2 ^ 31) (k : V Γ μ d N Nf h (pc + 1) lv (.long (lN a) :: st) Q) : V Γ μ d N Nf h pc lv (.int (nI a) :: st) Q := V_i2l hd (nI_l ha) k
/-- a truth as a number -/
def gBo (b : Bool) : Int32 := if b then nI 1 else nI 0
theorem gBo_t : gBo true = nI 1 := rfl
theorem gBo_f : gBo false = nI 0 := rfl
theorem gBo_nar (b : Bool) : narrow .boolean (.int (gBo b)) = .int (gBo b) := by cases b <;> rfl
theorem V_ifB_eq {b : Bool} {off : Int} {tgt : Nat} (hd : decode μ.2.1 pc = .ok (.ifCond .eq off, 3)) (ht : (pc : Int) + off = (tgt : Int)) (kt : b = false → V Γ μ d N Nf h tgt lv st Q) (kf : b = true → V Γ μ d N Nf h (pc + 3) lv st Q) : V Γ μ d N Nf h pc lv (.int (gBo b) :: st) Q := by
  cases b with
  | false => exact V_if_eq hd ht (fun _ => kt rfl) (fun q => absurd (by decide) q)
  | true => exact V_if_eq hd ht (fun q => absurd q (by decide)) (fun _ => kf rfl)
theorem V_ifB_ne {b : Bool} {off : Int} {tgt : Nat} (hd : decode μ.2.1 pc = .ok (.ifCond .ne off, 3)) (ht : (pc : Int) + off = (tgt : Int)) (kt : b = true → V Γ μ d N Nf h tgt lv st Q) (kf : b = false → V Γ μ d N Nf h (pc + 3) lv st Q) : V Γ μ d N Nf h pc lv (.int (gBo b) :: st) Q := by
  cases b with
  | false => exact V_if_ne hd ht (fun q => absurd (by decide) q) (fun _ => kf rfl)
  | true => exact V_if_ne hd ht (fun _ => kt rfl) (fun q => absurd q (by decide))
theorem V_icmpN_eq {a b : Nat} {off : Int} {tgt : Nat} (hd : decode μ.2.1 pc = .ok (.if_icmp .eq off, 3)) (ht : (pc : Int) + off = (tgt : Int)) (ha : a < 2 ^ 31) (hb : b < 2 ^ 31) (kt : a = b → V Γ μ d N Nf h tgt lv st Q) (kf : ¬ a = b → V Γ μ d N Nf h (pc + 3) lv st Q) : V Γ μ d N Nf h pc lv (.int (nI b) :: .int (nI a) :: st) Q :=
  V_icmp_eq hd ht (fun q => kt ((nI_eq ha hb).mp q)) (fun q => kf (fun r => q ((nI_eq ha hb).mpr r)))
theorem V_icmpN_lt {a b : Nat} {off : Int} {tgt : Nat} (hd : decode μ.2.1 pc = .ok (.if_icmp .lt off, 3)) (ht : (pc : Int) + off = (tgt : Int)) (ha : a < 2 ^ 31) (hb : b < 2 ^ 31) (kt : a < b → V Γ μ d N Nf h tgt lv st Q) (kf : ¬ a < b → V Γ μ d N Nf h (pc + 3) lv st Q) : V Γ μ d N Nf h pc lv (.int (nI b) :: .int (nI a) :: st) Q :=
  V_icmp_lt hd ht (fun q => kt ((nI_ltI ha hb).mp q)) (fun q => kf (fun r => q ((nI_ltI ha hb).mpr r)))
theorem V_icmpN_le {a b : Nat} {off : Int} {tgt : Nat} (hd : decode μ.2.1 pc = .ok (.if_icmp .le off, 3)) (ht : (pc : Int) + off = (tgt : Int)) (ha : a < 2 ^ 31) (hb : b < 2 ^ 31) (kt : a ≤ b → V Γ μ d N Nf h tgt lv st Q) (kf : ¬ a ≤ b → V Γ μ d N Nf h (pc + 3) lv st Q) : V Γ μ d N Nf h pc lv (.int (nI b) :: .int (nI a) :: st) Q :=
  V_icmp_le hd ht (fun q => kt ((nI_leI ha hb).mp q)) (fun q => kf (fun r => q ((nI_leI ha hb).mpr r)))
theorem V_icmpN_ge {a b : Nat} {off : Int} {tgt : Nat} (hd : decode μ.2.1 pc = .ok (.if_icmp .ge off, 3)) (ht : (pc : Int) + off = (tgt : Int)) (ha : a < 2 ^ 31) (hb : b < 2 ^ 31) (kt : b ≤ a → V Γ μ d N Nf h tgt lv st Q) (kf : ¬ b ≤ a → V Γ μ d N Nf h (pc + 3) lv st Q) : V Γ μ d N Nf h pc lv (.int (nI b) :: .int (nI a) :: st) Q :=
  V_icmp_ge hd ht (fun q => kt ((nI_leI hb ha).mp q)) (fun q => kf (fun r => q ((nI_leI hb ha).mpr r)))
theorem V_icmpN_gt {a b : Nat} {off : Int} {tgt : Nat} (hd : decode μ.2.1 pc = .ok (.if_icmp .gt off, 3)) (ht : (pc : Int) + off = (tgt : Int)) (ha : a < 2 ^ 31) (hb : b < 2 ^ 31) (kt : b < a → V Γ μ d N Nf h tgt lv st Q) (kf : ¬ b < a → V Γ μ d N Nf h (pc + 3) lv st Q) : V Γ μ d N Nf h pc lv (.int (nI b) :: .int (nI a) :: st) Q :=
  V_icmp_gt hd ht (fun q => kt ((nI_ltI hb ha).mp q)) (fun q => kf (fun r => q ((nI_ltI hb ha).mpr r)))
theorem V_icmpN_ne {a b : Nat} {off : Int} {tgt : Nat} (hd : decode μ.2.1 pc = .ok (.if_icmp .ne off, 3)) (ht : (pc : Int) + off = (tgt : Int)) (ha : a < 2 ^ 31) (hb : b < 2 ^ 31) (kt : ¬ a = b → V Γ μ d N Nf h tgt lv st Q) (kf : a = b → V Γ μ d N Nf h (pc + 3) lv st Q) : V Γ μ d N Nf h pc lv (.int (nI b) :: .int (nI a) :: st) Q :=
  V_icmp_ne hd ht (fun q => kt (fun r => q ((nI_eq ha hb).mpr r))) (fun q => kf ((nI_eq ha hb).mp q))
theorem V_ifN_eq {a : Nat} {off : Int} {tgt : Nat} (hd : decode μ.2.1 pc = .ok (.ifCond .eq off, 3)) (ht : (pc : Int) + off = (tgt : Int)) (ha : a < 2 ^ 31) (kt : a = 0 → V Γ μ d N Nf h tgt lv st Q) (kf : ¬ a = 0 → V Γ μ d N Nf h (pc + 3) lv st Q) : V Γ μ d N Nf h pc lv (.int (nI a) :: st) Q :=
  V_if_eq hd ht (fun q => kt ((nI_eq ha (by decide)).mp (q.trans nI_0.symm))) (fun q => kf (fun r => q (by rw [r, nI_0])))
theorem V_ifN_ne {a : Nat} {off : Int} {tgt : Nat} (hd : decode μ.2.1 pc = .ok (.ifCond .ne off, 3)) (ht : (pc : Int) + off = (tgt : Int)) (ha : a < 2 ^ 31) (kt : ¬ a = 0 → V Γ μ d N Nf h tgt lv st Q) (kf : a = 0 → V Γ μ d N Nf h (pc + 3) lv st Q) : V Γ μ d N Nf h pc lv (.int (nI a) :: st) Q :=
  V_if_ne hd ht (fun q => kt (fun r => q (by rw [r, nI_0]))) (fun q => kf ((nI_eq ha (by decide)).mp (q.trans nI_0.symm)))
theorem V_ifN_lt {a : Nat} {off : Int} {tgt : Nat} (hd : decode μ.2.1 pc = .ok (.ifCond .lt off, 3)) (ht : (pc : Int) + off = (tgt : Int)) (ha : a < 2 ^ 31) (kf : V Γ μ d N Nf h (pc + 3) lv st Q) : V Γ μ d N Nf h pc lv (.int (nI a) :: st) Q :=
  V_if_lt hd ht (fun q => absurd q (nI_pos ha)) (fun q => kf)
theorem V_ifN_ge {a : Nat} {off : Int} {tgt : Nat} (hd : decode μ.2.1 pc = .ok (.ifCond .ge off, 3)) (ht : (pc : Int) + off = (tgt : Int)) (ha : a < 2 ^ 31) (kt : V Γ μ d N Nf h tgt lv st Q) : V Γ μ d N Nf h pc lv (.int (nI a) :: st) Q :=
  V_if_ge hd ht (fun q => kt) (fun q => absurd (nI_pos' ha) q)
theorem V_ifN_gt {a : Nat} {off : Int} {tgt : Nat} (hd : decode μ.2.1 pc = .ok (.ifCond .gt off, 3)) (ht : (pc : Int) + off = (tgt : Int)) (ha : a < 2 ^ 31) (kt : 0 < a → V Γ μ d N Nf h tgt lv st Q) (kf : ¬ 0 < a → V Γ μ d N Nf h (pc + 3) lv st Q) : V Γ μ d N Nf h pc lv (.int (nI a) :: st) Q :=
  V_if_gt hd ht (fun q => kt ((nI_ltI (by decide) ha).mp (by rw [nI_0]; exact q))) (fun q => kf (fun r => q (by have r2 := (nI_ltI (by decide) ha).mpr r; rw [nI_0] at r2; exact r2)))
theorem V_ifN_le {a : Nat} {off : Int} {tgt : Nat} (hd : decode μ.2.1 pc = .ok (.ifCond .le off, 3)) (ht : (pc : Int) + off = (tgt : Int)) (ha : a < 2 ^ 31) (kt : a = 0 → V Γ μ d N Nf h tgt lv st Q) (kf : ¬ a = 0 → V Γ μ d N Nf h (pc + 3) lv st Q) : V Γ μ d N Nf h pc lv (.int (nI a) :: st) Q :=
  V_if_le hd ht (fun q => kt (by have r2 := (nI_leI ha (by decide : 0 < 2 ^ 31)).mp (by rw [nI_0]; exact q); omega)) (fun q => kf (fun r => q (by rw [r, nI_0]; exact Int32.le_refl 0)))
end VS
def gLkX (own : String) (idx : Nat) : Prop := Cond.methodLink own idx Lib.Math.max.name ∈ gTbl ∧ Cond.static Lib.Math.max.name ∈ gTbl ∧ Cond.initialized "java/lang/Math" ∈ gTbl ∧ Cond.code Lib.Math.max.name Lib.Math.max.code 2 (some .int) ∈ gTbl
theorem V_max {Γ : gM} {μ : gMD} {d N Nf pc idx : Nat} {h : gH} {lv : List (Option Value)} {st : List Value} {Q : Option Value → gH → Prop} {x y : Int32} (hd : decode μ.2.1 pc = .ok (.invokestatic idx, 3)) (lk : gLkX μ.1.cls idx) (hst : (st.map fun v => v.category).sum ≤ 8) (hd0 : 0 < d) (k : V Γ μ d N Nf h (pc + 3) lv (.int (if x < y then y else x) :: st) Q) : V Γ μ d N Nf h pc lv (.int y :: .int x :: st) Q := by
  intro p l e Rm s m args below meth c H locs cells slots cf sf Z ls cx gs rt
  have hts := cx.2.2.2.2.1
  have e1 := cx.2.2.2.2.2.2.2.2.1
  have e2 := cx.2.2.2.2.2.2.2.2.2.1
  have hst2 : ((st.map (gV Γ)).map fun v => v.category).sum ≤ 8 := by rw [gCat_map]; exact hst
  have w := k p l e Rm s m args below meth c H locs cells slots cf sf Z ls cx gs rt
  obtain ⟨g1, g2, g3, g4, g5, g6, g7, g8, g9, g10⟩ := gs
  exact va_mmax cx.1 cx.2.1 (cx.2.2.1.trans g3.1.symm) cx.2.2.2.1 (hts _ lk.1) (hts _ lk.2.1) (hts _ lk.2.2.1) (hts _ lk.2.2.2) (by omega) (by omega) (by omega) (by omega) hd w
theorem V_maxN {Γ : gM} {μ : gMD} {d N Nf pc idx : Nat} {h : gH} {lv : List (Option Value)} {st : List Value} {Q : Option Value → gH → Prop} {a b : Nat} (hd : decode μ.2.1 pc = .ok (.invokestatic idx, 3)) (lk : gLkX μ.1.cls idx) (hst : (st.map fun v => v.category).sum ≤ 8) (hd0 : 0 < d) (ha : a < 2 ^ 31) (hb : b < 2 ^ 31) (k : V Γ μ d N Nf h (pc + 3) lv (.int (nI (max a b)) :: st) Q) : V Γ μ d N Nf h pc lv (.int (nI b) :: .int (nI a) :: st) Q := by
  refine V_max hd lk hst hd0 ?_
  have e : (if nI a < nI b then nI b else nI a) = nI (max a b) := by
    by_cases hab : a < b
    · rw [if_pos ((nI_ltI ha hb).mpr hab), Nat.max_eq_right (Nat.le_of_lt hab)]
    · rw [if_neg (fun q => hab ((nI_ltI ha hb).mp q)), Nat.max_eq_left (Nat.not_lt.mp hab)]
  rw [e]
  exact k
