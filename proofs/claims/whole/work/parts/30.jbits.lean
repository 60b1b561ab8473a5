/-! ===== longs as numbers (wb_: out of kit/laws/BITS.to-paste); Long.bitCount ===== -/
theorem wb_tb (n : Nat) : (lN n).toBitVec = BitVec.ofNat 64 n := rfl
theorem wb_inj {a b : Int64} (h : a.toBitVec = b.toBitVec) : a = b := Int64.toBitVec_inj.mp h
theorem wb_tn {n : Nat} (h : n < 2 ^ 64) : (lN n).toBitVec.toNat = n := by rw [wb_tb, BitVec.toNat_ofNat, Nat.mod_eq_of_lt h]
theorem wb_of (x : Int64) : ∃ n, n < 2 ^ 64 ∧ x = lN n := ⟨x.toBitVec.toNat, x.toBitVec.isLt, wb_inj (by rw [wb_tb]; simp)⟩
theorem wb_of32 (x : Int32) : ∃ n, n < 2 ^ 32 ∧ x = nI n := ⟨x.toBitVec.toNat, x.toBitVec.isLt, Int32.toBitVec_inj.mp (by show _ = BitVec.ofNat 32 _; simp)⟩
theorem wb_c : ∀ k, k < 64 → ((nI k).toInt64 &&& 63) = lN k := by decide +kernel
theorem wb_cu : ∀ k, k < 64 → ((nI k).toInt64.toUInt64 &&& Int64.toUInt64 63) = UInt64.ofNat k := by decide +kernel
theorem wb_sm : ∀ k, k < 64 → (BitVec.ofNat 64 k).smod 64 = BitVec.ofNat 64 k := by decide +kernel
theorem wb_pw {a b : Nat} (h : a ≤ b) : 2 ^ b = 2 ^ a * 2 ^ (b - a) := by rw [← Nat.pow_add]; congr 1; omega
theorem wb_lt2 {a b : Nat} (h : a < b) : 2 ^ a < 2 ^ b := Nat.pow_lt_pow_right (by decide) h
theorem wb_mod (n : Nat) : lN n = lN (n % 2 ^ 64) := wb_inj (by rw [wb_tb, wb_tb]; apply BitVec.eq_of_toNat_eq; rw [BitVec.toNat_ofNat, BitVec.toNat_ofNat, Nat.mod_mod])
theorem wb_shr {n k : Nat} (hn : n < 2 ^ 64) (hk : k < 64) : ((lN n).toUInt64 >>> ((nI k).toInt64.toUInt64 &&& Int64.toUInt64 63)).toInt64 = lN (n / 2 ^ k) := by
  rw [wb_cu k hk]
  apply wb_inj
  apply BitVec.eq_of_toNat_eq
  show ((lN n).toUInt64 >>> UInt64.ofNat k).toNat = (BitVec.ofNat 64 _).toNat
  have h1 : (UInt64.ofNat k).toNat = k := by
    show (BitVec.ofNat 64 k).toNat = k
    rw [BitVec.toNat_ofNat, Nat.mod_eq_of_lt (by omega)]
  have h2 : (lN n).toUInt64.toNat = n := wb_tn hn
  rw [UInt64.toNat_shiftRight, h1, h2, Nat.mod_eq_of_lt hk, Nat.shiftRight_eq_div_pow, BitVec.toNat_ofNat, Nat.mod_eq_of_lt (Nat.lt_of_le_of_lt (Nat.div_le_self _ _) hn)]
theorem wb_shl (n : Nat) {k : Nat} (hk : k < 64) : lN n <<< ((nI k).toInt64 &&& 63) = lN (n * 2 ^ k) := by
  rw [wb_c k hk]
  apply wb_inj
  rw [Int64.toBitVec_shiftLeft, wb_tb, wb_tb, wb_tb, wb_sm k hk]
  apply BitVec.eq_of_toNat_eq
  rw [BitVec.shiftLeft_eq', BitVec.toNat_shiftLeft, BitVec.toNat_ofNat, BitVec.toNat_ofNat, BitVec.toNat_ofNat, Nat.mod_eq_of_lt (show k < 2 ^ 64 by omega), Nat.shiftLeft_eq, Nat.mul_mod, Nat.mod_mod, ← Nat.mul_mod]
theorem wb_and {a b : Nat} (ha : a < 2 ^ 64) (hb : b < 2 ^ 64) : lN a &&& lN b = lN (a &&& b) := by
  apply wb_inj
  rw [Int64.toBitVec_and, wb_tb, wb_tb, wb_tb]
  apply BitVec.eq_of_toNat_eq
  rw [BitVec.toNat_and, BitVec.toNat_ofNat, BitVec.toNat_ofNat, BitVec.toNat_ofNat, Nat.mod_eq_of_lt ha, Nat.mod_eq_of_lt hb, Nat.mod_eq_of_lt (Nat.and_lt_two_pow _ hb)]
theorem wb_or {a b : Nat} (ha : a < 2 ^ 64) (hb : b < 2 ^ 64) : lN a ||| lN b = lN (a ||| b) := by
  apply wb_inj
  rw [Int64.toBitVec_or, wb_tb, wb_tb, wb_tb]
  apply BitVec.eq_of_toNat_eq
  rw [BitVec.toNat_or, BitVec.toNat_ofNat, BitVec.toNat_ofNat, BitVec.toNat_ofNat, Nat.mod_eq_of_lt ha, Nat.mod_eq_of_lt hb, Nat.mod_eq_of_lt (Nat.or_lt_two_pow ha hb)]
theorem wb_mask {n k : Nat} (hn : n < 2 ^ 64) (hk : k < 64) : lN n &&& lN (2 ^ k - 1) = lN (n % 2 ^ k) := by
  rw [wb_and hn (by have := wb_lt2 hk; omega), Nat.and_two_pow_sub_one_eq_mod]
theorem wb_a1 {n : Nat} (hn : n < 2 ^ 64) : lN n &&& 1 = lN (n % 2) := wb_mask (k := 1) hn (by decide)
theorem wb_bit {n k : Nat} (hn : n < 2 ^ 64) (hk : k < 64) : ((lN n).toUInt64 >>> ((nI k).toInt64.toUInt64 &&& Int64.toUInt64 63)).toInt64 &&& 1 = lN (n / 2 ^ k % 2) := by
  rw [wb_shr hn hk, wb_a1 (Nat.lt_of_le_of_lt (Nat.div_le_self _ _) hn)]
theorem V_topL {Γ : gM} {μ : gMD} {d N Nf pc : Nat} {h : gH} {lv : List (Option Value)} {st : List Value} {Q : Option Value → gH → Prop} {x y : Int64} (e : x = y) (k : V Γ μ d N Nf h pc lv (.long y :: st) Q) : V Γ μ d N Nf h pc lv (.long x :: st) Q := by subst e; exact k
theorem V_topI {Γ : gM} {μ : gMD} {d N Nf pc : Nat} {h : gH} {lv : List (Option Value)} {st : List Value} {Q : Option Value → gH → Prop} {x y : Int32} (e : x = y) (k : V Γ μ d N Nf h pc lv (.int y :: st) Q) : V Γ μ d N Nf h pc lv (.int x :: st) Q := by subst e; exact k
theorem mk85 : (6148914691236517205 : Int64) = lN (mkN 85 8) := by decide +kernel
theorem mk51 : (3689348814741910323 : Int64) = lN (mkN 51 8) := by decide +kernel
theorem mk15 : (1085102592571150095 : Int64) = lN (mkN 15 8) := by decide +kernel
theorem mkv85 : mkN 85 8 < 2 ^ 64 := by decide +kernel
theorem mkv51 : mkN 51 8 = 3689348814741910323 := by decide +kernel
theorem mkv15 : mkN 15 8 = 1085102592571150095 := by decide +kernel
theorem popB_ok : ∀ (k v : Nat), popB (k + 1) v = pop8 (v % 256) + 256 * popB k (v / 256) := fun _ _ => rfl
theorem pop_all {v z1 z2 z3 : Nat} (hv : v < 2 ^ 64) (h1 : z1 = bc3 8 (bc2 8 (bc1 8 v)) + bc3 8 (bc2 8 (bc1 8 v)) / 2 ^ 8) (h2 : z2 = z1 + z1 / 2 ^ 16) (h3 : z3 = z2 + z2 / 2 ^ 32) : z3 % 128 = cntN v 64 := by
  have e8 : ∀ x, pop8 (x % 256) ≤ 8 := fun x => (b_3 _ (Nat.mod_lt _ (by decide))).2.2.2.2
  have hb := bc_all 8 v (by rw [show (256 : Nat) ^ 8 = 2 ^ 64 by decide]; exact hv)
  have hs := popS_cnt 8 v
  rw [hb] at h1
  have h0 : popB 1 (v / 256 / 256 / 256 / 256 / 256 / 256 / 256) = pop8 (v / 256 / 256 / 256 / 256 / 256 / 256 / 256 % 256) := by rw [popB_ok]; rfl
  have key := pop_end (popB_ok 7 v) (popB_ok 6 _) (popB_ok 5 _) (popB_ok 4 _) (popB_ok 3 _) (popB_ok 2 _) ((popB_ok 1 (v / 256 / 256 / 256 / 256 / 256 / 256)).trans (by rw [h0])) (e8 _) (e8 _) (e8 _) (e8 _) (e8 _) (e8 _) (e8 _) (e8 _) h1 h2 h3
  rw [key, ← show popS 8 v = cntN v 64 from hs]
  rfl
section C30
variable {Γ : gM} {d : Nat} {h : gH} {Q : Option Value → gH → Prop}
set_option maxRecDepth 100000 in
set_option maxHeartbeats 4000000 in
theorem c_bitCount {v : Nat} (hv : v < 2 ^ 64) (hQ : Q (some (.int (nI (cntN v 64)))) h) : V Γ mJ13_bitCount_95d88 d 124 124 h 0 [some (.long (lN v)), none] [] Q := by
  have a1 : (v / 2 ^ 1) &&& mkN 85 8 ≤ v / 2 ^ 1 := Nat.and_le_left
  have b1 : bc1 8 v < 2 ^ 64 := by unfold bc1; omega
  have b2 : bc2 8 (bc1 8 v) < 2 ^ 63 := by
    have q1 : bc1 8 v &&& mkN 51 8 ≤ mkN 51 8 := Nat.and_le_right
    have q2 : bc1 8 v / 4 &&& mkN 51 8 ≤ mkN 51 8 := Nat.and_le_right
    rw [mkv51] at q1 q2
    unfold bc2
    rw [mkv51]
    omega
  have b3 : bc3 8 (bc2 8 (bc1 8 v)) < 2 ^ 61 := by
    have q1 : bc3 8 (bc2 8 (bc1 8 v)) ≤ mkN 15 8 := Nat.and_le_right
    rw [mkv15] at q1
    omega
  have m51 : mkN 51 8 < 2 ^ 64 := by rw [mkv51]; decide
  have m15 : mkN 15 8 < 2 ^ 64 := by rw [mkv15]; decide
  have s1 : lN v - (lN (v / 2 ^ 1) &&& 6148914691236517205) = lN (bc1 8 v) := by
    rw [mk85, wb_and (by omega) mkv85, lN_sub (by omega)]; rfl
  have s2 : (lN (bc1 8 v) &&& 3689348814741910323) + (lN (bc1 8 v / 2 ^ 2) &&& 3689348814741910323) = lN (bc2 8 (bc1 8 v)) := by
    rw [mk51, wb_and b1 m51, wb_and (by omega) m51, lN_add]; rfl
  have s3 : (lN (bc2 8 (bc1 8 v)) + lN (bc2 8 (bc1 8 v) / 2 ^ 4)) &&& 1085102592571150095 = lN (bc3 8 (bc2 8 (bc1 8 v))) := by
    rw [mk15, lN_add, wb_and (by omega) m15]; rfl
  obtain ⟨y, hy⟩ : ∃ y, y = bc3 8 (bc2 8 (bc1 8 v)) := ⟨_, rfl⟩
  obtain ⟨x2, hx2⟩ : ∃ x, x = bc2 8 (bc1 8 v) := ⟨_, rfl⟩
  obtain ⟨x1, hx1⟩ : ∃ x, x = bc1 8 v := ⟨_, rfl⟩
  rw [← hx1] at b1 b2 b3 s1 s2 s3 hx2 hy
  rw [← hx2] at b2 b3 s2 s3 hy
  rw [← hy] at b3 s3
  obtain ⟨z1, hz1⟩ : ∃ z, z = y + y / 2 ^ 8 := ⟨_, rfl⟩
  obtain ⟨z2, hz2⟩ : ∃ z, z = z1 + z1 / 2 ^ 16 := ⟨_, rfl⟩
  obtain ⟨z3, hz3⟩ : ∃ z, z = z2 + z2 / 2 ^ 32 := ⟨_, rfl⟩
  have hfin : z3 % 128 = cntN v 64 := pop_all hv (by rw [← hx1, ← hx2, ← hy]; exact hz1) hz2 hz3
  have c1 : z1 < 2 ^ 62 := by omega
  have c2 : z2 < 2 ^ 63 := by omega
  have t1 : lN y + lN (y / 2 ^ 8) = lN z1 := by rw [lN_add, hz1]
  have t2 : lN z1 + lN (z1 / 2 ^ 16) = lN z2 := by rw [lN_add, hz2]
  have t3 : lN z2 + lN (z2 / 2 ^ 32) = lN z3 := by rw [lN_add, hz3]
  have s7 : (lN z3).toInt32 &&& nI 127 = nI (cntN v 64) := by
    rw [lN_i, pk_and (nI z3) 7 (by decide)]
    have e : (nI z3).toBitVec.toNat = z3 % 2 ^ 32 := by show (BitVec.ofNat 32 z3).toNat = _; rw [BitVec.toNat_ofNat]
    rw [e, ← hfin, show z3 % 2 ^ 32 % 2 ^ 7 = z3 % 128 by omega]
  refine V_lloadn0 dJ13_bitCount_95d88_0 ?_
  refine V_lloadn0 dJ13_bitCount_95d88_1 ?_
  refine V_iconst (v := nI 1) dJ13_bitCount_95d88_2 (by decide) ?_
  refine V_lushr dJ13_bitCount_95d88_3 (wb_shr hv (by decide)) ?_
  refine V_ldc2 (v := 6148914691236517205) dJ13_bitCount_95d88_4 kJ13_314 ?_
  refine V_land dJ13_bitCount_95d88_7 ?_
  refine V_lsub dJ13_bitCount_95d88_8 ?_
  refine V_topL s1 ?_
  refine V_lstoren0 dJ13_bitCount_95d88_9 (by decide) rfl ?_
  refine V_lloadn0 dJ13_bitCount_95d88_10 ?_
  refine V_ldc2 (v := 3689348814741910323) dJ13_bitCount_95d88_11 kJ13_316 ?_
  refine V_land dJ13_bitCount_95d88_14 ?_
  refine V_lloadn0 dJ13_bitCount_95d88_15 ?_
  refine V_iconst (v := nI 2) dJ13_bitCount_95d88_16 (by decide) ?_
  refine V_lushr dJ13_bitCount_95d88_17 (wb_shr b1 (by decide)) ?_
  refine V_ldc2 (v := 3689348814741910323) dJ13_bitCount_95d88_18 kJ13_316 ?_
  refine V_land dJ13_bitCount_95d88_21 ?_
  refine V_ladd dJ13_bitCount_95d88_22 ?_
  refine V_topL s2 ?_
  refine V_lstoren0 dJ13_bitCount_95d88_23 (by decide) rfl ?_
  refine V_lloadn0 dJ13_bitCount_95d88_24 ?_
  refine V_lloadn0 dJ13_bitCount_95d88_25 ?_
  refine V_iconst (v := nI 4) dJ13_bitCount_95d88_26 (by decide) ?_
  refine V_lushr dJ13_bitCount_95d88_27 (wb_shr (by omega) (by decide)) ?_
  refine V_ladd dJ13_bitCount_95d88_28 ?_
  refine V_ldc2 (v := 1085102592571150095) dJ13_bitCount_95d88_29 kJ13_318 ?_
  refine V_land dJ13_bitCount_95d88_32 ?_
  refine V_topL s3 ?_
  refine V_lstoren0 dJ13_bitCount_95d88_33 (by decide) rfl ?_
  refine V_lloadn0 dJ13_bitCount_95d88_34 ?_
  refine V_lloadn0 dJ13_bitCount_95d88_35 ?_
  refine V_bipush (v := nI 8) dJ13_bitCount_95d88_36 (by decide) ?_
  refine V_lushr dJ13_bitCount_95d88_38 (wb_shr (by omega) (by decide)) ?_
  refine V_ladd dJ13_bitCount_95d88_39 ?_
  refine V_topL t1 ?_
  refine V_lstoren0 dJ13_bitCount_95d88_40 (by decide) rfl ?_
  refine V_lloadn0 dJ13_bitCount_95d88_41 ?_
  refine V_lloadn0 dJ13_bitCount_95d88_42 ?_
  refine V_bipush (v := nI 16) dJ13_bitCount_95d88_43 (by decide) ?_
  refine V_lushr dJ13_bitCount_95d88_45 (wb_shr (by omega) (by decide)) ?_
  refine V_ladd dJ13_bitCount_95d88_46 ?_
  refine V_topL t2 ?_
  refine V_lstoren0 dJ13_bitCount_95d88_47 (by decide) rfl ?_
  refine V_lloadn0 dJ13_bitCount_95d88_48 ?_
  refine V_lloadn0 dJ13_bitCount_95d88_49 ?_
  refine V_bipush (v := nI 32) dJ13_bitCount_95d88_50 (by decide) ?_
  refine V_lushr dJ13_bitCount_95d88_52 (wb_shr (by omega) (by decide)) ?_
  refine V_ladd dJ13_bitCount_95d88_53 ?_
  refine V_topL t3 ?_
  refine V_lstoren0 dJ13_bitCount_95d88_54 (by decide) rfl ?_
  refine V_lloadn0 dJ13_bitCount_95d88_55 ?_
  refine V_l2i dJ13_bitCount_95d88_56 rfl ?_
  refine V_bipush (v := nI 127) dJ13_bitCount_95d88_57 (by decide) ?_
  refine V_iand dJ13_bitCount_95d88_59 ?_
  refine V_topI s7 ?_
  refine V_iret dJ13_bitCount_95d88_60 rfl rfl ?_
  exact hQ
end C30
