/-! ===== numberOfTrailingZeros; the k-th set bit ===== -/
def gz3 (n v : Nat) : Nat := if v ≤ 4 then n + v / 2 ^ 1 else n + 2 + v / 2 ^ 2 / 2 ^ 1
def gz2 (n v : Nat) : Nat := if v ≤ 16 then gz3 n v else gz3 (n + 4) (v / 2 ^ 4)
def gz1 (n v : Nat) : Nat := if v ≤ 256 then gz2 n v else gz2 (n + 8) (v / 2 ^ 8)
def gz0 (n v : Nat) : Nat := if v ≤ 65536 then gz1 n v else gz1 (n + 16) (v / 2 ^ 16)
theorem gz_ok : ∀ t, t < 32 → 0 < t → gz0 1 (2 ^ t - 1) = t := by decide +kernel
theorem ntz_i {x t : Nat} (hx : x < 2 ^ 32) (ht : x.testBit t = true) (hl : ∀ i, i < t → x.testBit i = false) : (nI x ^^^ (-1)) &&& nI (x - 1) = nI (2 ^ t - 1) := by
  have h := ntz_and hx ht hl
  apply Int32.toBitVec_inj.1
  show (BitVec.ofNat 32 x ^^^ (-1 : Int32).toBitVec) &&& BitVec.ofNat 32 (x - 1) = BitVec.ofNat 32 (2 ^ t - 1)
  rw [show (-1 : Int32).toBitVec = BitVec.ofNat 32 (2 ^ 32 - 1) by decide]
  apply BitVec.eq_of_getLsbD_eq
  intro i hi
  have hb : ((2 ^ 32 - 1 - x) &&& (x - 1)).testBit i = (2 ^ t - 1).testBit i := by rw [h]
  rw [Nat.testBit_and, show 2 ^ 32 - 1 - x = 2 ^ 32 - (x + 1) by omega, Nat.testBit_two_pow_sub_succ hx, decide_eq_true hi, Bool.true_and] at hb
  rw [BitVec.getLsbD_and, BitVec.getLsbD_xor, BitVec.getLsbD_ofNat, BitVec.getLsbD_ofNat, BitVec.getLsbD_ofNat, BitVec.getLsbD_ofNat, decide_eq_true hi, Bool.true_and, Bool.true_and, Bool.true_and, Bool.true_and, ← hb, Nat.testBit_two_pow_sub_one, decide_eq_true hi]
  cases x.testBit i <;> rfl
section C32
variable {Γ : gM} {d : Nat} {h : gH} {Q : Option Value → gH → Prop}
set_option maxRecDepth 100000 in
set_option maxHeartbeats 4000000 in
theorem c_ntzI {x t : Nat} (hx : x < 2 ^ 32) (ht : x.testBit t = true) (hl : ∀ i, i < t → x.testBit i = false) (hQ : Q (some (.int (nI t))) h) : V Γ mJ6_numberOfTrailingZeros_0f7a4 d 124 124 h 0 [some (.int (nI x)), none] [] Q := by
  have hx0 : 1 ≤ x := by
    rcases Nat.eq_zero_or_pos x with q | q
    · rw [q, Nat.zero_testBit] at ht; cases ht
    · exact q
  have ht32 : t < 32 := by
    rcases Nat.lt_or_ge t 32 with q | q
    · exact q
    · rw [Nat.testBit_lt_two_pow (Nat.lt_of_lt_of_le hx (Nat.pow_le_pow_right (by decide) q))] at ht; cases ht
  have e1 := ntz_i hx ht hl
  have hv31 : 2 ^ t ≤ 2 ^ 31 := Nat.pow_le_pow_right (by decide) (by omega)
  have hp : 0 < 2 ^ t := Nat.two_pow_pos t
  have hg := gz_ok t ht32
  have h0 : t = 0 ∨ 0 < t := by omega
  have hz : t = 0 → 2 ^ t - 1 = 0 := fun q => by rw [q]
  have hnz : 0 < t → 1 ≤ 2 ^ t - 1 := fun q => by
    have : 2 ^ 1 ≤ 2 ^ t := Nat.pow_le_pow_right (by decide) q
    omega
  obtain ⟨v, hv⟩ : ∃ v, v = 2 ^ t - 1 := ⟨_, rfl⟩
  rw [← hv] at e1 hg hz hnz
  have hvl : v < 2 ^ 31 := by omega
  refine V_iloadn0 dJ6_numberOfTrailingZeros_0f7a4_0 ?_
  refine V_iconst (v := -1) dJ6_numberOfTrailingZeros_0f7a4_1 (by decide) ?_
  refine V_ixor dJ6_numberOfTrailingZeros_0f7a4_2 ?_
  refine V_iloadn0 dJ6_numberOfTrailingZeros_0f7a4_3 ?_
  refine V_iconst (v := nI 1) dJ6_numberOfTrailingZeros_0f7a4_4 (by decide) ?_
  first | refine U_isub dJ6_numberOfTrailingZeros_0f7a4_5 (by with_reducible rfl) (by with_reducible rfl) (by omega) ?_ | refine V_isub dJ6_numberOfTrailingZeros_0f7a4_5 ?_
  refine V_iand dJ6_numberOfTrailingZeros_0f7a4_6 ?_
  refine V_topI e1 ?_
  refine V_istoren0 dJ6_numberOfTrailingZeros_0f7a4_7 (by decide) rfl ?_
  refine V_iloadn0 dJ6_numberOfTrailingZeros_0f7a4_8 ?_
  first | refine U_if_gt (tgt := 17) dJ6_numberOfTrailingZeros_0f7a4_9 (by decide) (by with_reducible rfl) (by omega) (fun c9 => ?_) (fun c9 => ?_) | refine V_if_gt (tgt := 17) dJ6_numberOfTrailingZeros_0f7a4_9 (by decide) (fun c9 => ?_) (fun c9 => ?_)
  · skip
    have hg := hg (by rcases h0 with q | q; have := hz q; omega; exact q)
    rw [gz0] at hg
    refine V_iconst (v := nI 1) dJ6_numberOfTrailingZeros_0f7a4_17 (by decide) ?_
    refine V_istoren1 dJ6_numberOfTrailingZeros_0f7a4_18 (by decide) rfl ?_
    refine V_iloadn0 dJ6_numberOfTrailingZeros_0f7a4_19 ?_
    refine V_ldcw (v := 65536) dJ6_numberOfTrailingZeros_0f7a4_20 kJ6_264 ?_
    refine V_topI (y := nI 65536) (by decide) ?_
    first | refine U_icmp_le (tgt := 34) dJ6_numberOfTrailingZeros_0f7a4_23 (by decide) (by with_reducible rfl) (by with_reducible rfl) (by omega) (by omega) (fun c23 => ?_) (fun c23 => ?_) | refine V_icmp_le (tgt := 34) dJ6_numberOfTrailingZeros_0f7a4_23 (by decide) (fun c23 => ?_) (fun c23 => ?_)
    · skip
      rw [if_pos c23, gz1] at hg
      refine V_iloadn0 dJ6_numberOfTrailingZeros_0f7a4_34 ?_
      refine V_sipush (v := nI 256) dJ6_numberOfTrailingZeros_0f7a4_35 (by decide) ?_
      first | refine U_icmp_le (tgt := 49) dJ6_numberOfTrailingZeros_0f7a4_38 (by decide) (by with_reducible rfl) (by with_reducible rfl) (by omega) (by omega) (fun c38 => ?_) (fun c38 => ?_) | refine V_icmp_le (tgt := 49) dJ6_numberOfTrailingZeros_0f7a4_38 (by decide) (fun c38 => ?_) (fun c38 => ?_)
      · skip
        rw [if_pos c38, gz2] at hg
        refine V_iloadn0 dJ6_numberOfTrailingZeros_0f7a4_49 ?_
        refine V_bipush (v := nI 16) dJ6_numberOfTrailingZeros_0f7a4_50 (by decide) ?_
        first | refine U_icmp_le (tgt := 62) dJ6_numberOfTrailingZeros_0f7a4_52 (by decide) (by with_reducible rfl) (by with_reducible rfl) (by omega) (by omega) (fun c52 => ?_) (fun c52 => ?_) | refine V_icmp_le (tgt := 62) dJ6_numberOfTrailingZeros_0f7a4_52 (by decide) (fun c52 => ?_) (fun c52 => ?_)
        · skip
          rw [if_pos c52, gz3] at hg
          refine V_iloadn0 dJ6_numberOfTrailingZeros_0f7a4_62 ?_
          refine V_iconst (v := nI 4) dJ6_numberOfTrailingZeros_0f7a4_63 (by decide) ?_
          first | refine U_icmp_le (tgt := 74) dJ6_numberOfTrailingZeros_0f7a4_64 (by decide) (by with_reducible rfl) (by with_reducible rfl) (by omega) (by omega) (fun c64 => ?_) (fun c64 => ?_) | refine V_icmp_le (tgt := 74) dJ6_numberOfTrailingZeros_0f7a4_64 (by decide) (fun c64 => ?_) (fun c64 => ?_)
          · skip
            rw [if_pos c64] at hg
            refine V_iloadn1 dJ6_numberOfTrailingZeros_0f7a4_74 ?_
            refine V_iloadn0 dJ6_numberOfTrailingZeros_0f7a4_75 ?_
            refine V_iconst (v := nI 1) dJ6_numberOfTrailingZeros_0f7a4_76 (by decide) ?_
            refine V_iushr dJ6_numberOfTrailingZeros_0f7a4_77 (pk_ushrN (by omega) _ 1 (by decide)) ?_
            first | refine U_iadd dJ6_numberOfTrailingZeros_0f7a4_78 (by with_reducible rfl) (by with_reducible rfl) ?_ | refine V_iadd dJ6_numberOfTrailingZeros_0f7a4_78 ?_
            rw [hg]
            refine V_iret dJ6_numberOfTrailingZeros_0f7a4_79 rfl rfl ?_
            exact hQ
          · skip
            rw [if_neg c64] at hg
            refine V_iinc1 dJ6_numberOfTrailingZeros_0f7a4_67 (gincN _ 2) (by decide) rfl ?_
            refine V_iloadn0 dJ6_numberOfTrailingZeros_0f7a4_70 ?_
            refine V_iconst (v := nI 2) dJ6_numberOfTrailingZeros_0f7a4_71 (by decide) ?_
            refine V_iushr dJ6_numberOfTrailingZeros_0f7a4_72 (pk_ushrN (by omega) _ 2 (by decide)) ?_
            refine V_istoren0 dJ6_numberOfTrailingZeros_0f7a4_73 (by decide) rfl ?_
            refine V_iloadn1 dJ6_numberOfTrailingZeros_0f7a4_74 ?_
            refine V_iloadn0 dJ6_numberOfTrailingZeros_0f7a4_75 ?_
            refine V_iconst (v := nI 1) dJ6_numberOfTrailingZeros_0f7a4_76 (by decide) ?_
            refine V_iushr dJ6_numberOfTrailingZeros_0f7a4_77 (pk_ushrN (by omega) _ 1 (by decide)) ?_
            first | refine U_iadd dJ6_numberOfTrailingZeros_0f7a4_78 (by with_reducible rfl) (by with_reducible rfl) ?_ | refine V_iadd dJ6_numberOfTrailingZeros_0f7a4_78 ?_
            rw [hg]
            refine V_iret dJ6_numberOfTrailingZeros_0f7a4_79 rfl rfl ?_
            exact hQ
        · skip
          rw [if_neg c52, gz3] at hg
          refine V_iinc1 dJ6_numberOfTrailingZeros_0f7a4_55 (gincN _ 4) (by decide) rfl ?_
          refine V_iloadn0 dJ6_numberOfTrailingZeros_0f7a4_58 ?_
          refine V_iconst (v := nI 4) dJ6_numberOfTrailingZeros_0f7a4_59 (by decide) ?_
          refine V_iushr dJ6_numberOfTrailingZeros_0f7a4_60 (pk_ushrN (by omega) _ 4 (by decide)) ?_
          refine V_istoren0 dJ6_numberOfTrailingZeros_0f7a4_61 (by decide) rfl ?_
          refine V_iloadn0 dJ6_numberOfTrailingZeros_0f7a4_62 ?_
          refine V_iconst (v := nI 4) dJ6_numberOfTrailingZeros_0f7a4_63 (by decide) ?_
          first | refine U_icmp_le (tgt := 74) dJ6_numberOfTrailingZeros_0f7a4_64 (by decide) (by with_reducible rfl) (by with_reducible rfl) (by omega) (by omega) (fun c64 => ?_) (fun c64 => ?_) | refine V_icmp_le (tgt := 74) dJ6_numberOfTrailingZeros_0f7a4_64 (by decide) (fun c64 => ?_) (fun c64 => ?_)
          · skip
            rw [if_pos c64] at hg
            refine V_iloadn1 dJ6_numberOfTrailingZeros_0f7a4_74 ?_
            refine V_iloadn0 dJ6_numberOfTrailingZeros_0f7a4_75 ?_
            refine V_iconst (v := nI 1) dJ6_numberOfTrailingZeros_0f7a4_76 (by decide) ?_
            refine V_iushr dJ6_numberOfTrailingZeros_0f7a4_77 (pk_ushrN (by omega) _ 1 (by decide)) ?_
            first | refine U_iadd dJ6_numberOfTrailingZeros_0f7a4_78 (by with_reducible rfl) (by with_reducible rfl) ?_ | refine V_iadd dJ6_numberOfTrailingZeros_0f7a4_78 ?_
            rw [hg]
            refine V_iret dJ6_numberOfTrailingZeros_0f7a4_79 rfl rfl ?_
            exact hQ
          · skip
            rw [if_neg c64] at hg
            refine V_iinc1 dJ6_numberOfTrailingZeros_0f7a4_67 (gincN _ 2) (by decide) rfl ?_
            refine V_iloadn0 dJ6_numberOfTrailingZeros_0f7a4_70 ?_
            refine V_iconst (v := nI 2) dJ6_numberOfTrailingZeros_0f7a4_71 (by decide) ?_
            refine V_iushr dJ6_numberOfTrailingZeros_0f7a4_72 (pk_ushrN (by omega) _ 2 (by decide)) ?_
            refine V_istoren0 dJ6_numberOfTrailingZeros_0f7a4_73 (by decide) rfl ?_
            refine V_iloadn1 dJ6_numberOfTrailingZeros_0f7a4_74 ?_
            refine V_iloadn0 dJ6_numberOfTrailingZeros_0f7a4_75 ?_
            refine V_iconst (v := nI 1) dJ6_numberOfTrailingZeros_0f7a4_76 (by decide) ?_
            refine V_iushr dJ6_numberOfTrailingZeros_0f7a4_77 (pk_ushrN (by omega) _ 1 (by decide)) ?_
            first | refine U_iadd dJ6_numberOfTrailingZeros_0f7a4_78 (by with_reducible rfl) (by with_reducible rfl) ?_ | refine V_iadd dJ6_numberOfTrailingZeros_0f7a4_78 ?_
            rw [hg]
            refine V_iret dJ6_numberOfTrailingZeros_0f7a4_79 rfl rfl ?_
            exact hQ
      · skip
        rw [if_neg c38, gz2] at hg
        refine V_iinc1 dJ6_numberOfTrailingZeros_0f7a4_41 (gincN _ 8) (by decide) rfl ?_
        refine V_iloadn0 dJ6_numberOfTrailingZeros_0f7a4_44 ?_
        refine V_bipush (v := nI 8) dJ6_numberOfTrailingZeros_0f7a4_45 (by decide) ?_
        refine V_iushr dJ6_numberOfTrailingZeros_0f7a4_47 (pk_ushrN (by omega) _ 8 (by decide)) ?_
        refine V_istoren0 dJ6_numberOfTrailingZeros_0f7a4_48 (by decide) rfl ?_
        refine V_iloadn0 dJ6_numberOfTrailingZeros_0f7a4_49 ?_
        refine V_bipush (v := nI 16) dJ6_numberOfTrailingZeros_0f7a4_50 (by decide) ?_
        first | refine U_icmp_le (tgt := 62) dJ6_numberOfTrailingZeros_0f7a4_52 (by decide) (by with_reducible rfl) (by with_reducible rfl) (by omega) (by omega) (fun c52 => ?_) (fun c52 => ?_) | refine V_icmp_le (tgt := 62) dJ6_numberOfTrailingZeros_0f7a4_52 (by decide) (fun c52 => ?_) (fun c52 => ?_)
        · skip
          rw [if_pos c52, gz3] at hg
          refine V_iloadn0 dJ6_numberOfTrailingZeros_0f7a4_62 ?_
          refine V_iconst (v := nI 4) dJ6_numberOfTrailingZeros_0f7a4_63 (by decide) ?_
          first | refine U_icmp_le (tgt := 74) dJ6_numberOfTrailingZeros_0f7a4_64 (by decide) (by with_reducible rfl) (by with_reducible rfl) (by omega) (by omega) (fun c64 => ?_) (fun c64 => ?_) | refine V_icmp_le (tgt := 74) dJ6_numberOfTrailingZeros_0f7a4_64 (by decide) (fun c64 => ?_) (fun c64 => ?_)
          · skip
            rw [if_pos c64] at hg
            refine V_iloadn1 dJ6_numberOfTrailingZeros_0f7a4_74 ?_
            refine V_iloadn0 dJ6_numberOfTrailingZeros_0f7a4_75 ?_
            refine V_iconst (v := nI 1) dJ6_numberOfTrailingZeros_0f7a4_76 (by decide) ?_
            refine V_iushr dJ6_numberOfTrailingZeros_0f7a4_77 (pk_ushrN (by omega) _ 1 (by decide)) ?_
            first | refine U_iadd dJ6_numberOfTrailingZeros_0f7a4_78 (by with_reducible rfl) (by with_reducible rfl) ?_ | refine V_iadd dJ6_numberOfTrailingZeros_0f7a4_78 ?_
            rw [hg]
            refine V_iret dJ6_numberOfTrailingZeros_0f7a4_79 rfl rfl ?_
            exact hQ
          · skip
            rw [if_neg c64] at hg
            refine V_iinc1 dJ6_numberOfTrailingZeros_0f7a4_67 (gincN _ 2) (by decide) rfl ?_
            refine V_iloadn0 dJ6_numberOfTrailingZeros_0f7a4_70 ?_
            refine V_iconst (v := nI 2) dJ6_numberOfTrailingZeros_0f7a4_71 (by decide) ?_
            refine V_iushr dJ6_numberOfTrailingZeros_0f7a4_72 (pk_ushrN (by omega) _ 2 (by decide)) ?_
            refine V_istoren0 dJ6_numberOfTrailingZeros_0f7a4_73 (by decide) rfl ?_
            refine V_iloadn1 dJ6_numberOfTrailingZeros_0f7a4_74 ?_
            refine V_iloadn0 dJ6_numberOfTrailingZeros_0f7a4_75 ?_
            refine V_iconst (v := nI 1) dJ6_numberOfTrailingZeros_0f7a4_76 (by decide) ?_
            refine V_iushr dJ6_numberOfTrailingZeros_0f7a4_77 (pk_ushrN (by omega) _ 1 (by decide)) ?_
            first | refine U_iadd dJ6_numberOfTrailingZeros_0f7a4_78 (by with_reducible rfl) (by with_reducible rfl) ?_ | refine V_iadd dJ6_numberOfTrailingZeros_0f7a4_78 ?_
            rw [hg]
            refine V_iret dJ6_numberOfTrailingZeros_0f7a4_79 rfl rfl ?_
            exact hQ
        · skip
          rw [if_neg c52, gz3] at hg
          refine V_iinc1 dJ6_numberOfTrailingZeros_0f7a4_55 (gincN _ 4) (by decide) rfl ?_
          refine V_iloadn0 dJ6_numberOfTrailingZeros_0f7a4_58 ?_
          refine V_iconst (v := nI 4) dJ6_numberOfTrailingZeros_0f7a4_59 (by decide) ?_
          refine V_iushr dJ6_numberOfTrailingZeros_0f7a4_60 (pk_ushrN (by omega) _ 4 (by decide)) ?_
          refine V_istoren0 dJ6_numberOfTrailingZeros_0f7a4_61 (by decide) rfl ?_
          refine V_iloadn0 dJ6_numberOfTrailingZeros_0f7a4_62 ?_
          refine V_iconst (v := nI 4) dJ6_numberOfTrailingZeros_0f7a4_63 (by decide) ?_
          first | refine U_icmp_le (tgt := 74) dJ6_numberOfTrailingZeros_0f7a4_64 (by decide) (by with_reducible rfl) (by with_reducible rfl) (by omega) (by omega) (fun c64 => ?_) (fun c64 => ?_) | refine V_icmp_le (tgt := 74) dJ6_numberOfTrailingZeros_0f7a4_64 (by decide) (fun c64 => ?_) (fun c64 => ?_)
          · skip
            rw [if_pos c64] at hg
            refine V_iloadn1 dJ6_numberOfTrailingZeros_0f7a4_74 ?_
            refine V_iloadn0 dJ6_numberOfTrailingZeros_0f7a4_75 ?_
            refine V_iconst (v := nI 1) dJ6_numberOfTrailingZeros_0f7a4_76 (by decide) ?_
            refine V_iushr dJ6_numberOfTrailingZeros_0f7a4_77 (pk_ushrN (by omega) _ 1 (by decide)) ?_
            first | refine U_iadd dJ6_numberOfTrailingZeros_0f7a4_78 (by with_reducible rfl) (by with_reducible rfl) ?_ | refine V_iadd dJ6_numberOfTrailingZeros_0f7a4_78 ?_
            rw [hg]
            refine V_iret dJ6_numberOfTrailingZeros_0f7a4_79 rfl rfl ?_
            exact hQ
          · skip
            rw [if_neg c64] at hg
            refine V_iinc1 dJ6_numberOfTrailingZeros_0f7a4_67 (gincN _ 2) (by decide) rfl ?_
            refine V_iloadn0 dJ6_numberOfTrailingZeros_0f7a4_70 ?_
            refine V_iconst (v := nI 2) dJ6_numberOfTrailingZeros_0f7a4_71 (by decide) ?_
            refine V_iushr dJ6_numberOfTrailingZeros_0f7a4_72 (pk_ushrN (by omega) _ 2 (by decide)) ?_
            refine V_istoren0 dJ6_numberOfTrailingZeros_0f7a4_73 (by decide) rfl ?_
            refine V_iloadn1 dJ6_numberOfTrailingZeros_0f7a4_74 ?_
            refine V_iloadn0 dJ6_numberOfTrailingZeros_0f7a4_75 ?_
            refine V_iconst (v := nI 1) dJ6_numberOfTrailingZeros_0f7a4_76 (by decide) ?_
            refine V_iushr dJ6_numberOfTrailingZeros_0f7a4_77 (pk_ushrN (by omega) _ 1 (by decide)) ?_
            first | refine U_iadd dJ6_numberOfTrailingZeros_0f7a4_78 (by with_reducible rfl) (by with_reducible rfl) ?_ | refine V_iadd dJ6_numberOfTrailingZeros_0f7a4_78 ?_
            rw [hg]
            refine V_iret dJ6_numberOfTrailingZeros_0f7a4_79 rfl rfl ?_
            exact hQ
    · skip
      rw [if_neg c23, gz1] at hg
      refine V_iinc1 dJ6_numberOfTrailingZeros_0f7a4_26 (gincN _ 16) (by decide) rfl ?_
      refine V_iloadn0 dJ6_numberOfTrailingZeros_0f7a4_29 ?_
      refine V_bipush (v := nI 16) dJ6_numberOfTrailingZeros_0f7a4_30 (by decide) ?_
      refine V_iushr dJ6_numberOfTrailingZeros_0f7a4_32 (pk_ushrN (by omega) _ 16 (by decide)) ?_
      refine V_istoren0 dJ6_numberOfTrailingZeros_0f7a4_33 (by decide) rfl ?_
      refine V_iloadn0 dJ6_numberOfTrailingZeros_0f7a4_34 ?_
      refine V_sipush (v := nI 256) dJ6_numberOfTrailingZeros_0f7a4_35 (by decide) ?_
      first | refine U_icmp_le (tgt := 49) dJ6_numberOfTrailingZeros_0f7a4_38 (by decide) (by with_reducible rfl) (by with_reducible rfl) (by omega) (by omega) (fun c38 => ?_) (fun c38 => ?_) | refine V_icmp_le (tgt := 49) dJ6_numberOfTrailingZeros_0f7a4_38 (by decide) (fun c38 => ?_) (fun c38 => ?_)
      · skip
        rw [if_pos c38, gz2] at hg
        refine V_iloadn0 dJ6_numberOfTrailingZeros_0f7a4_49 ?_
        refine V_bipush (v := nI 16) dJ6_numberOfTrailingZeros_0f7a4_50 (by decide) ?_
        first | refine U_icmp_le (tgt := 62) dJ6_numberOfTrailingZeros_0f7a4_52 (by decide) (by with_reducible rfl) (by with_reducible rfl) (by omega) (by omega) (fun c52 => ?_) (fun c52 => ?_) | refine V_icmp_le (tgt := 62) dJ6_numberOfTrailingZeros_0f7a4_52 (by decide) (fun c52 => ?_) (fun c52 => ?_)
        · skip
          rw [if_pos c52, gz3] at hg
          refine V_iloadn0 dJ6_numberOfTrailingZeros_0f7a4_62 ?_
          refine V_iconst (v := nI 4) dJ6_numberOfTrailingZeros_0f7a4_63 (by decide) ?_
          first | refine U_icmp_le (tgt := 74) dJ6_numberOfTrailingZeros_0f7a4_64 (by decide) (by with_reducible rfl) (by with_reducible rfl) (by omega) (by omega) (fun c64 => ?_) (fun c64 => ?_) | refine V_icmp_le (tgt := 74) dJ6_numberOfTrailingZeros_0f7a4_64 (by decide) (fun c64 => ?_) (fun c64 => ?_)
          · skip
            rw [if_pos c64] at hg
            refine V_iloadn1 dJ6_numberOfTrailingZeros_0f7a4_74 ?_
            refine V_iloadn0 dJ6_numberOfTrailingZeros_0f7a4_75 ?_
            refine V_iconst (v := nI 1) dJ6_numberOfTrailingZeros_0f7a4_76 (by decide) ?_
            refine V_iushr dJ6_numberOfTrailingZeros_0f7a4_77 (pk_ushrN (by omega) _ 1 (by decide)) ?_
            first | refine U_iadd dJ6_numberOfTrailingZeros_0f7a4_78 (by with_reducible rfl) (by with_reducible rfl) ?_ | refine V_iadd dJ6_numberOfTrailingZeros_0f7a4_78 ?_
            rw [hg]
            refine V_iret dJ6_numberOfTrailingZeros_0f7a4_79 rfl rfl ?_
            exact hQ
          · skip
            rw [if_neg c64] at hg
            refine V_iinc1 dJ6_numberOfTrailingZeros_0f7a4_67 (gincN _ 2) (by decide) rfl ?_
            refine V_iloadn0 dJ6_numberOfTrailingZeros_0f7a4_70 ?_
            refine V_iconst (v := nI 2) dJ6_numberOfTrailingZeros_0f7a4_71 (by decide) ?_
            refine V_iushr dJ6_numberOfTrailingZeros_0f7a4_72 (pk_ushrN (by omega) _ 2 (by decide)) ?_
            refine V_istoren0 dJ6_numberOfTrailingZeros_0f7a4_73 (by decide) rfl ?_
            refine V_iloadn1 dJ6_numberOfTrailingZeros_0f7a4_74 ?_
            refine V_iloadn0 dJ6_numberOfTrailingZeros_0f7a4_75 ?_
            refine V_iconst (v := nI 1) dJ6_numberOfTrailingZeros_0f7a4_76 (by decide) ?_
            refine V_iushr dJ6_numberOfTrailingZeros_0f7a4_77 (pk_ushrN (by omega) _ 1 (by decide)) ?_
            first | refine U_iadd dJ6_numberOfTrailingZeros_0f7a4_78 (by with_reducible rfl) (by with_reducible rfl) ?_ | refine V_iadd dJ6_numberOfTrailingZeros_0f7a4_78 ?_
            rw [hg]
            refine V_iret dJ6_numberOfTrailingZeros_0f7a4_79 rfl rfl ?_
            exact hQ
        · skip
          rw [if_neg c52, gz3] at hg
          refine V_iinc1 dJ6_numberOfTrailingZeros_0f7a4_55 (gincN _ 4) (by decide) rfl ?_
          refine V_iloadn0 dJ6_numberOfTrailingZeros_0f7a4_58 ?_
          refine V_iconst (v := nI 4) dJ6_numberOfTrailingZeros_0f7a4_59 (by decide) ?_
          refine V_iushr dJ6_numberOfTrailingZeros_0f7a4_60 (pk_ushrN (by omega) _ 4 (by decide)) ?_
          refine V_istoren0 dJ6_numberOfTrailingZeros_0f7a4_61 (by decide) rfl ?_
          refine V_iloadn0 dJ6_numberOfTrailingZeros_0f7a4_62 ?_
          refine V_iconst (v := nI 4) dJ6_numberOfTrailingZeros_0f7a4_63 (by decide) ?_
          first | refine U_icmp_le (tgt := 74) dJ6_numberOfTrailingZeros_0f7a4_64 (by decide) (by with_reducible rfl) (by with_reducible rfl) (by omega) (by omega) (fun c64 => ?_) (fun c64 => ?_) | refine V_icmp_le (tgt := 74) dJ6_numberOfTrailingZeros_0f7a4_64 (by decide) (fun c64 => ?_) (fun c64 => ?_)
          · skip
            rw [if_pos c64] at hg
            refine V_iloadn1 dJ6_numberOfTrailingZeros_0f7a4_74 ?_
            refine V_iloadn0 dJ6_numberOfTrailingZeros_0f7a4_75 ?_
            refine V_iconst (v := nI 1) dJ6_numberOfTrailingZeros_0f7a4_76 (by decide) ?_
            refine V_iushr dJ6_numberOfTrailingZeros_0f7a4_77 (pk_ushrN (by omega) _ 1 (by decide)) ?_
            first | refine U_iadd dJ6_numberOfTrailingZeros_0f7a4_78 (by with_reducible rfl) (by with_reducible rfl) ?_ | refine V_iadd dJ6_numberOfTrailingZeros_0f7a4_78 ?_
            rw [hg]
            refine V_iret dJ6_numberOfTrailingZeros_0f7a4_79 rfl rfl ?_
            exact hQ
          · skip
            rw [if_neg c64] at hg
            refine V_iinc1 dJ6_numberOfTrailingZeros_0f7a4_67 (gincN _ 2) (by decide) rfl ?_
            refine V_iloadn0 dJ6_numberOfTrailingZeros_0f7a4_70 ?_
            refine V_iconst (v := nI 2) dJ6_numberOfTrailingZeros_0f7a4_71 (by decide) ?_
            refine V_iushr dJ6_numberOfTrailingZeros_0f7a4_72 (pk_ushrN (by omega) _ 2 (by decide)) ?_
            refine V_istoren0 dJ6_numberOfTrailingZeros_0f7a4_73 (by decide) rfl ?_
            refine V_iloadn1 dJ6_numberOfTrailingZeros_0f7a4_74 ?_
            refine V_iloadn0 dJ6_numberOfTrailingZeros_0f7a4_75 ?_
            refine V_iconst (v := nI 1) dJ6_numberOfTrailingZeros_0f7a4_76 (by decide) ?_
            refine V_iushr dJ6_numberOfTrailingZeros_0f7a4_77 (pk_ushrN (by omega) _ 1 (by decide)) ?_
            first | refine U_iadd dJ6_numberOfTrailingZeros_0f7a4_78 (by with_reducible rfl) (by with_reducible rfl) ?_ | refine V_iadd dJ6_numberOfTrailingZeros_0f7a4_78 ?_
            rw [hg]
            refine V_iret dJ6_numberOfTrailingZeros_0f7a4_79 rfl rfl ?_
            exact hQ
      · skip
        rw [if_neg c38, gz2] at hg
        refine V_iinc1 dJ6_numberOfTrailingZeros_0f7a4_41 (gincN _ 8) (by decide) rfl ?_
        refine V_iloadn0 dJ6_numberOfTrailingZeros_0f7a4_44 ?_
        refine V_bipush (v := nI 8) dJ6_numberOfTrailingZeros_0f7a4_45 (by decide) ?_
        refine V_iushr dJ6_numberOfTrailingZeros_0f7a4_47 (pk_ushrN (by omega) _ 8 (by decide)) ?_
        refine V_istoren0 dJ6_numberOfTrailingZeros_0f7a4_48 (by decide) rfl ?_
        refine V_iloadn0 dJ6_numberOfTrailingZeros_0f7a4_49 ?_
        refine V_bipush (v := nI 16) dJ6_numberOfTrailingZeros_0f7a4_50 (by decide) ?_
        first | refine U_icmp_le (tgt := 62) dJ6_numberOfTrailingZeros_0f7a4_52 (by decide) (by with_reducible rfl) (by with_reducible rfl) (by omega) (by omega) (fun c52 => ?_) (fun c52 => ?_) | refine V_icmp_le (tgt := 62) dJ6_numberOfTrailingZeros_0f7a4_52 (by decide) (fun c52 => ?_) (fun c52 => ?_)
        · skip
          rw [if_pos c52, gz3] at hg
          refine V_iloadn0 dJ6_numberOfTrailingZeros_0f7a4_62 ?_
          refine V_iconst (v := nI 4) dJ6_numberOfTrailingZeros_0f7a4_63 (by decide) ?_
          first | refine U_icmp_le (tgt := 74) dJ6_numberOfTrailingZeros_0f7a4_64 (by decide) (by with_reducible rfl) (by with_reducible rfl) (by omega) (by omega) (fun c64 => ?_) (fun c64 => ?_) | refine V_icmp_le (tgt := 74) dJ6_numberOfTrailingZeros_0f7a4_64 (by decide) (fun c64 => ?_) (fun c64 => ?_)
          · skip
            rw [if_pos c64] at hg
            refine V_iloadn1 dJ6_numberOfTrailingZeros_0f7a4_74 ?_
            refine V_iloadn0 dJ6_numberOfTrailingZeros_0f7a4_75 ?_
            refine V_iconst (v := nI 1) dJ6_numberOfTrailingZeros_0f7a4_76 (by decide) ?_
            refine V_iushr dJ6_numberOfTrailingZeros_0f7a4_77 (pk_ushrN (by omega) _ 1 (by decide)) ?_
            first | refine U_iadd dJ6_numberOfTrailingZeros_0f7a4_78 (by with_reducible rfl) (by with_reducible rfl) ?_ | refine V_iadd dJ6_numberOfTrailingZeros_0f7a4_78 ?_
            rw [hg]
            refine V_iret dJ6_numberOfTrailingZeros_0f7a4_79 rfl rfl ?_
            exact hQ
          · skip
            rw [if_neg c64] at hg
            refine V_iinc1 dJ6_numberOfTrailingZeros_0f7a4_67 (gincN _ 2) (by decide) rfl ?_
            refine V_iloadn0 dJ6_numberOfTrailingZeros_0f7a4_70 ?_
            refine V_iconst (v := nI 2) dJ6_numberOfTrailingZeros_0f7a4_71 (by decide) ?_
            refine V_iushr dJ6_numberOfTrailingZeros_0f7a4_72 (pk_ushrN (by omega) _ 2 (by decide)) ?_
            refine V_istoren0 dJ6_numberOfTrailingZeros_0f7a4_73 (by decide) rfl ?_
            refine V_iloadn1 dJ6_numberOfTrailingZeros_0f7a4_74 ?_
            refine V_iloadn0 dJ6_numberOfTrailingZeros_0f7a4_75 ?_
            refine V_iconst (v := nI 1) dJ6_numberOfTrailingZeros_0f7a4_76 (by decide) ?_
            refine V_iushr dJ6_numberOfTrailingZeros_0f7a4_77 (pk_ushrN (by omega) _ 1 (by decide)) ?_
            first | refine U_iadd dJ6_numberOfTrailingZeros_0f7a4_78 (by with_reducible rfl) (by with_reducible rfl) ?_ | refine V_iadd dJ6_numberOfTrailingZeros_0f7a4_78 ?_
            rw [hg]
            refine V_iret dJ6_numberOfTrailingZeros_0f7a4_79 rfl rfl ?_
            exact hQ
        · skip
          rw [if_neg c52, gz3] at hg
          refine V_iinc1 dJ6_numberOfTrailingZeros_0f7a4_55 (gincN _ 4) (by decide) rfl ?_
          refine V_iloadn0 dJ6_numberOfTrailingZeros_0f7a4_58 ?_
          refine V_iconst (v := nI 4) dJ6_numberOfTrailingZeros_0f7a4_59 (by decide) ?_
          refine V_iushr dJ6_numberOfTrailingZeros_0f7a4_60 (pk_ushrN (by omega) _ 4 (by decide)) ?_
          refine V_istoren0 dJ6_numberOfTrailingZeros_0f7a4_61 (by decide) rfl ?_
          refine V_iloadn0 dJ6_numberOfTrailingZeros_0f7a4_62 ?_
          refine V_iconst (v := nI 4) dJ6_numberOfTrailingZeros_0f7a4_63 (by decide) ?_
          first | refine U_icmp_le (tgt := 74) dJ6_numberOfTrailingZeros_0f7a4_64 (by decide) (by with_reducible rfl) (by with_reducible rfl) (by omega) (by omega) (fun c64 => ?_) (fun c64 => ?_) | refine V_icmp_le (tgt := 74) dJ6_numberOfTrailingZeros_0f7a4_64 (by decide) (fun c64 => ?_) (fun c64 => ?_)
          · skip
            rw [if_pos c64] at hg
            refine V_iloadn1 dJ6_numberOfTrailingZeros_0f7a4_74 ?_
            refine V_iloadn0 dJ6_numberOfTrailingZeros_0f7a4_75 ?_
            refine V_iconst (v := nI 1) dJ6_numberOfTrailingZeros_0f7a4_76 (by decide) ?_
            refine V_iushr dJ6_numberOfTrailingZeros_0f7a4_77 (pk_ushrN (by omega) _ 1 (by decide)) ?_
            first | refine U_iadd dJ6_numberOfTrailingZeros_0f7a4_78 (by with_reducible rfl) (by with_reducible rfl) ?_ | refine V_iadd dJ6_numberOfTrailingZeros_0f7a4_78 ?_
            rw [hg]
            refine V_iret dJ6_numberOfTrailingZeros_0f7a4_79 rfl rfl ?_
            exact hQ
          · skip
            rw [if_neg c64] at hg
            refine V_iinc1 dJ6_numberOfTrailingZeros_0f7a4_67 (gincN _ 2) (by decide) rfl ?_
            refine V_iloadn0 dJ6_numberOfTrailingZeros_0f7a4_70 ?_
            refine V_iconst (v := nI 2) dJ6_numberOfTrailingZeros_0f7a4_71 (by decide) ?_
            refine V_iushr dJ6_numberOfTrailingZeros_0f7a4_72 (pk_ushrN (by omega) _ 2 (by decide)) ?_
            refine V_istoren0 dJ6_numberOfTrailingZeros_0f7a4_73 (by decide) rfl ?_
            refine V_iloadn1 dJ6_numberOfTrailingZeros_0f7a4_74 ?_
            refine V_iloadn0 dJ6_numberOfTrailingZeros_0f7a4_75 ?_
            refine V_iconst (v := nI 1) dJ6_numberOfTrailingZeros_0f7a4_76 (by decide) ?_
            refine V_iushr dJ6_numberOfTrailingZeros_0f7a4_77 (pk_ushrN (by omega) _ 1 (by decide)) ?_
            first | refine U_iadd dJ6_numberOfTrailingZeros_0f7a4_78 (by with_reducible rfl) (by with_reducible rfl) ?_ | refine V_iadd dJ6_numberOfTrailingZeros_0f7a4_78 ?_
            rw [hg]
            refine V_iret dJ6_numberOfTrailingZeros_0f7a4_79 rfl rfl ?_
            exact hQ
  · skip
    have hv0 : v = 0 := by omega
    have et : t = 0 := by
      rcases h0 with q | q
      · exact q
      · have := hnz q; omega
    rw [et] at hQ
    refine V_iloadn0 dJ6_numberOfTrailingZeros_0f7a4_12 ?_
    refine V_bipush (v := nI 32) dJ6_numberOfTrailingZeros_0f7a4_13 (by decide) ?_
    refine V_iand dJ6_numberOfTrailingZeros_0f7a4_15 ?_
    refine V_topI (y := nI 0) (by rw [hv0]; decide) ?_
    refine V_iret dJ6_numberOfTrailingZeros_0f7a4_16 rfl rfl ?_
    exact hQ
end C32
