/-! ===== the reference: together ===== -/
theorem bq_len (L : List Nat) : ∀ m, (bq L m).length = psum L m
  | 0 => by rw [psum_z]; rfl
  | m + 1 => by rw [bq, List.length_append, List.length_replicate, bq_len L m, psum_s]; omega
section C85
variable {Γ : gM} {d : Nat} {h : gH} {Q : Option Value → gH → Prop} {S : GS}
set_option maxRecDepth 100000 in
set_option maxHeartbeats 4000000 in
theorem m_sum {arr : Nat} {L : List Nat} (ha2 : arr < 124) (hla : lay arr = some (.inl (0, 6))) (hA : ∀ r, r < 6 → gI h arr r = nI (L.getD r 0)) (hQ : Q (some (.int (nI (psum L 6)))) h) : V Γ mX10_sum d 124 124 h 0 [some (.ref arr), none, none] [] Q := by
  have loop : ∀ f k, k + f = 6 → V Γ mX10_sum d 124 124 h 4 [some (.ref arr), some (.int (nI (psum L k))), some (.int (nI k))] [] Q := by
    intro f
    induction f with
    | zero =>
      intro k hk
      have e : k = 6 := by omega
      subst e
      refine V_iloadn2 dX10_sum_4 ?_
      refine V_bipush (v := nI 6) dX10_sum_5 (by decide) ?_
      first | refine U_icmp_ge (tgt := 22) dX10_sum_7 (by decide) (by with_reducible rfl) (by with_reducible rfl) (by omega) (by omega) (fun c7 => ?_) (fun c7 => ?_) | refine V_icmp_ge (tgt := 22) dX10_sum_7 (by decide) (fun c7 => ?_) (fun c7 => ?_)
      · skip
        refine V_iloadn1 dX10_sum_22 ?_
        refine V_iret dX10_sum_23 rfl rfl ?_
        exact hQ
      · skip
        omega
    | succ f ih =>
      intro k hk
      have gk := hA k (by omega)
      have z := ih (k + 1) (by omega)
      rw [psum_s] at z
      refine V_iloadn2 dX10_sum_4 ?_
      refine V_bipush (v := nI 6) dX10_sum_5 (by decide) ?_
      first | refine U_icmp_ge (tgt := 22) dX10_sum_7 (by decide) (by with_reducible rfl) (by with_reducible rfl) (by omega) (by omega) (fun c7 => ?_) (fun c7 => ?_) | refine V_icmp_ge (tgt := 22) dX10_sum_7 (by decide) (fun c7 => ?_) (fun c7 => ?_)
      · skip
        omega
      · skip
        refine V_iloadn1 dX10_sum_10 ?_
        refine V_aloadn0 dX10_sum_11 ?_
        refine V_iloadn2 dX10_sum_12 ?_
        refine U_iald dX10_sum_13 (by with_reducible rfl) (by first | assumption | rfl) (by first | decide | omega) (by omega) (by first | assumption | exact ML_4 (by assumption) | exact ML_5 (by assumption) | exact ML_6 (by assumption) | exact ML_7 (by assumption) | exact ML_8 (by assumption) | exact ML_9 (by assumption) | exact ML_10 (by assumption) | exact ML_11 (by assumption) | exact ML_12 (by assumption) | exact ML_13 (by assumption) | exact ML_15 (by assumption) | exact ML_16 (by assumption) | exact ML_17 (by assumption) | exact ML_20 (by assumption) | exact ML_23 (by assumption) | exact ML_24 (by assumption) | exact ML_30 (by assumption) | exact ML_31 (by assumption) | exact ML_32 (by assumption) | exact ML_33 (by assumption) | exact ML_35 (by assumption) | exact ML_36 (by assumption) | exact ML_37 (by assumption) | exact ML_38 (by assumption) | exact ML_41 (by assumption) | exact ML_42 (by assumption) | exact ML_43 (by assumption) | exact ML_44 (by assumption) | exact ML_45 (by assumption) | rfl) ?_
        first | refine U_iadd dX10_sum_14 (by with_reducible rfl) (by with_reducible rfl) ?_ | refine V_iadd dX10_sum_14 ?_
        refine V_istoren1 dX10_sum_15 (by decide) rfl ?_
        refine V_iinc2 dX10_sum_16 (by first | exact ginc1 _ | rfl) (by decide) rfl ?_
        refine V_goto (tgt := 4) dX10_sum_19 (by decide) ?_
        exact z
  refine V_iconst (v := nI 0) dX10_sum_0 (by decide) ?_
  refine V_istoren1 dX10_sum_1 (by decide) rfl ?_
  refine V_iconst (v := nI 0) dX10_sum_2 (by decide) ?_
  refine V_istoren2 dX10_sum_3 (by decide) rfl ?_
  exact loop 6 0 (by omega)
end C85
