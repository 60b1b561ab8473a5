/-! ===== the law: its other calls ===== -/
section C91
variable {Γ : gM} {d j : Nat} {h : gH} {Q : Option Value → gH → Prop} {S : GS}
set_option maxRecDepth 100000 in
set_option maxHeartbeats 4000000 in
theorem L_17 (hd : 20 ≤ d) (hj : j + 6 ≤ Γ.2.2.2.1.2.1) (hRC : RC h S) (hRM : RM h S) (kk : ∀ h' S', RC h' S' → RM h' S' → V Γ mL_law d 124 124 h' 1346 [some (.ref 1000), some (.ref 0), some (.ref 94), some (.int (nI j))] [] Q) : V Γ mL_law d 124 124 h 755 [some (.ref 1000), some (.ref 0), some (.ref 94), some (.int (nI j))] [] Q := by
  refine V_aloadn1 dL_law_755 ?_
  refine V_aloadn0 dL_law_756 ?_
  refine V_iloadn3 dL_law_757 ?_
  refine V_iconst (v := nI 1) dL_law_758 (by decide) ?_
  first | refine U_iadd dL_law_759 (by with_reducible rfl) (by with_reducible rfl) ?_ | refine V_iadd dL_law_759 ?_
  refine V_sld dL_law_760 (by omega) ?_
  refine V_aloadn0 dL_law_761 ?_
  refine V_iloadn3 dL_law_762 ?_
  refine V_iconst (v := nI 2) dL_law_763 (by decide) ?_
  first | refine U_iadd dL_law_764 (by with_reducible rfl) (by with_reducible rfl) ?_ | refine V_iadd dL_law_764 ?_
  refine V_sld dL_law_765 (by omega) ?_
  refine V_callV2 (μ' := mX9_record) dL_law_766 okX9_record lL_88 rfl (by first | assumption | rfl) (by first | decide | omega) (Nat.le_of_ble_eq_true rfl) (Nat.le_of_ble_eq_true rfl) (by omega) ?_
  refine c_record (by omega) hRC (fun h1 r1 f1 => ?_)
  have hM1 := RM_C hRM f1
  dsimp only [gPush]
  refine V_aloadn2 dL_law_769 ?_
  refine V_aloadn0 dL_law_770 ?_
  refine V_iloadn3 dL_law_771 ?_
  refine V_iconst (v := nI 1) dL_law_772 (by decide) ?_
  first | refine U_iadd dL_law_773 (by with_reducible rfl) (by with_reducible rfl) ?_ | refine V_iadd dL_law_773 ?_
  refine V_sld dL_law_774 (by omega) ?_
  refine V_aloadn0 dL_law_775 ?_
  refine V_iloadn3 dL_law_776 ?_
  refine V_iconst (v := nI 2) dL_law_777 (by decide) ?_
  first | refine U_iadd dL_law_778 (by with_reducible rfl) (by with_reducible rfl) ?_ | refine V_iadd dL_law_778 ?_
  refine V_sld dL_law_779 (by omega) ?_
  refine V_callV2 (μ' := mX10_record) dL_law_780 okX10_record lL_91 rfl (by first | assumption | rfl) (by first | decide | omega) (Nat.le_of_ble_eq_true rfl) (Nat.le_of_ble_eq_true rfl) (by omega) ?_
  refine m_record (by omega) hM1 hRC.2.1 (fun h2 r2 f2 => ?_)
  dsimp only [gPush]
  refine V_icmp_eq (tgt := 1346) dL_law_783 (by decide) (fun c783 => ?_) (fun c783 => ?_)
  · skip
    exact kk h2 _ (RC_D r1 f2) r2
  · skip
    exact absurd rfl c783
set_option maxRecDepth 100000 in
set_option maxHeartbeats 4000000 in
theorem L_18 (hd : 20 ≤ d) (hj : j + 6 ≤ Γ.2.2.2.1.2.1) (hRC : RC h S) (hRM : RM h S) (kk : ∀ h' S', RC h' S' → RM h' S' → V Γ mL_law d 124 124 h' 1346 [some (.ref 1000), some (.ref 0), some (.ref 94), some (.int (nI j))] [] Q) : V Γ mL_law d 124 124 h 788 [some (.ref 1000), some (.ref 0), some (.ref 94), some (.int (nI j))] [] Q := by
  refine V_aloadn1 dL_law_788 ?_
  refine V_aloadn0 dL_law_789 ?_
  refine V_iloadn3 dL_law_790 ?_
  refine V_iconst (v := nI 1) dL_law_791 (by decide) ?_
  first | refine U_iadd dL_law_792 (by with_reducible rfl) (by with_reducible rfl) ?_ | refine V_iadd dL_law_792 ?_
  refine V_sld dL_law_793 (by omega) ?_
  refine V_aloadn0 dL_law_794 ?_
  refine V_iloadn3 dL_law_795 ?_
  refine V_iconst (v := nI 2) dL_law_796 (by decide) ?_
  first | refine U_iadd dL_law_797 (by with_reducible rfl) (by with_reducible rfl) ?_ | refine V_iadd dL_law_797 ?_
  refine V_sld dL_law_798 (by omega) ?_
  refine V_callV2 (μ' := mX9_alike) dL_law_799 okX9_alike lL_92 rfl (by first | assumption | rfl) (by first | decide | omega) (Nat.le_of_ble_eq_true rfl) (Nat.le_of_ble_eq_true rfl) (by omega) ?_
  refine c_alike (by omega) hRC (fun h1 r1 f1 => ?_)
  have hM1 := RM_C hRM f1
  dsimp only [gPush]
  refine V_aloadn2 dL_law_802 ?_
  refine V_aloadn0 dL_law_803 ?_
  refine V_iloadn3 dL_law_804 ?_
  refine V_iconst (v := nI 1) dL_law_805 (by decide) ?_
  first | refine U_iadd dL_law_806 (by with_reducible rfl) (by with_reducible rfl) ?_ | refine V_iadd dL_law_806 ?_
  refine V_sld dL_law_807 (by omega) ?_
  refine V_aloadn0 dL_law_808 ?_
  refine V_iloadn3 dL_law_809 ?_
  refine V_iconst (v := nI 2) dL_law_810 (by decide) ?_
  first | refine U_iadd dL_law_811 (by with_reducible rfl) (by with_reducible rfl) ?_ | refine V_iadd dL_law_811 ?_
  refine V_sld dL_law_812 (by omega) ?_
  refine V_callV2 (μ' := mX10_alike) dL_law_813 okX10_alike lL_95 rfl (by first | assumption | rfl) (by first | decide | omega) (Nat.le_of_ble_eq_true rfl) (Nat.le_of_ble_eq_true rfl) (by omega) ?_
  refine m_alike (by omega) hM1 hRC.2.1 (fun h2 r2 f2 => ?_)
  dsimp only [gPush]
  refine V_icmp_eq (tgt := 1346) dL_law_816 (by decide) (fun c816 => ?_) (fun c816 => ?_)
  · skip
    exact kk h2 _ (RC_D r1 f2) r2
  · skip
    exact absurd rfl c816
set_option maxRecDepth 100000 in
set_option maxHeartbeats 4000000 in
theorem L_19 (hd : 20 ≤ d) (hj : j + 6 ≤ Γ.2.2.2.1.2.1) (hRC : RC h S) (hRM : RM h S) (kk : ∀ h' S', RC h' S' → RM h' S' → V Γ mL_law d 124 124 h' 1346 [some (.ref 1000), some (.ref 0), some (.ref 94), some (.int (nI j))] [] Q) : V Γ mL_law d 124 124 h 821 [some (.ref 1000), some (.ref 0), some (.ref 94), some (.int (nI j))] [] Q := by
  refine V_aloadn1 dL_law_821 ?_
  refine V_aloadn0 dL_law_822 ?_
  refine V_iloadn3 dL_law_823 ?_
  refine V_iconst (v := nI 1) dL_law_824 (by decide) ?_
  first | refine U_iadd dL_law_825 (by with_reducible rfl) (by with_reducible rfl) ?_ | refine V_iadd dL_law_825 ?_
  refine V_sld dL_law_826 (by omega) ?_
  refine V_aloadn0 dL_law_827 ?_
  refine V_iloadn3 dL_law_828 ?_
  refine V_iconst (v := nI 2) dL_law_829 (by decide) ?_
  first | refine U_iadd dL_law_830 (by with_reducible rfl) (by with_reducible rfl) ?_ | refine V_iadd dL_law_830 ?_
  refine V_sld dL_law_831 (by omega) ?_
  refine V_callV2 (μ' := mX9_count) dL_law_832 okX9_count lL_96 rfl (by first | assumption | rfl) (by first | decide | omega) (Nat.le_of_ble_eq_true rfl) (Nat.le_of_ble_eq_true rfl) (by omega) ?_
  refine c_count (by omega) hRC (fun h1 r1 f1 => ?_)
  have hM1 := RM_C hRM f1
  dsimp only [gPush]
  refine V_aloadn2 dL_law_835 ?_
  refine V_aloadn0 dL_law_836 ?_
  refine V_iloadn3 dL_law_837 ?_
  refine V_iconst (v := nI 1) dL_law_838 (by decide) ?_
  first | refine U_iadd dL_law_839 (by with_reducible rfl) (by with_reducible rfl) ?_ | refine V_iadd dL_law_839 ?_
  refine V_sld dL_law_840 (by omega) ?_
  refine V_aloadn0 dL_law_841 ?_
  refine V_iloadn3 dL_law_842 ?_
  refine V_iconst (v := nI 2) dL_law_843 (by decide) ?_
  first | refine U_iadd dL_law_844 (by with_reducible rfl) (by with_reducible rfl) ?_ | refine V_iadd dL_law_844 ?_
  refine V_sld dL_law_845 (by omega) ?_
  refine V_callV2 (μ' := mX10_count) dL_law_846 okX10_count lL_99 rfl (by first | assumption | rfl) (by first | decide | omega) (Nat.le_of_ble_eq_true rfl) (Nat.le_of_ble_eq_true rfl) (by omega) ?_
  refine m_count (by omega) hM1 hRC.2.1 (fun h2 r2 f2 => ?_)
  dsimp only [gPush]
  refine V_icmp_eq (tgt := 1346) dL_law_849 (by decide) (fun c849 => ?_) (fun c849 => ?_)
  · skip
    exact kk h2 _ (RC_D r1 f2) r2
  · skip
    exact absurd rfl c849
set_option maxRecDepth 100000 in
set_option maxHeartbeats 4000000 in
theorem L_20 (hd : 20 ≤ d) (hj : j + 6 ≤ Γ.2.2.2.1.2.1) (hRC : RC h S) (hRM : RM h S) (kk : ∀ h' S', RC h' S' → RM h' S' → V Γ mL_law d 124 124 h' 1346 [some (.ref 1000), some (.ref 0), some (.ref 94), some (.int (nI j))] [] Q) : V Γ mL_law d 124 124 h 854 [some (.ref 1000), some (.ref 0), some (.ref 94), some (.int (nI j))] [] Q := by
  refine V_aloadn1 dL_law_854 ?_
  refine V_aloadn0 dL_law_855 ?_
  refine V_iloadn3 dL_law_856 ?_
  refine V_iconst (v := nI 1) dL_law_857 (by decide) ?_
  first | refine U_iadd dL_law_858 (by with_reducible rfl) (by with_reducible rfl) ?_ | refine V_iadd dL_law_858 ?_
  refine V_sld dL_law_859 (by omega) ?_
  refine V_aloadn0 dL_law_860 ?_
  refine V_iloadn3 dL_law_861 ?_
  refine V_iconst (v := nI 2) dL_law_862 (by decide) ?_
  first | refine U_iadd dL_law_863 (by with_reducible rfl) (by with_reducible rfl) ?_ | refine V_iadd dL_law_863 ?_
  refine V_sld dL_law_864 (by omega) ?_
  refine V_aloadn0 dL_law_865 ?_
  refine V_iloadn3 dL_law_866 ?_
  refine V_iconst (v := nI 3) dL_law_867 (by decide) ?_
  first | refine U_iadd dL_law_868 (by with_reducible rfl) (by with_reducible rfl) ?_ | refine V_iadd dL_law_868 ?_
  refine V_sld dL_law_869 (by omega) ?_
  refine V_callV3 (μ' := mX9_together) dL_law_870 okX9_together lL_100 rfl (by first | assumption | rfl) (by first | decide | omega) (Nat.le_of_ble_eq_true rfl) (Nat.le_of_ble_eq_true rfl) (by omega) ?_
  refine c_together (by omega) hRC (fun h1 r1 f1 => ?_)
  have hM1 := RM_C hRM f1
  dsimp only [gPush]
  refine V_aloadn2 dL_law_873 ?_
  refine V_aloadn0 dL_law_874 ?_
  refine V_iloadn3 dL_law_875 ?_
  refine V_iconst (v := nI 1) dL_law_876 (by decide) ?_
  first | refine U_iadd dL_law_877 (by with_reducible rfl) (by with_reducible rfl) ?_ | refine V_iadd dL_law_877 ?_
  refine V_sld dL_law_878 (by omega) ?_
  refine V_aloadn0 dL_law_879 ?_
  refine V_iloadn3 dL_law_880 ?_
  refine V_iconst (v := nI 2) dL_law_881 (by decide) ?_
  first | refine U_iadd dL_law_882 (by with_reducible rfl) (by with_reducible rfl) ?_ | refine V_iadd dL_law_882 ?_
  refine V_sld dL_law_883 (by omega) ?_
  refine V_aloadn0 dL_law_884 ?_
  refine V_iloadn3 dL_law_885 ?_
  refine V_iconst (v := nI 3) dL_law_886 (by decide) ?_
  first | refine U_iadd dL_law_887 (by with_reducible rfl) (by with_reducible rfl) ?_ | refine V_iadd dL_law_887 ?_
  refine V_sld dL_law_888 (by omega) ?_
  refine V_callV3 (μ' := mX10_together) dL_law_889 okX10_together lL_103 rfl (by first | assumption | rfl) (by first | decide | omega) (Nat.le_of_ble_eq_true rfl) (Nat.le_of_ble_eq_true rfl) (by omega) ?_
  refine m_together (by omega) hM1 hRC.2.1 (fun h2 r2 f2 => ?_)
  dsimp only [gPush]
  refine V_icmp_eq (tgt := 1346) dL_law_892 (by decide) (fun c892 => ?_) (fun c892 => ?_)
  · skip
    exact kk h2 _ (RC_D r1 f2) r2
  · skip
    exact absurd rfl c892
set_option maxRecDepth 100000 in
set_option maxHeartbeats 4000000 in
theorem L_21 (hd : 20 ≤ d) (hj : j + 6 ≤ Γ.2.2.2.1.2.1) (hRC : RC h S) (hRM : RM h S) (kk : ∀ h' S', RC h' S' → RM h' S' → V Γ mL_law d 124 124 h' 1346 [some (.ref 1000), some (.ref 0), some (.ref 94), some (.int (nI j))] [] Q) : V Γ mL_law d 124 124 h 897 [some (.ref 1000), some (.ref 0), some (.ref 94), some (.int (nI j))] [] Q := by
  refine V_aloadn1 dL_law_897 ?_
  refine V_aloadn0 dL_law_898 ?_
  refine V_iloadn3 dL_law_899 ?_
  refine V_iconst (v := nI 1) dL_law_900 (by decide) ?_
  first | refine U_iadd dL_law_901 (by with_reducible rfl) (by with_reducible rfl) ?_ | refine V_iadd dL_law_901 ?_
  refine V_sld dL_law_902 (by omega) ?_
  refine V_aloadn0 dL_law_903 ?_
  refine V_iloadn3 dL_law_904 ?_
  refine V_iconst (v := nI 2) dL_law_905 (by decide) ?_
  first | refine U_iadd dL_law_906 (by with_reducible rfl) (by with_reducible rfl) ?_ | refine V_iadd dL_law_906 ?_
  refine V_sld dL_law_907 (by omega) ?_
  refine V_callV2 (μ' := mX9_worth) dL_law_908 okX9_worth lL_104 rfl (by first | assumption | rfl) (by first | decide | omega) (Nat.le_of_ble_eq_true rfl) (Nat.le_of_ble_eq_true rfl) (by omega) ?_
  refine c_worth (by omega) hRC (fun h1 r1 f1 => ?_)
  have hM1 := RM_C hRM f1
  dsimp only [gPush]
  refine V_aloadn2 dL_law_911 ?_
  refine V_aloadn0 dL_law_912 ?_
  refine V_iloadn3 dL_law_913 ?_
  refine V_iconst (v := nI 1) dL_law_914 (by decide) ?_
  first | refine U_iadd dL_law_915 (by with_reducible rfl) (by with_reducible rfl) ?_ | refine V_iadd dL_law_915 ?_
  refine V_sld dL_law_916 (by omega) ?_
  refine V_aloadn0 dL_law_917 ?_
  refine V_iloadn3 dL_law_918 ?_
  refine V_iconst (v := nI 2) dL_law_919 (by decide) ?_
  first | refine U_iadd dL_law_920 (by with_reducible rfl) (by with_reducible rfl) ?_ | refine V_iadd dL_law_920 ?_
  refine V_sld dL_law_921 (by omega) ?_
  refine V_callV2 (μ' := mX10_worth) dL_law_922 okX10_worth lL_107 rfl (by first | assumption | rfl) (by first | decide | omega) (Nat.le_of_ble_eq_true rfl) (Nat.le_of_ble_eq_true rfl) (by omega) ?_
  refine m_worth (by omega) hM1 hRC.2.1 (fun h2 r2 f2 => ?_)
  dsimp only [gPush]
  refine V_icmp_eq (tgt := 1346) dL_law_925 (by decide) (fun c925 => ?_) (fun c925 => ?_)
  · skip
    exact kk h2 _ (RC_D r1 f2) r2
  · skip
    exact absurd rfl c925
set_option maxRecDepth 100000 in
set_option maxHeartbeats 4000000 in
theorem L_22 (hd : 20 ≤ d) (hj : j + 6 ≤ Γ.2.2.2.1.2.1) (hRC : RC h S) (hRM : RM h S) (kk : ∀ h' S', RC h' S' → RM h' S' → V Γ mL_law d 124 124 h' 1346 [some (.ref 1000), some (.ref 0), some (.ref 94), some (.int (nI j))] [] Q) : V Γ mL_law d 124 124 h 930 [some (.ref 1000), some (.ref 0), some (.ref 94), some (.int (nI j))] [] Q := by
  refine V_aloadn1 dL_law_930 ?_
  refine V_aloadn0 dL_law_931 ?_
  refine V_iloadn3 dL_law_932 ?_
  refine V_iconst (v := nI 1) dL_law_933 (by decide) ?_
  first | refine U_iadd dL_law_934 (by with_reducible rfl) (by with_reducible rfl) ?_ | refine V_iadd dL_law_934 ?_
  refine V_sld dL_law_935 (by omega) ?_
  refine V_callV1 (μ' := mX9_worthOf) dL_law_936 okX9_worthOf lL_108 rfl (by first | assumption | rfl) (by first | decide | omega) (Nat.le_of_ble_eq_true rfl) (Nat.le_of_ble_eq_true rfl) (by omega) ?_
  refine c_worthOf (by omega) hRC (fun h1 r1 f1 => ?_)
  have hM1 := RM_C hRM f1
  dsimp only [gPush]
  refine V_aloadn2 dL_law_939 ?_
  refine V_aloadn0 dL_law_940 ?_
  refine V_iloadn3 dL_law_941 ?_
  refine V_iconst (v := nI 1) dL_law_942 (by decide) ?_
  first | refine U_iadd dL_law_943 (by with_reducible rfl) (by with_reducible rfl) ?_ | refine V_iadd dL_law_943 ?_
  refine V_sld dL_law_944 (by omega) ?_
  refine V_callV1 (μ' := mX10_worthOf) dL_law_945 okX10_worthOf lL_111 rfl (by first | assumption | rfl) (by first | decide | omega) (Nat.le_of_ble_eq_true rfl) (Nat.le_of_ble_eq_true rfl) (by omega) ?_
  refine m_worthOf (by omega) hM1 hRC.2.1 (fun h2 r2 f2 => ?_)
  dsimp only [gPush]
  refine V_icmp_eq (tgt := 1346) dL_law_948 (by decide) (fun c948 => ?_) (fun c948 => ?_)
  · skip
    exact kk h2 _ (RC_D r1 f2) r2
  · skip
    exact absurd rfl c948
set_option maxRecDepth 100000 in
set_option maxHeartbeats 4000000 in
theorem L_23 (hd : 20 ≤ d) (hj : j + 6 ≤ Γ.2.2.2.1.2.1) (hRC : RC h S) (hRM : RM h S) (kk : ∀ h' S', RC h' S' → RM h' S' → V Γ mL_law d 124 124 h' 1346 [some (.ref 1000), some (.ref 0), some (.ref 94), some (.int (nI j))] [] Q) : V Γ mL_law d 124 124 h 953 [some (.ref 1000), some (.ref 0), some (.ref 94), some (.int (nI j))] [] Q := by
  refine V_aloadn1 dL_law_953 ?_
  refine V_aloadn0 dL_law_954 ?_
  refine V_iloadn3 dL_law_955 ?_
  refine V_iconst (v := nI 1) dL_law_956 (by decide) ?_
  first | refine U_iadd dL_law_957 (by with_reducible rfl) (by with_reducible rfl) ?_ | refine V_iadd dL_law_957 ?_
  refine V_sld dL_law_958 (by omega) ?_
  refine V_callV1 (μ' := mX9_seed) dL_law_959 okX9_seed lL_112 rfl (by first | assumption | rfl) (by first | decide | omega) (Nat.le_of_ble_eq_true rfl) (Nat.le_of_ble_eq_true rfl) (by omega) ?_
  refine c_seed (by omega) hRC (fun h1 r1 f1 => ?_)
  have hM1 := RM_C hRM f1
  dsimp only [gPush]
  refine V_aloadn2 dL_law_962 ?_
  refine V_aloadn0 dL_law_963 ?_
  refine V_iloadn3 dL_law_964 ?_
  refine V_iconst (v := nI 1) dL_law_965 (by decide) ?_
  first | refine U_iadd dL_law_966 (by with_reducible rfl) (by with_reducible rfl) ?_ | refine V_iadd dL_law_966 ?_
  refine V_sld dL_law_967 (by omega) ?_
  refine V_callV1 (μ' := mX10_seed) dL_law_968 okX10_seed lL_115 rfl (by first | assumption | rfl) (by first | decide | omega) (Nat.le_of_ble_eq_true rfl) (Nat.le_of_ble_eq_true rfl) (by omega) ?_
  refine m_seed (by omega) hM1 hRC.2.1 (fun h2 r2 f2 => ?_)
  dsimp only [gPush]
  refine V_icmp_eq (tgt := 1346) dL_law_971 (by decide) (fun c971 => ?_) (fun c971 => ?_)
  · skip
    exact kk h2 _ (RC_D r1 f2) r2
  · skip
    exact absurd rfl c971
set_option maxRecDepth 100000 in
set_option maxHeartbeats 4000000 in
theorem L_24 (hd : 20 ≤ d) (hj : j + 6 ≤ Γ.2.2.2.1.2.1) (hRC : RC h S) (hRM : RM h S) (kk : ∀ h' S', RC h' S' → RM h' S' → V Γ mL_law d 124 124 h' 1346 [some (.ref 1000), some (.ref 0), some (.ref 94), some (.int (nI j))] [] Q) : V Γ mL_law d 124 124 h 976 [some (.ref 1000), some (.ref 0), some (.ref 94), some (.int (nI j))] [] Q := by
  refine V_aloadn1 dL_law_976 ?_
  refine V_aloadn0 dL_law_977 ?_
  refine V_iloadn3 dL_law_978 ?_
  refine V_iconst (v := nI 1) dL_law_979 (by decide) ?_
  first | refine U_iadd dL_law_980 (by with_reducible rfl) (by with_reducible rfl) ?_ | refine V_iadd dL_law_980 ?_
  refine V_sld dL_law_981 (by omega) ?_
  refine V_aloadn0 dL_law_982 ?_
  refine V_iloadn3 dL_law_983 ?_
  refine V_iconst (v := nI 2) dL_law_984 (by decide) ?_
  first | refine U_iadd dL_law_985 (by with_reducible rfl) (by with_reducible rfl) ?_ | refine V_iadd dL_law_985 ?_
  refine V_sld dL_law_986 (by omega) ?_
  refine V_callV2 (μ' := mX9_lot) dL_law_987 okX9_lot lL_116 rfl (by first | assumption | rfl) (by first | decide | omega) (Nat.le_of_ble_eq_true rfl) (Nat.le_of_ble_eq_true rfl) (by omega) ?_
  refine c_lot (by omega) hRC (fun h1 r1 f1 => ?_)
  have hM1 := RM_C hRM f1
  dsimp only [gPush]
  refine V_aloadn2 dL_law_990 ?_
  refine V_aloadn0 dL_law_991 ?_
  refine V_iloadn3 dL_law_992 ?_
  refine V_iconst (v := nI 1) dL_law_993 (by decide) ?_
  first | refine U_iadd dL_law_994 (by with_reducible rfl) (by with_reducible rfl) ?_ | refine V_iadd dL_law_994 ?_
  refine V_sld dL_law_995 (by omega) ?_
  refine V_aloadn0 dL_law_996 ?_
  refine V_iloadn3 dL_law_997 ?_
  refine V_iconst (v := nI 2) dL_law_998 (by decide) ?_
  first | refine U_iadd dL_law_999 (by with_reducible rfl) (by with_reducible rfl) ?_ | refine V_iadd dL_law_999 ?_
  refine V_sld dL_law_1000 (by omega) ?_
  refine V_callV2 (μ' := mX10_lot) dL_law_1001 okX10_lot lL_119 rfl (by first | assumption | rfl) (by first | decide | omega) (Nat.le_of_ble_eq_true rfl) (Nat.le_of_ble_eq_true rfl) (by omega) ?_
  refine m_lot (by omega) hM1 hRC.2.1 (fun h2 r2 f2 => ?_)
  dsimp only [gPush]
  refine V_icmp_eq (tgt := 1346) dL_law_1004 (by decide) (fun c1004 => ?_) (fun c1004 => ?_)
  · skip
    exact kk h2 _ (RC_D r1 f2) r2
  · skip
    exact absurd rfl c1004
set_option maxRecDepth 100000 in
set_option maxHeartbeats 4000000 in
theorem L_25 (hd : 20 ≤ d) (hj : j + 6 ≤ Γ.2.2.2.1.2.1) (hRC : RC h S) (hRM : RM h S) (kk : ∀ h' S', RC h' S' → RM h' S' → V Γ mL_law d 124 124 h' 1346 [some (.ref 1000), some (.ref 0), some (.ref 94), some (.int (nI j))] [] Q) : V Γ mL_law d 124 124 h 1009 [some (.ref 1000), some (.ref 0), some (.ref 94), some (.int (nI j))] [] Q := by
  refine V_aloadn1 dL_law_1009 ?_
  refine V_aloadn0 dL_law_1010 ?_
  refine V_iloadn3 dL_law_1011 ?_
  refine V_iconst (v := nI 1) dL_law_1012 (by decide) ?_
  first | refine U_iadd dL_law_1013 (by with_reducible rfl) (by with_reducible rfl) ?_ | refine V_iadd dL_law_1013 ?_
  refine V_sld dL_law_1014 (by omega) ?_
  refine V_aloadn0 dL_law_1015 ?_
  refine V_iloadn3 dL_law_1016 ?_
  refine V_iconst (v := nI 2) dL_law_1017 (by decide) ?_
  first | refine U_iadd dL_law_1018 (by with_reducible rfl) (by with_reducible rfl) ?_ | refine V_iadd dL_law_1018 ?_
  refine V_sld dL_law_1019 (by omega) ?_
  refine V_aloadn0 dL_law_1020 ?_
  refine V_iloadn3 dL_law_1021 ?_
  refine V_iconst (v := nI 3) dL_law_1022 (by decide) ?_
  first | refine U_iadd dL_law_1023 (by with_reducible rfl) (by with_reducible rfl) ?_ | refine V_iadd dL_law_1023 ?_
  refine V_sld dL_law_1024 (by omega) ?_
  refine V_callV3 (μ' := mX9_sheet) dL_law_1025 okX9_sheet lL_120 rfl (by first | assumption | rfl) (by first | decide | omega) (Nat.le_of_ble_eq_true rfl) (Nat.le_of_ble_eq_true rfl) (by omega) ?_
  refine c_sheet (by omega) hRC (fun h1 r1 f1 => ?_)
  have hM1 := RM_C hRM f1
  dsimp only [gPush]
  refine V_aloadn2 dL_law_1028 ?_
  refine V_aloadn0 dL_law_1029 ?_
  refine V_iloadn3 dL_law_1030 ?_
  refine V_iconst (v := nI 1) dL_law_1031 (by decide) ?_
  first | refine U_iadd dL_law_1032 (by with_reducible rfl) (by with_reducible rfl) ?_ | refine V_iadd dL_law_1032 ?_
  refine V_sld dL_law_1033 (by omega) ?_
  refine V_aloadn0 dL_law_1034 ?_
  refine V_iloadn3 dL_law_1035 ?_
  refine V_iconst (v := nI 2) dL_law_1036 (by decide) ?_
  first | refine U_iadd dL_law_1037 (by with_reducible rfl) (by with_reducible rfl) ?_ | refine V_iadd dL_law_1037 ?_
  refine V_sld dL_law_1038 (by omega) ?_
  refine V_aloadn0 dL_law_1039 ?_
  refine V_iloadn3 dL_law_1040 ?_
  refine V_iconst (v := nI 3) dL_law_1041 (by decide) ?_
  first | refine U_iadd dL_law_1042 (by with_reducible rfl) (by with_reducible rfl) ?_ | refine V_iadd dL_law_1042 ?_
  refine V_sld dL_law_1043 (by omega) ?_
  refine V_callV3 (μ' := mX10_sheet) dL_law_1044 okX10_sheet lL_123 rfl (by first | assumption | rfl) (by first | decide | omega) (Nat.le_of_ble_eq_true rfl) (Nat.le_of_ble_eq_true rfl) (by omega) ?_
  refine m_sheet (by omega) hM1 hRC.2.1 (fun h2 r2 f2 => ?_)
  dsimp only [gPush]
  refine V_icmp_eq (tgt := 1346) dL_law_1047 (by decide) (fun c1047 => ?_) (fun c1047 => ?_)
  · skip
    exact kk h2 _ (RC_D r1 f2) r2
  · skip
    exact absurd rfl c1047
set_option maxRecDepth 100000 in
set_option maxHeartbeats 4000000 in
theorem L_26 (hd : 20 ≤ d) (hj : j + 6 ≤ Γ.2.2.2.1.2.1) (hRC : RC h S) (hRM : RM h S) (kk : ∀ h' S', RC h' S' → RM h' S' → V Γ mL_law d 124 124 h' 1346 [some (.ref 1000), some (.ref 0), some (.ref 94), some (.int (nI j))] [] Q) : V Γ mL_law d 124 124 h 1052 [some (.ref 1000), some (.ref 0), some (.ref 94), some (.int (nI j))] [] Q := by
  refine V_aloadn1 dL_law_1052 ?_
  refine V_aloadn0 dL_law_1053 ?_
  refine V_iloadn3 dL_law_1054 ?_
  refine V_iconst (v := nI 1) dL_law_1055 (by decide) ?_
  first | refine U_iadd dL_law_1056 (by with_reducible rfl) (by with_reducible rfl) ?_ | refine V_iadd dL_law_1056 ?_
  refine V_sld dL_law_1057 (by omega) ?_
  refine V_aloadn0 dL_law_1058 ?_
  refine V_iloadn3 dL_law_1059 ?_
  refine V_iconst (v := nI 2) dL_law_1060 (by decide) ?_
  first | refine U_iadd dL_law_1061 (by with_reducible rfl) (by with_reducible rfl) ?_ | refine V_iadd dL_law_1061 ?_
  refine V_sld dL_law_1062 (by omega) ?_
  refine V_aloadn0 dL_law_1063 ?_
  refine V_iloadn3 dL_law_1064 ?_
  refine V_iconst (v := nI 3) dL_law_1065 (by decide) ?_
  first | refine U_iadd dL_law_1066 (by with_reducible rfl) (by with_reducible rfl) ?_ | refine V_iadd dL_law_1066 ?_
  refine V_sld dL_law_1067 (by omega) ?_
  refine V_callV3 (μ' := mX9_put) dL_law_1068 okX9_put lL_124 rfl (by first | assumption | rfl) (by first | decide | omega) (Nat.le_of_ble_eq_true rfl) (Nat.le_of_ble_eq_true rfl) (by omega) ?_
  refine c_put (by omega) hRC (fun h1 r1 f1 => ?_)
  have hM1 := RM_C hRM f1
  dsimp only [gPush]
  refine V_aloadn2 dL_law_1071 ?_
  refine V_aloadn0 dL_law_1072 ?_
  refine V_iloadn3 dL_law_1073 ?_
  refine V_iconst (v := nI 1) dL_law_1074 (by decide) ?_
  first | refine U_iadd dL_law_1075 (by with_reducible rfl) (by with_reducible rfl) ?_ | refine V_iadd dL_law_1075 ?_
  refine V_sld dL_law_1076 (by omega) ?_
  refine V_aloadn0 dL_law_1077 ?_
  refine V_iloadn3 dL_law_1078 ?_
  refine V_iconst (v := nI 2) dL_law_1079 (by decide) ?_
  first | refine U_iadd dL_law_1080 (by with_reducible rfl) (by with_reducible rfl) ?_ | refine V_iadd dL_law_1080 ?_
  refine V_sld dL_law_1081 (by omega) ?_
  refine V_aloadn0 dL_law_1082 ?_
  refine V_iloadn3 dL_law_1083 ?_
  refine V_iconst (v := nI 3) dL_law_1084 (by decide) ?_
  first | refine U_iadd dL_law_1085 (by with_reducible rfl) (by with_reducible rfl) ?_ | refine V_iadd dL_law_1085 ?_
  refine V_sld dL_law_1086 (by omega) ?_
  refine V_callV3 (μ' := mX10_put) dL_law_1087 okX10_put lL_127 rfl (by first | assumption | rfl) (by first | decide | omega) (Nat.le_of_ble_eq_true rfl) (Nat.le_of_ble_eq_true rfl) (by omega) ?_
  refine m_put (by omega) hM1 hRC.2.1 (fun h2 r2 f2 => ?_)
  dsimp only [gPush]
  refine V_icmp_eq (tgt := 1346) dL_law_1090 (by decide) (fun c1090 => ?_) (fun c1090 => ?_)
  · skip
    exact kk h2 _ (RC_D r1 f2) r2
  · skip
    exact absurd rfl c1090
set_option maxRecDepth 100000 in
set_option maxHeartbeats 4000000 in
theorem L_27 (hd : 20 ≤ d) (hj : j + 6 ≤ Γ.2.2.2.1.2.1) (hRC : RC h S) (hRM : RM h S) (kk : ∀ h' S', RC h' S' → RM h' S' → V Γ mL_law d 124 124 h' 1346 [some (.ref 1000), some (.ref 0), some (.ref 94), some (.int (nI j))] [] Q) : V Γ mL_law d 124 124 h 1095 [some (.ref 1000), some (.ref 0), some (.ref 94), some (.int (nI j))] [] Q := by
  refine V_aloadn1 dL_law_1095 ?_
  refine V_aloadn0 dL_law_1096 ?_
  refine V_iloadn3 dL_law_1097 ?_
  refine V_iconst (v := nI 1) dL_law_1098 (by decide) ?_
  first | refine U_iadd dL_law_1099 (by with_reducible rfl) (by with_reducible rfl) ?_ | refine V_iadd dL_law_1099 ?_
  refine V_sld dL_law_1100 (by omega) ?_
  refine V_aloadn0 dL_law_1101 ?_
  refine V_iloadn3 dL_law_1102 ?_
  refine V_iconst (v := nI 2) dL_law_1103 (by decide) ?_
  first | refine U_iadd dL_law_1104 (by with_reducible rfl) (by with_reducible rfl) ?_ | refine V_iadd dL_law_1104 ?_
  refine V_sld dL_law_1105 (by omega) ?_
  refine V_aloadn0 dL_law_1106 ?_
  refine V_iloadn3 dL_law_1107 ?_
  refine V_iconst (v := nI 3) dL_law_1108 (by decide) ?_
  first | refine U_iadd dL_law_1109 (by with_reducible rfl) (by with_reducible rfl) ?_ | refine V_iadd dL_law_1109 ?_
  refine V_sld dL_law_1110 (by omega) ?_
  refine V_callV3 (μ' := mX9_item) dL_law_1111 okX9_item lL_128 rfl (by first | assumption | rfl) (by first | decide | omega) (Nat.le_of_ble_eq_true rfl) (Nat.le_of_ble_eq_true rfl) (by omega) ?_
  refine c_item (by omega) hRC (fun h1 r1 f1 => ?_)
  have hM1 := RM_C hRM f1
  dsimp only [gPush]
  refine V_aloadn2 dL_law_1114 ?_
  refine V_aloadn0 dL_law_1115 ?_
  refine V_iloadn3 dL_law_1116 ?_
  refine V_iconst (v := nI 1) dL_law_1117 (by decide) ?_
  first | refine U_iadd dL_law_1118 (by with_reducible rfl) (by with_reducible rfl) ?_ | refine V_iadd dL_law_1118 ?_
  refine V_sld dL_law_1119 (by omega) ?_
  refine V_aloadn0 dL_law_1120 ?_
  refine V_iloadn3 dL_law_1121 ?_
  refine V_iconst (v := nI 2) dL_law_1122 (by decide) ?_
  first | refine U_iadd dL_law_1123 (by with_reducible rfl) (by with_reducible rfl) ?_ | refine V_iadd dL_law_1123 ?_
  refine V_sld dL_law_1124 (by omega) ?_
  refine V_aloadn0 dL_law_1125 ?_
  refine V_iloadn3 dL_law_1126 ?_
  refine V_iconst (v := nI 3) dL_law_1127 (by decide) ?_
  first | refine U_iadd dL_law_1128 (by with_reducible rfl) (by with_reducible rfl) ?_ | refine V_iadd dL_law_1128 ?_
  refine V_sld dL_law_1129 (by omega) ?_
  refine V_callV3 (μ' := mX10_item) dL_law_1130 okX10_item lL_131 rfl (by first | assumption | rfl) (by first | decide | omega) (Nat.le_of_ble_eq_true rfl) (Nat.le_of_ble_eq_true rfl) (by omega) ?_
  refine m_item (by omega) hM1 hRC.2.1 (fun h2 r2 f2 => ?_)
  dsimp only [gPush]
  refine V_icmp_eq (tgt := 1346) dL_law_1133 (by decide) (fun c1133 => ?_) (fun c1133 => ?_)
  · skip
    exact kk h2 _ (RC_D r1 f2) r2
  · skip
    exact absurd rfl c1133
set_option maxRecDepth 100000 in
set_option maxHeartbeats 4000000 in
theorem L_28 (hd : 20 ≤ d) (hj : j + 6 ≤ Γ.2.2.2.1.2.1) (hRC : RC h S) (hRM : RM h S) (kk : ∀ h' S', RC h' S' → RM h' S' → V Γ mL_law d 124 124 h' 1346 [some (.ref 1000), some (.ref 0), some (.ref 94), some (.int (nI j))] [] Q) : V Γ mL_law d 124 124 h 1138 [some (.ref 1000), some (.ref 0), some (.ref 94), some (.int (nI j))] [] Q := by
  refine V_aloadn1 dL_law_1138 ?_
  refine V_aloadn0 dL_law_1139 ?_
  refine V_iloadn3 dL_law_1140 ?_
  refine V_iconst (v := nI 1) dL_law_1141 (by decide) ?_
  first | refine U_iadd dL_law_1142 (by with_reducible rfl) (by with_reducible rfl) ?_ | refine V_iadd dL_law_1142 ?_
  refine V_sld dL_law_1143 (by omega) ?_
  refine V_aloadn0 dL_law_1144 ?_
  refine V_iloadn3 dL_law_1145 ?_
  refine V_iconst (v := nI 2) dL_law_1146 (by decide) ?_
  first | refine U_iadd dL_law_1147 (by with_reducible rfl) (by with_reducible rfl) ?_ | refine V_iadd dL_law_1147 ?_
  refine V_sld dL_law_1148 (by omega) ?_
  refine V_aloadn0 dL_law_1149 ?_
  refine V_iloadn3 dL_law_1150 ?_
  refine V_iconst (v := nI 3) dL_law_1151 (by decide) ?_
  first | refine U_iadd dL_law_1152 (by with_reducible rfl) (by with_reducible rfl) ?_ | refine V_iadd dL_law_1152 ?_
  refine V_sld dL_law_1153 (by omega) ?_
  refine V_aloadn0 dL_law_1154 ?_
  refine V_iloadn3 dL_law_1155 ?_
  refine V_iconst (v := nI 4) dL_law_1156 (by decide) ?_
  first | refine U_iadd dL_law_1157 (by with_reducible rfl) (by with_reducible rfl) ?_ | refine V_iadd dL_law_1157 ?_
  refine V_sld dL_law_1158 (by omega) ?_
  refine V_aloadn0 dL_law_1159 ?_
  refine V_iloadn3 dL_law_1160 ?_
  refine V_iconst (v := nI 5) dL_law_1161 (by decide) ?_
  first | refine U_iadd dL_law_1162 (by with_reducible rfl) (by with_reducible rfl) ?_ | refine V_iadd dL_law_1162 ?_
  refine V_sld dL_law_1163 (by omega) ?_
  refine V_callV5 (μ' := mX9_copy) dL_law_1164 okX9_copy lL_132 rfl (by first | assumption | rfl) (by first | decide | omega) (Nat.le_of_ble_eq_true rfl) (Nat.le_of_ble_eq_true rfl) (by omega) ?_
  refine c_copy (by omega) hRC (fun h1 r1 f1 => ?_)
  have hM1 := RM_C hRM f1
  dsimp only [gPush]
  refine V_aloadn2 dL_law_1167 ?_
  refine V_aloadn0 dL_law_1168 ?_
  refine V_iloadn3 dL_law_1169 ?_
  refine V_iconst (v := nI 1) dL_law_1170 (by decide) ?_
  first | refine U_iadd dL_law_1171 (by with_reducible rfl) (by with_reducible rfl) ?_ | refine V_iadd dL_law_1171 ?_
  refine V_sld dL_law_1172 (by omega) ?_
  refine V_aloadn0 dL_law_1173 ?_
  refine V_iloadn3 dL_law_1174 ?_
  refine V_iconst (v := nI 2) dL_law_1175 (by decide) ?_
  first | refine U_iadd dL_law_1176 (by with_reducible rfl) (by with_reducible rfl) ?_ | refine V_iadd dL_law_1176 ?_
  refine V_sld dL_law_1177 (by omega) ?_
  refine V_aloadn0 dL_law_1178 ?_
  refine V_iloadn3 dL_law_1179 ?_
  refine V_iconst (v := nI 3) dL_law_1180 (by decide) ?_
  first | refine U_iadd dL_law_1181 (by with_reducible rfl) (by with_reducible rfl) ?_ | refine V_iadd dL_law_1181 ?_
  refine V_sld dL_law_1182 (by omega) ?_
  refine V_aloadn0 dL_law_1183 ?_
  refine V_iloadn3 dL_law_1184 ?_
  refine V_iconst (v := nI 4) dL_law_1185 (by decide) ?_
  first | refine U_iadd dL_law_1186 (by with_reducible rfl) (by with_reducible rfl) ?_ | refine V_iadd dL_law_1186 ?_
  refine V_sld dL_law_1187 (by omega) ?_
  refine V_aloadn0 dL_law_1188 ?_
  refine V_iloadn3 dL_law_1189 ?_
  refine V_iconst (v := nI 5) dL_law_1190 (by decide) ?_
  first | refine U_iadd dL_law_1191 (by with_reducible rfl) (by with_reducible rfl) ?_ | refine V_iadd dL_law_1191 ?_
  refine V_sld dL_law_1192 (by omega) ?_
  refine V_callV5 (μ' := mX10_copy) dL_law_1193 okX10_copy lL_136 rfl (by first | assumption | rfl) (by first | decide | omega) (Nat.le_of_ble_eq_true rfl) (Nat.le_of_ble_eq_true rfl) (by omega) ?_
  refine m_copy (by omega) hM1 hRC.2.1 (fun h2 r2 f2 => ?_)
  dsimp only [gPush]
  refine V_icmp_eq (tgt := 1346) dL_law_1196 (by decide) (fun c1196 => ?_) (fun c1196 => ?_)
  · skip
    exact kk h2 _ (RC_D r1 f2) r2
  · skip
    exact absurd rfl c1196
set_option maxRecDepth 100000 in
set_option maxHeartbeats 4000000 in
theorem L_29 (hd : 20 ≤ d) (hj : j + 6 ≤ Γ.2.2.2.1.2.1) (hRC : RC h S) (hRM : RM h S) (kk : ∀ h' S', RC h' S' → RM h' S' → V Γ mL_law d 124 124 h' 1346 [some (.ref 1000), some (.ref 0), some (.ref 94), some (.int (nI j))] [] Q) : V Γ mL_law d 124 124 h 1201 [some (.ref 1000), some (.ref 0), some (.ref 94), some (.int (nI j))] [] Q := by
  refine V_aloadn1 dL_law_1201 ?_
  refine V_aloadn0 dL_law_1202 ?_
  refine V_iloadn3 dL_law_1203 ?_
  refine V_iconst (v := nI 1) dL_law_1204 (by decide) ?_
  first | refine U_iadd dL_law_1205 (by with_reducible rfl) (by with_reducible rfl) ?_ | refine V_iadd dL_law_1205 ?_
  refine V_sld dL_law_1206 (by omega) ?_
  refine V_aloadn0 dL_law_1207 ?_
  refine V_iloadn3 dL_law_1208 ?_
  refine V_iconst (v := nI 2) dL_law_1209 (by decide) ?_
  first | refine U_iadd dL_law_1210 (by with_reducible rfl) (by with_reducible rfl) ?_ | refine V_iadd dL_law_1210 ?_
  refine V_sld dL_law_1211 (by omega) ?_
  refine V_aloadn0 dL_law_1212 ?_
  refine V_iloadn3 dL_law_1213 ?_
  refine V_iconst (v := nI 3) dL_law_1214 (by decide) ?_
  first | refine U_iadd dL_law_1215 (by with_reducible rfl) (by with_reducible rfl) ?_ | refine V_iadd dL_law_1215 ?_
  refine V_sld dL_law_1216 (by omega) ?_
  refine V_callV3 (μ' := mX9_lay) dL_law_1217 okX9_lay lL_137 rfl (by first | assumption | rfl) (by first | decide | omega) (Nat.le_of_ble_eq_true rfl) (Nat.le_of_ble_eq_true rfl) (by omega) ?_
  refine c_lay (by omega) hRC (fun h1 r1 f1 => ?_)
  have hM1 := RM_C hRM f1
  dsimp only [gPush]
  refine V_aloadn2 dL_law_1220 ?_
  refine V_aloadn0 dL_law_1221 ?_
  refine V_iloadn3 dL_law_1222 ?_
  refine V_iconst (v := nI 1) dL_law_1223 (by decide) ?_
  first | refine U_iadd dL_law_1224 (by with_reducible rfl) (by with_reducible rfl) ?_ | refine V_iadd dL_law_1224 ?_
  refine V_sld dL_law_1225 (by omega) ?_
  refine V_aloadn0 dL_law_1226 ?_
  refine V_iloadn3 dL_law_1227 ?_
  refine V_iconst (v := nI 2) dL_law_1228 (by decide) ?_
  first | refine U_iadd dL_law_1229 (by with_reducible rfl) (by with_reducible rfl) ?_ | refine V_iadd dL_law_1229 ?_
  refine V_sld dL_law_1230 (by omega) ?_
  refine V_aloadn0 dL_law_1231 ?_
  refine V_iloadn3 dL_law_1232 ?_
  refine V_iconst (v := nI 3) dL_law_1233 (by decide) ?_
  first | refine U_iadd dL_law_1234 (by with_reducible rfl) (by with_reducible rfl) ?_ | refine V_iadd dL_law_1234 ?_
  refine V_sld dL_law_1235 (by omega) ?_
  refine V_callV3 (μ' := mX10_lay) dL_law_1236 okX10_lay lL_140 rfl (by first | assumption | rfl) (by first | decide | omega) (Nat.le_of_ble_eq_true rfl) (Nat.le_of_ble_eq_true rfl) (by omega) ?_
  refine m_lay (by omega) hM1 hRC.2.1 (fun h2 r2 f2 => ?_)
  dsimp only [gPush]
  refine V_icmp_eq (tgt := 1346) dL_law_1239 (by decide) (fun c1239 => ?_) (fun c1239 => ?_)
  · skip
    exact kk h2 _ (RC_D r1 f2) r2
  · skip
    exact absurd rfl c1239
set_option maxRecDepth 100000 in
set_option maxHeartbeats 4000000 in
theorem L_30 (hd : 20 ≤ d) (hj : j + 6 ≤ Γ.2.2.2.1.2.1) (hRC : RC h S) (hRM : RM h S) (kk : ∀ h' S', RC h' S' → RM h' S' → V Γ mL_law d 124 124 h' 1346 [some (.ref 1000), some (.ref 0), some (.ref 94), some (.int (nI j))] [] Q) : V Γ mL_law d 124 124 h 1244 [some (.ref 1000), some (.ref 0), some (.ref 94), some (.int (nI j))] [] Q := by
  refine V_aloadn1 dL_law_1244 ?_
  refine V_aloadn0 dL_law_1245 ?_
  refine V_iloadn3 dL_law_1246 ?_
  refine V_iconst (v := nI 1) dL_law_1247 (by decide) ?_
  first | refine U_iadd dL_law_1248 (by with_reducible rfl) (by with_reducible rfl) ?_ | refine V_iadd dL_law_1248 ?_
  refine V_sld dL_law_1249 (by omega) ?_
  refine V_aloadn0 dL_law_1250 ?_
  refine V_iloadn3 dL_law_1251 ?_
  refine V_iconst (v := nI 2) dL_law_1252 (by decide) ?_
  first | refine U_iadd dL_law_1253 (by with_reducible rfl) (by with_reducible rfl) ?_ | refine V_iadd dL_law_1253 ?_
  refine V_sld dL_law_1254 (by omega) ?_
  refine V_aloadn0 dL_law_1255 ?_
  refine V_iloadn3 dL_law_1256 ?_
  refine V_iconst (v := nI 3) dL_law_1257 (by decide) ?_
  first | refine U_iadd dL_law_1258 (by with_reducible rfl) (by with_reducible rfl) ?_ | refine V_iadd dL_law_1258 ?_
  refine V_sld dL_law_1259 (by omega) ?_
  refine V_aloadn0 dL_law_1260 ?_
  refine V_iloadn3 dL_law_1261 ?_
  refine V_iconst (v := nI 4) dL_law_1262 (by decide) ?_
  first | refine U_iadd dL_law_1263 (by with_reducible rfl) (by with_reducible rfl) ?_ | refine V_iadd dL_law_1263 ?_
  refine V_sld dL_law_1264 (by omega) ?_
  refine V_callV4 (μ' := mX9_take) dL_law_1265 okX9_take lL_141 rfl (by first | assumption | rfl) (by first | decide | omega) (Nat.le_of_ble_eq_true rfl) (Nat.le_of_ble_eq_true rfl) (by omega) ?_
  refine c_take (by omega) hRC (fun h1 r1 f1 => ?_)
  have hM1 := RM_C hRM f1
  dsimp only [gPush]
  refine V_aloadn2 dL_law_1268 ?_
  refine V_aloadn0 dL_law_1269 ?_
  refine V_iloadn3 dL_law_1270 ?_
  refine V_iconst (v := nI 1) dL_law_1271 (by decide) ?_
  first | refine U_iadd dL_law_1272 (by with_reducible rfl) (by with_reducible rfl) ?_ | refine V_iadd dL_law_1272 ?_
  refine V_sld dL_law_1273 (by omega) ?_
  refine V_aloadn0 dL_law_1274 ?_
  refine V_iloadn3 dL_law_1275 ?_
  refine V_iconst (v := nI 2) dL_law_1276 (by decide) ?_
  first | refine U_iadd dL_law_1277 (by with_reducible rfl) (by with_reducible rfl) ?_ | refine V_iadd dL_law_1277 ?_
  refine V_sld dL_law_1278 (by omega) ?_
  refine V_aloadn0 dL_law_1279 ?_
  refine V_iloadn3 dL_law_1280 ?_
  refine V_iconst (v := nI 3) dL_law_1281 (by decide) ?_
  first | refine U_iadd dL_law_1282 (by with_reducible rfl) (by with_reducible rfl) ?_ | refine V_iadd dL_law_1282 ?_
  refine V_sld dL_law_1283 (by omega) ?_
  refine V_aloadn0 dL_law_1284 ?_
  refine V_iloadn3 dL_law_1285 ?_
  refine V_iconst (v := nI 4) dL_law_1286 (by decide) ?_
  first | refine U_iadd dL_law_1287 (by with_reducible rfl) (by with_reducible rfl) ?_ | refine V_iadd dL_law_1287 ?_
  refine V_sld dL_law_1288 (by omega) ?_
  refine V_callV4 (μ' := mX10_take) dL_law_1289 okX10_take lL_144 rfl (by first | assumption | rfl) (by first | decide | omega) (Nat.le_of_ble_eq_true rfl) (Nat.le_of_ble_eq_true rfl) (by omega) ?_
  refine m_take (by omega) hM1 hRC.2.1 (fun h2 r2 f2 => ?_)
  dsimp only [gPush]
  refine V_icmp_eq (tgt := 1346) dL_law_1292 (by decide) (fun c1292 => ?_) (fun c1292 => ?_)
  · skip
    exact kk h2 _ (RC_D r1 f2) r2
  · skip
    exact absurd rfl c1292
set_option maxRecDepth 100000 in
set_option maxHeartbeats 4000000 in
theorem L_31 (hd : 20 ≤ d) (hj : j + 6 ≤ Γ.2.2.2.1.2.1) (hRC : RC h S) (hRM : RM h S) (kk : ∀ h' S', RC h' S' → RM h' S' → V Γ mL_law d 124 124 h' 1346 [some (.ref 1000), some (.ref 0), some (.ref 94), some (.int (nI j))] [] Q) : V Γ mL_law d 124 124 h 1297 [some (.ref 1000), some (.ref 0), some (.ref 94), some (.int (nI j))] [] Q := by
  refine V_aloadn1 dL_law_1297 ?_
  refine V_aloadn0 dL_law_1298 ?_
  refine V_iloadn3 dL_law_1299 ?_
  refine V_iconst (v := nI 1) dL_law_1300 (by decide) ?_
  first | refine U_iadd dL_law_1301 (by with_reducible rfl) (by with_reducible rfl) ?_ | refine V_iadd dL_law_1301 ?_
  refine V_sld dL_law_1302 (by omega) ?_
  refine V_callV1 (μ' := mX9_many) dL_law_1303 okX9_many lL_145 rfl (by first | assumption | rfl) (by first | decide | omega) (Nat.le_of_ble_eq_true rfl) (Nat.le_of_ble_eq_true rfl) (by omega) ?_
  refine c_many (by omega) hRC (fun h1 r1 f1 => ?_)
  have hM1 := RM_C hRM f1
  dsimp only [gPush]
  refine V_aloadn2 dL_law_1306 ?_
  refine V_aloadn0 dL_law_1307 ?_
  refine V_iloadn3 dL_law_1308 ?_
  refine V_iconst (v := nI 1) dL_law_1309 (by decide) ?_
  first | refine U_iadd dL_law_1310 (by with_reducible rfl) (by with_reducible rfl) ?_ | refine V_iadd dL_law_1310 ?_
  refine V_sld dL_law_1311 (by omega) ?_
  refine V_callV1 (μ' := mX10_many) dL_law_1312 okX10_many lL_148 rfl (by first | assumption | rfl) (by first | decide | omega) (Nat.le_of_ble_eq_true rfl) (Nat.le_of_ble_eq_true rfl) (by omega) ?_
  refine m_many (by omega) hM1 hRC.2.1 (fun h2 r2 f2 => ?_)
  dsimp only [gPush]
  refine V_icmp_eq (tgt := 1346) dL_law_1315 (by decide) (fun c1315 => ?_) (fun c1315 => ?_)
  · skip
    exact kk h2 _ (RC_D r1 f2) r2
  · skip
    exact absurd rfl c1315
set_option maxRecDepth 100000 in
set_option maxHeartbeats 4000000 in
theorem L_32 (hd : 20 ≤ d) (hj : j + 6 ≤ Γ.2.2.2.1.2.1) (hRC : RC h S) (hRM : RM h S) (kk : ∀ h' S', RC h' S' → RM h' S' → V Γ mL_law d 124 124 h' 1346 [some (.ref 1000), some (.ref 0), some (.ref 94), some (.int (nI j))] [] Q) : V Γ mL_law d 124 124 h 1320 [some (.ref 1000), some (.ref 0), some (.ref 94), some (.int (nI j))] [] Q := by
  refine V_aloadn1 dL_law_1320 ?_
  refine V_callV0 (μ' := mX9_keep) dL_law_1321 okX9_keep lL_149 rfl (by first | assumption | rfl) (by first | decide | omega) (Nat.le_of_ble_eq_true rfl) (Nat.le_of_ble_eq_true rfl) (by omega) ?_
  refine c_keep (by omega) hRC (fun h1 r1 f1 => ?_)
  have hM1 := RM_C hRM f1
  dsimp only [gPush]
  refine V_aloadn2 dL_law_1324 ?_
  refine V_callV0 (μ' := mX10_keep) dL_law_1325 okX10_keep lL_153 rfl (by first | assumption | rfl) (by first | decide | omega) (Nat.le_of_ble_eq_true rfl) (Nat.le_of_ble_eq_true rfl) (by omega) ?_
  refine m_keep (by omega) hM1 hRC.2.1 (fun h2 r2 f2 => ?_)
  dsimp only [gPush]
  refine V_icmp_eq (tgt := 1346) dL_law_1328 (by decide) (fun c1328 => ?_) (fun c1328 => ?_)
  · skip
    exact kk h2 _ (RC_D r1 f2) r2
  · skip
    exact absurd rfl c1328
set_option maxRecDepth 100000 in
set_option maxHeartbeats 4000000 in
theorem L_33 (hd : 20 ≤ d) (hj : j + 6 ≤ Γ.2.2.2.1.2.1) (hRC : RC h S) (hRM : RM h S) (kk : ∀ h' S', RC h' S' → RM h' S' → V Γ mL_law d 124 124 h' 1346 [some (.ref 1000), some (.ref 0), some (.ref 94), some (.int (nI j))] [] Q) : V Γ mL_law d 124 124 h 1333 [some (.ref 1000), some (.ref 0), some (.ref 94), some (.int (nI j))] [] Q := by
  refine V_aloadn1 dL_law_1333 ?_
  refine V_callV0 (μ' := mX9_again) dL_law_1334 okX9_again lL_154 rfl (by first | assumption | rfl) (by first | decide | omega) (Nat.le_of_ble_eq_true rfl) (Nat.le_of_ble_eq_true rfl) (by omega) ?_
  refine c_again (by omega) hRC (fun h1 r1 f1 => ?_)
  have hM1 := RM_C hRM f1
  dsimp only [gPush]
  refine V_aloadn2 dL_law_1337 ?_
  refine V_callV0 (μ' := mX10_again) dL_law_1338 okX10_again lL_157 rfl (by first | assumption | rfl) (by first | decide | omega) (Nat.le_of_ble_eq_true rfl) (Nat.le_of_ble_eq_true rfl) (by omega) ?_
  refine m_again (by omega) hM1 hRC.2.1 (fun h2 r2 f2 => ?_)
  dsimp only [gPush]
  refine V_icmp_eq (tgt := 1346) dL_law_1341 (by decide) (fun c1341 => ?_) (fun c1341 => ?_)
  · skip
    exact kk h2 _ (RC_D r1 f2) r2
  · skip
    exact absurd rfl c1341
end C91
