theorem dX10_way_0 : decode cX10_way 0 = .ok (.iload_n 1, 1) := by decide +kernel
theorem dX10_way_1 : decode cX10_way 1 = .ok (.invokestatic 114, 3) := by decide +kernel
theorem dX10_way_4 : decode cX10_way 4 = .ok (.ifCond .ne 5, 3) := by decide +kernel
theorem dX10_way_7 : decode cX10_way 7 = .ok (.iconst (-1), 1) := by decide +kernel
theorem dX10_way_8 : decode cX10_way 8 = .ok (.ireturn, 1) := by decide +kernel
theorem dX10_way_9 : decode cX10_way 9 = .ok (.aload_n 0, 1) := by decide +kernel
theorem dX10_way_10 : decode cX10_way 10 = .ok (.getfield 16, 3) := by decide +kernel
theorem dX10_way_13 : decode cX10_way 13 = .ok (.iload_n 1, 1) := by decide +kernel
theorem dX10_way_14 : decode cX10_way 14 = .ok (.iaload, 1) := by decide +kernel
theorem dX10_way_15 : decode cX10_way 15 = .ok (.ifCond .ne 6, 3) := by decide +kernel
theorem dX10_way_18 : decode cX10_way 18 = .ok (.bipush (-11), 2) := by decide +kernel
theorem dX10_way_20 : decode cX10_way 20 = .ok (.ireturn, 1) := by decide +kernel
theorem dX10_way_21 : decode cX10_way 21 = .ok (.aload_n 0, 1) := by decide +kernel
theorem dX10_way_22 : decode cX10_way 22 = .ok (.iload_n 1, 1) := by decide +kernel
theorem dX10_way_23 : decode cX10_way 23 = .ok (.invokevirtual 146, 3) := by decide +kernel
theorem dX10_way_26 : decode cX10_way 26 = .ok (.aload_n 0, 1) := by decide +kernel
theorem dX10_way_27 : decode cX10_way 27 = .ok (.invokevirtual 224, 3) := by decide +kernel
theorem dX10_way_30 : decode cX10_way 30 = .ok (.istore_n 2, 1) := by decide +kernel
theorem dX10_way_31 : decode cX10_way 31 = .ok (.iconst 0, 1) := by decide +kernel
theorem dX10_way_32 : decode cX10_way 32 = .ok (.istore_n 3, 1) := by decide +kernel
theorem dX10_way_33 : decode cX10_way 33 = .ok (.iconst 1, 1) := by decide +kernel
theorem dX10_way_34 : decode cX10_way 34 = .ok (.istore 4, 2) := by decide +kernel
theorem dX10_way_36 : decode cX10_way 36 = .ok (.iload 4, 2) := by decide +kernel
theorem dX10_way_38 : decode cX10_way 38 = .ok (.aload_n 0, 1) := by decide +kernel
theorem dX10_way_39 : decode cX10_way 39 = .ok (.getfield 7, 3) := by decide +kernel
theorem dX10_way_42 : decode cX10_way 42 = .ok (.if_icmp .ge 42, 3) := by decide +kernel
theorem dX10_way_45 : decode cX10_way 45 = .ok (.aload_n 0, 1) := by decide +kernel
theorem dX10_way_46 : decode cX10_way 46 = .ok (.iload 4, 2) := by decide +kernel
theorem dX10_way_48 : decode cX10_way 48 = .ok (.invokevirtual 182, 3) := by decide +kernel
theorem dX10_way_51 : decode cX10_way 51 = .ok (.istore 5, 2) := by decide +kernel
theorem dX10_way_53 : decode cX10_way 53 = .ok (.iload_n 3, 1) := by decide +kernel
theorem dX10_way_54 : decode cX10_way 54 = .ok (.iload 5, 2) := by decide +kernel
theorem dX10_way_56 : decode cX10_way 56 = .ok (.ifCond .eq 7, 3) := by decide +kernel
theorem dX10_way_59 : decode cX10_way 59 = .ok (.iconst 1, 1) := by decide +kernel
theorem dX10_way_60 : decode cX10_way 60 = .ok (.goto 4, 3) := by decide +kernel
theorem dX10_way_63 : decode cX10_way 63 = .ok (.iconst 0, 1) := by decide +kernel
theorem dX10_way_64 : decode cX10_way 64 = .ok (.iadd, 1) := by decide +kernel
theorem dX10_way_65 : decode cX10_way 65 = .ok (.istore_n 3, 1) := by decide +kernel
theorem dX10_way_66 : decode cX10_way 66 = .ok (.iload 5, 2) := by decide +kernel
theorem dX10_way_68 : decode cX10_way 68 = .ok (.ifCond .eq 7, 3) := by decide +kernel
theorem dX10_way_71 : decode cX10_way 71 = .ok (.iconst 1, 1) := by decide +kernel
theorem dX10_way_72 : decode cX10_way 72 = .ok (.goto 7, 3) := by decide +kernel
theorem dX10_way_75 : decode cX10_way 75 = .ok (.iload 4, 2) := by decide +kernel
theorem dX10_way_77 : decode cX10_way 77 = .ok (.iconst 1, 1) := by decide +kernel
theorem dX10_way_78 : decode cX10_way 78 = .ok (.iadd, 1) := by decide +kernel
theorem dX10_way_79 : decode cX10_way 79 = .ok (.istore 4, 2) := by decide +kernel
theorem dX10_way_81 : decode cX10_way 81 = .ok (.goto (-45), 3) := by decide +kernel
theorem dX10_way_84 : decode cX10_way 84 = .ok (.iload_n 2, 1) := by decide +kernel
theorem dX10_way_85 : decode cX10_way 85 = .ok (.ifCond .ge 7, 3) := by decide +kernel
theorem dX10_way_88 : decode cX10_way 88 = .ok (.iload_n 2, 1) := by decide +kernel
theorem dX10_way_89 : decode cX10_way 89 = .ok (.goto 4, 3) := by decide +kernel
theorem dX10_way_92 : decode cX10_way 92 = .ok (.iload_n 3, 1) := by decide +kernel
theorem dX10_way_93 : decode cX10_way 93 = .ok (.ireturn, 1) := by decide +kernel
theorem dX10_raisedBy_0 : decode cX10_raisedBy 0 = .ok (.aload_n 0, 1) := by decide +kernel
theorem dX10_raisedBy_1 : decode cX10_raisedBy 1 = .ok (.iload_n 1, 1) := by decide +kernel
theorem dX10_raisedBy_2 : decode cX10_raisedBy 2 = .ok (.invokevirtual 146, 3) := by decide +kernel
theorem dX10_raisedBy_5 : decode cX10_raisedBy 5 = .ok (.aload_n 0, 1) := by decide +kernel
theorem dX10_raisedBy_6 : decode cX10_raisedBy 6 = .ok (.iload_n 2, 1) := by decide +kernel
theorem dX10_raisedBy_7 : decode cX10_raisedBy 7 = .ok (.invokevirtual 179, 3) := by decide +kernel
theorem dX10_raisedBy_10 : decode cX10_raisedBy 10 = .ok (.ifCond .eq 38, 3) := by decide +kernel
theorem dX10_raisedBy_13 : decode cX10_raisedBy 13 = .ok (.aload_n 0, 1) := by decide +kernel
theorem dX10_raisedBy_14 : decode cX10_raisedBy 14 = .ok (.iload_n 3, 1) := by decide +kernel
theorem dX10_raisedBy_15 : decode cX10_raisedBy 15 = .ok (.invokevirtual 179, 3) := by decide +kernel
theorem dX10_raisedBy_18 : decode cX10_raisedBy 18 = .ok (.ifCond .eq 30, 3) := by decide +kernel
theorem dX10_raisedBy_21 : decode cX10_raisedBy 21 = .ok (.iload 4, 2) := by decide +kernel
theorem dX10_raisedBy_23 : decode cX10_raisedBy 23 = .ok (.ifCond .eq 21, 3) := by decide +kernel
theorem dX10_raisedBy_26 : decode cX10_raisedBy 26 = .ok (.aload_n 0, 1) := by decide +kernel
theorem dX10_raisedBy_27 : decode cX10_raisedBy 27 = .ok (.iload 4, 2) := by decide +kernel
theorem dX10_raisedBy_29 : decode cX10_raisedBy 29 = .ok (.invokevirtual 179, 3) := by decide +kernel
theorem dX10_raisedBy_32 : decode cX10_raisedBy 32 = .ok (.ifCond .eq 16, 3) := by decide +kernel
theorem dX10_raisedBy_35 : decode cX10_raisedBy 35 = .ok (.aload_n 0, 1) := by decide +kernel
theorem dX10_raisedBy_36 : decode cX10_raisedBy 36 = .ok (.iload 5, 2) := by decide +kernel
theorem dX10_raisedBy_38 : decode cX10_raisedBy 38 = .ok (.invokevirtual 179, 3) := by decide +kernel
theorem dX10_raisedBy_41 : decode cX10_raisedBy 41 = .ok (.ifCond .eq 7, 3) := by decide +kernel
theorem dX10_raisedBy_44 : decode cX10_raisedBy 44 = .ok (.iconst 1, 1) := by decide +kernel
theorem dX10_raisedBy_45 : decode cX10_raisedBy 45 = .ok (.goto 4, 3) := by decide +kernel
theorem dX10_raisedBy_48 : decode cX10_raisedBy 48 = .ok (.iconst 0, 1) := by decide +kernel
theorem dX10_raisedBy_49 : decode cX10_raisedBy 49 = .ok (.istore 6, 2) := by decide +kernel
theorem dX10_raisedBy_51 : decode cX10_raisedBy 51 = .ok (.iload 6, 2) := by decide +kernel
theorem dX10_raisedBy_53 : decode cX10_raisedBy 53 = .ok (.ifCond .eq 10, 3) := by decide +kernel
theorem dX10_raisedBy_56 : decode cX10_raisedBy 56 = .ok (.aload_n 0, 1) := by decide +kernel
theorem dX10_raisedBy_57 : decode cX10_raisedBy 57 = .ok (.invokevirtual 149, 3) := by decide +kernel
theorem dX10_raisedBy_60 : decode cX10_raisedBy 60 = .ok (.goto 4, 3) := by decide +kernel
theorem dX10_raisedBy_63 : decode cX10_raisedBy 63 = .ok (.iconst (-1), 1) := by decide +kernel
theorem dX10_raisedBy_64 : decode cX10_raisedBy 64 = .ok (.ireturn, 1) := by decide +kernel
theorem dX10_pair_0 : decode cX10_pair 0 = .ok (.iload_n 1, 1) := by decide +kernel
theorem dX10_pair_1 : decode cX10_pair 1 = .ok (.invokestatic 114, 3) := by decide +kernel
theorem dX10_pair_4 : decode cX10_pair 4 = .ok (.ifCond .eq 24, 3) := by decide +kernel
theorem dX10_pair_7 : decode cX10_pair 7 = .ok (.aload_n 0, 1) := by decide +kernel
theorem dX10_pair_8 : decode cX10_pair 8 = .ok (.iload_n 2, 1) := by decide +kernel
theorem dX10_pair_9 : decode cX10_pair 9 = .ok (.invokevirtual 173, 3) := by decide +kernel
theorem dX10_pair_12 : decode cX10_pair 12 = .ok (.ifCond .eq 16, 3) := by decide +kernel
theorem dX10_pair_15 : decode cX10_pair 15 = .ok (.aload_n 0, 1) := by decide +kernel
theorem dX10_pair_16 : decode cX10_pair 16 = .ok (.iload_n 3, 1) := by decide +kernel
theorem dX10_pair_17 : decode cX10_pair 17 = .ok (.invokevirtual 173, 3) := by decide +kernel
theorem dX10_pair_20 : decode cX10_pair 20 = .ok (.ifCond .eq 8, 3) := by decide +kernel
theorem dX10_pair_23 : decode cX10_pair 23 = .ok (.iload_n 2, 1) := by decide +kernel
theorem dX10_pair_24 : decode cX10_pair 24 = .ok (.iload_n 3, 1) := by decide +kernel
theorem dX10_pair_25 : decode cX10_pair 25 = .ok (.if_icmp .ne 5, 3) := by decide +kernel
theorem dX10_pair_28 : decode cX10_pair 28 = .ok (.iconst (-1), 1) := by decide +kernel
theorem dX10_pair_29 : decode cX10_pair 29 = .ok (.ireturn, 1) := by decide +kernel
theorem dX10_pair_30 : decode cX10_pair 30 = .ok (.aload_n 0, 1) := by decide +kernel
theorem dX10_pair_31 : decode cX10_pair 31 = .ok (.getfield 16, 3) := by decide +kernel
theorem dX10_pair_34 : decode cX10_pair 34 = .ok (.iload_n 1, 1) := by decide +kernel
theorem dX10_pair_35 : decode cX10_pair 35 = .ok (.iaload, 1) := by decide +kernel
theorem dX10_pair_36 : decode cX10_pair 36 = .ok (.ifCond .ne 6, 3) := by decide +kernel
theorem dX10_pair_39 : decode cX10_pair 39 = .ok (.bipush (-11), 2) := by decide +kernel
theorem dX10_pair_41 : decode cX10_pair 41 = .ok (.ireturn, 1) := by decide +kernel
theorem dX10_pair_42 : decode cX10_pair 42 = .ok (.aload_n 0, 1) := by decide +kernel
theorem dX10_pair_43 : decode cX10_pair 43 = .ok (.iload_n 1, 1) := by decide +kernel
theorem dX10_pair_44 : decode cX10_pair 44 = .ok (.invokevirtual 146, 3) := by decide +kernel
theorem dX10_pair_47 : decode cX10_pair 47 = .ok (.aload_n 0, 1) := by decide +kernel
theorem dX10_pair_48 : decode cX10_pair 48 = .ok (.iload_n 2, 1) := by decide +kernel
theorem dX10_pair_49 : decode cX10_pair 49 = .ok (.invokevirtual 170, 3) := by decide +kernel
theorem dX10_pair_52 : decode cX10_pair 52 = .ok (.aload_n 0, 1) := by decide +kernel
theorem dX10_pair_53 : decode cX10_pair 53 = .ok (.getfield 164, 3) := by decide +kernel
theorem dX10_pair_56 : decode cX10_pair 56 = .ok (.ifCond .le 7, 3) := by decide +kernel
theorem dX10_pair_59 : decode cX10_pair 59 = .ok (.iconst 1, 1) := by decide +kernel
theorem dX10_pair_60 : decode cX10_pair 60 = .ok (.goto 4, 3) := by decide +kernel
theorem dX10_pair_63 : decode cX10_pair 63 = .ok (.iconst 0, 1) := by decide +kernel
theorem dX10_pair_64 : decode cX10_pair 64 = .ok (.istore 4, 2) := by decide +kernel
theorem dX10_pair_66 : decode cX10_pair 66 = .ok (.aload_n 0, 1) := by decide +kernel
theorem dX10_pair_67 : decode cX10_pair 67 = .ok (.iload_n 3, 1) := by decide +kernel
theorem dX10_pair_68 : decode cX10_pair 68 = .ok (.invokevirtual 170, 3) := by decide +kernel
theorem dX10_pair_71 : decode cX10_pair 71 = .ok (.iload 4, 2) := by decide +kernel
theorem dX10_pair_73 : decode cX10_pair 73 = .ok (.ifCond .eq 10, 3) := by decide +kernel
theorem dX10_pair_76 : decode cX10_pair 76 = .ok (.aload_n 0, 1) := by decide +kernel
theorem dX10_pair_77 : decode cX10_pair 77 = .ok (.getfield 164, 3) := by decide +kernel
theorem dX10_pair_80 : decode cX10_pair 80 = .ok (.ifCond .ne 6, 3) := by decide +kernel
theorem dX10_pair_83 : decode cX10_pair 83 = .ok (.bipush (-3), 2) := by decide +kernel
theorem dX10_pair_85 : decode cX10_pair 85 = .ok (.ireturn, 1) := by decide +kernel
theorem dX10_pair_86 : decode cX10_pair 86 = .ok (.aload_n 0, 1) := by decide +kernel
theorem dX10_pair_87 : decode cX10_pair 87 = .ok (.iload_n 1, 1) := by decide +kernel
theorem dX10_pair_88 : decode cX10_pair 88 = .ok (.iload_n 2, 1) := by decide +kernel
theorem dX10_pair_89 : decode cX10_pair 89 = .ok (.iload_n 3, 1) := by decide +kernel
theorem dX10_pair_90 : decode cX10_pair 90 = .ok (.iconst 0, 1) := by decide +kernel
theorem dX10_pair_91 : decode cX10_pair 91 = .ok (.iconst 0, 1) := by decide +kernel
theorem dX10_pair_92 : decode cX10_pair 92 = .ok (.invokevirtual 242, 3) := by decide +kernel
theorem dX10_pair_95 : decode cX10_pair 95 = .ok (.istore 5, 2) := by decide +kernel
theorem dX10_pair_97 : decode cX10_pair 97 = .ok (.iload 5, 2) := by decide +kernel
theorem dX10_pair_99 : decode cX10_pair 99 = .ok (.ifCond .lt 19, 3) := by decide +kernel
theorem dX10_pair_102 : decode cX10_pair 102 = .ok (.iload 5, 2) := by decide +kernel
theorem dX10_pair_104 : decode cX10_pair 104 = .ok (.aload_n 0, 1) := by decide +kernel
theorem dX10_pair_105 : decode cX10_pair 105 = .ok (.iload_n 1, 1) := by decide +kernel
theorem dX10_pair_106 : decode cX10_pair 106 = .ok (.iload_n 3, 1) := by decide +kernel
theorem dX10_pair_107 : decode cX10_pair 107 = .ok (.iload_n 2, 1) := by decide +kernel
theorem dX10_pair_108 : decode cX10_pair 108 = .ok (.iconst 0, 1) := by decide +kernel
theorem dX10_pair_109 : decode cX10_pair 109 = .ok (.iconst 0, 1) := by decide +kernel
theorem dX10_pair_110 : decode cX10_pair 110 = .ok (.invokevirtual 242, 3) := by decide +kernel
theorem dX10_pair_113 : decode cX10_pair 113 = .ok (.if_icmp .ne 5, 3) := by decide +kernel
theorem dX10_pair_116 : decode cX10_pair 116 = .ok (.iconst 1, 1) := by decide +kernel
theorem dX10_pair_117 : decode cX10_pair 117 = .ok (.ireturn, 1) := by decide +kernel
theorem dX10_pair_118 : decode cX10_pair 118 = .ok (.aload_n 0, 1) := by decide +kernel
theorem dX10_pair_119 : decode cX10_pair 119 = .ok (.iload_n 1, 1) := by decide +kernel
theorem dX10_pair_120 : decode cX10_pair 120 = .ok (.iload_n 2, 1) := by decide +kernel
theorem dX10_pair_121 : decode cX10_pair 121 = .ok (.iload_n 3, 1) := by decide +kernel
theorem dX10_pair_122 : decode cX10_pair 122 = .ok (.iload_n 3, 1) := by decide +kernel
theorem dX10_pair_123 : decode cX10_pair 123 = .ok (.iload_n 2, 1) := by decide +kernel
theorem dX10_pair_124 : decode cX10_pair 124 = .ok (.invokevirtual 242, 3) := by decide +kernel
theorem dX10_pair_127 : decode cX10_pair 127 = .ok (.istore 5, 2) := by decide +kernel
theorem dX10_pair_129 : decode cX10_pair 129 = .ok (.iload 5, 2) := by decide +kernel
theorem dX10_pair_131 : decode cX10_pair 131 = .ok (.ifCond .lt 21, 3) := by decide +kernel
theorem dX10_pair_134 : decode cX10_pair 134 = .ok (.iload 5, 2) := by decide +kernel
theorem dX10_pair_136 : decode cX10_pair 136 = .ok (.aload_n 0, 1) := by decide +kernel
theorem dX10_pair_137 : decode cX10_pair 137 = .ok (.iload_n 1, 1) := by decide +kernel
theorem dX10_pair_138 : decode cX10_pair 138 = .ok (.iload_n 3, 1) := by decide +kernel
theorem dX10_pair_139 : decode cX10_pair 139 = .ok (.iload_n 2, 1) := by decide +kernel
theorem dX10_pair_140 : decode cX10_pair 140 = .ok (.iload_n 2, 1) := by decide +kernel
theorem dX10_pair_141 : decode cX10_pair 141 = .ok (.iload_n 3, 1) := by decide +kernel
theorem dX10_pair_142 : decode cX10_pair 142 = .ok (.invokevirtual 242, 3) := by decide +kernel
theorem dX10_pair_145 : decode cX10_pair 145 = .ok (.if_icmp .ne 7, 3) := by decide +kernel
theorem dX10_pair_148 : decode cX10_pair 148 = .ok (.iconst 2, 1) := by decide +kernel
theorem dX10_pair_149 : decode cX10_pair 149 = .ok (.goto 4, 3) := by decide +kernel
theorem dX10_pair_152 : decode cX10_pair 152 = .ok (.iconst 0, 1) := by decide +kernel
theorem dX10_pair_153 : decode cX10_pair 153 = .ok (.ireturn, 1) := by decide +kernel
theorem dX10_inserts_0 : decode cX10_inserts 0 = .ok (.iconst 0, 1) := by decide +kernel
theorem dX10_inserts_1 : decode cX10_inserts 1 = .ok (.istore_n 1, 1) := by decide +kernel
theorem dX10_inserts_2 : decode cX10_inserts 2 = .ok (.iload_n 1, 1) := by decide +kernel
theorem dX10_inserts_3 : decode cX10_inserts 3 = .ok (.bipush 6, 2) := by decide +kernel
theorem dX10_inserts_5 : decode cX10_inserts 5 = .ok (.if_icmp .ge 16, 3) := by decide +kernel
theorem dX10_inserts_8 : decode cX10_inserts 8 = .ok (.aload_n 0, 1) := by decide +kernel
theorem dX10_inserts_9 : decode cX10_inserts 9 = .ok (.getfield 50, 3) := by decide +kernel
theorem dX10_inserts_12 : decode cX10_inserts 12 = .ok (.iload_n 1, 1) := by decide +kernel
theorem dX10_inserts_13 : decode cX10_inserts 13 = .ok (.iconst 0, 1) := by decide +kernel
theorem dX10_inserts_14 : decode cX10_inserts 14 = .ok (.iastore, 1) := by decide +kernel
theorem dX10_inserts_15 : decode cX10_inserts 15 = .ok (.iinc 1 1, 3) := by decide +kernel
theorem dX10_inserts_18 : decode cX10_inserts 18 = .ok (.goto (-16), 3) := by decide +kernel
theorem dX10_inserts_21 : decode cX10_inserts 21 = .ok (.iconst 0, 1) := by decide +kernel
theorem dX10_inserts_22 : decode cX10_inserts 22 = .ok (.istore_n 1, 1) := by decide +kernel
theorem dX10_inserts_23 : decode cX10_inserts 23 = .ok (.iload_n 1, 1) := by decide +kernel
theorem dX10_inserts_24 : decode cX10_inserts 24 = .ok (.aload_n 0, 1) := by decide +kernel
theorem dX10_inserts_25 : decode cX10_inserts 25 = .ok (.getfield 111, 3) := by decide +kernel
theorem dX10_inserts_28 : decode cX10_inserts 28 = .ok (.if_icmp .ge 155, 3) := by decide +kernel
theorem dX10_inserts_31 : decode cX10_inserts 31 = .ok (.aload_n 0, 1) := by decide +kernel
theorem dX10_inserts_32 : decode cX10_inserts 32 = .ok (.getfield 47, 3) := by decide +kernel
theorem dX10_inserts_35 : decode cX10_inserts 35 = .ok (.iload_n 1, 1) := by decide +kernel
theorem dX10_inserts_36 : decode cX10_inserts 36 = .ok (.iaload, 1) := by decide +kernel
theorem dX10_inserts_37 : decode cX10_inserts 37 = .ok (.istore_n 2, 1) := by decide +kernel
theorem dX10_inserts_38 : decode cX10_inserts 38 = .ok (.iconst 0, 1) := by decide +kernel
theorem dX10_inserts_39 : decode cX10_inserts 39 = .ok (.istore_n 3, 1) := by decide +kernel
theorem dX10_inserts_40 : decode cX10_inserts 40 = .ok (.iconst 1, 1) := by decide +kernel
theorem dX10_inserts_41 : decode cX10_inserts 41 = .ok (.istore 4, 2) := by decide +kernel
theorem dX10_inserts_43 : decode cX10_inserts 43 = .ok (.iload 4, 2) := by decide +kernel
theorem dX10_inserts_45 : decode cX10_inserts 45 = .ok (.ifCond .eq 132, 3) := by decide +kernel
theorem dX10_inserts_48 : decode cX10_inserts 48 = .ok (.iconst 0, 1) := by decide +kernel
theorem dX10_inserts_49 : decode cX10_inserts 49 = .ok (.istore 5, 2) := by decide +kernel
theorem dX10_inserts_51 : decode cX10_inserts 51 = .ok (.iload 5, 2) := by decide +kernel
theorem dX10_inserts_53 : decode cX10_inserts 53 = .ok (.aload_n 0, 1) := by decide +kernel
theorem dX10_inserts_54 : decode cX10_inserts 54 = .ok (.getfield 50, 3) := by decide +kernel
theorem dX10_inserts_57 : decode cX10_inserts 57 = .ok (.iload_n 3, 1) := by decide +kernel
theorem dX10_inserts_58 : decode cX10_inserts 58 = .ok (.iaload, 1) := by decide +kernel
theorem dX10_inserts_59 : decode cX10_inserts 59 = .ok (.if_icmp .ge 25, 3) := by decide +kernel
theorem dX10_inserts_62 : decode cX10_inserts 62 = .ok (.aload_n 0, 1) := by decide +kernel
theorem dX10_inserts_63 : decode cX10_inserts 63 = .ok (.getfield 59, 3) := by decide +kernel
theorem dX10_inserts_66 : decode cX10_inserts 66 = .ok (.bipush 6, 2) := by decide +kernel
theorem dX10_inserts_68 : decode cX10_inserts 68 = .ok (.iload_n 3, 1) := by decide +kernel
theorem dX10_inserts_69 : decode cX10_inserts 69 = .ok (.imul, 1) := by decide +kernel
theorem dX10_inserts_70 : decode cX10_inserts 70 = .ok (.iload 5, 2) := by decide +kernel
theorem dX10_inserts_72 : decode cX10_inserts 72 = .ok (.iadd, 1) := by decide +kernel
theorem dX10_inserts_73 : decode cX10_inserts 73 = .ok (.iaload, 1) := by decide +kernel
theorem dX10_inserts_74 : decode cX10_inserts 74 = .ok (.iload_n 2, 1) := by decide +kernel
theorem dX10_inserts_75 : decode cX10_inserts 75 = .ok (.if_icmp .gt 9, 3) := by decide +kernel
theorem dX10_inserts_78 : decode cX10_inserts 78 = .ok (.iinc 5 1, 3) := by decide +kernel
theorem dX10_inserts_81 : decode cX10_inserts 81 = .ok (.goto (-30), 3) := by decide +kernel
theorem dX10_inserts_84 : decode cX10_inserts 84 = .ok (.iload 5, 2) := by decide +kernel
theorem dX10_inserts_86 : decode cX10_inserts 86 = .ok (.aload_n 0, 1) := by decide +kernel
theorem dX10_inserts_87 : decode cX10_inserts 87 = .ok (.getfield 50, 3) := by decide +kernel
theorem dX10_inserts_90 : decode cX10_inserts 90 = .ok (.iload_n 3, 1) := by decide +kernel
theorem dX10_inserts_91 : decode cX10_inserts 91 = .ok (.iaload, 1) := by decide +kernel
theorem dX10_inserts_92 : decode cX10_inserts 92 = .ok (.if_icmp .ge 7, 3) := by decide +kernel
theorem dX10_inserts_95 : decode cX10_inserts 95 = .ok (.iconst 1, 1) := by decide +kernel
theorem dX10_inserts_96 : decode cX10_inserts 96 = .ok (.goto 4, 3) := by decide +kernel
theorem dX10_inserts_99 : decode cX10_inserts 99 = .ok (.iconst 0, 1) := by decide +kernel
theorem dX10_inserts_100 : decode cX10_inserts 100 = .ok (.istore 4, 2) := by decide +kernel
theorem dX10_inserts_102 : decode cX10_inserts 102 = .ok (.iload 4, 2) := by decide +kernel
theorem dX10_inserts_104 : decode cX10_inserts 104 = .ok (.ifCond .eq 18, 3) := by decide +kernel
theorem dX10_inserts_107 : decode cX10_inserts 107 = .ok (.aload_n 0, 1) := by decide +kernel
theorem dX10_inserts_108 : decode cX10_inserts 108 = .ok (.getfield 59, 3) := by decide +kernel
theorem dX10_inserts_111 : decode cX10_inserts 111 = .ok (.bipush 6, 2) := by decide +kernel
theorem dX10_inserts_113 : decode cX10_inserts 113 = .ok (.iload_n 3, 1) := by decide +kernel
theorem dX10_inserts_114 : decode cX10_inserts 114 = .ok (.imul, 1) := by decide +kernel
theorem dX10_inserts_115 : decode cX10_inserts 115 = .ok (.iload 5, 2) := by decide +kernel
theorem dX10_inserts_117 : decode cX10_inserts 117 = .ok (.iadd, 1) := by decide +kernel
theorem dX10_inserts_118 : decode cX10_inserts 118 = .ok (.iaload, 1) := by decide +kernel
theorem dX10_inserts_119 : decode cX10_inserts 119 = .ok (.goto 4, 3) := by decide +kernel
theorem dX10_inserts_122 : decode cX10_inserts 122 = .ok (.iconst 0, 1) := by decide +kernel
theorem dX10_inserts_123 : decode cX10_inserts 123 = .ok (.istore 6, 2) := by decide +kernel
theorem dX10_inserts_125 : decode cX10_inserts 125 = .ok (.aload_n 0, 1) := by decide +kernel
theorem dX10_inserts_126 : decode cX10_inserts 126 = .ok (.getfield 59, 3) := by decide +kernel
theorem dX10_inserts_129 : decode cX10_inserts 129 = .ok (.bipush 6, 2) := by decide +kernel
theorem dX10_inserts_131 : decode cX10_inserts 131 = .ok (.iload_n 3, 1) := by decide +kernel
theorem dX10_inserts_132 : decode cX10_inserts 132 = .ok (.imul, 1) := by decide +kernel
theorem dX10_inserts_133 : decode cX10_inserts 133 = .ok (.iload 5, 2) := by decide +kernel
theorem dX10_inserts_135 : decode cX10_inserts 135 = .ok (.iadd, 1) := by decide +kernel
theorem dX10_inserts_136 : decode cX10_inserts 136 = .ok (.iload_n 2, 1) := by decide +kernel
theorem dX10_inserts_137 : decode cX10_inserts 137 = .ok (.iastore, 1) := by decide +kernel
theorem dX10_inserts_138 : decode cX10_inserts 138 = .ok (.iload 6, 2) := by decide +kernel
theorem dX10_inserts_140 : decode cX10_inserts 140 = .ok (.istore_n 2, 1) := by decide +kernel
theorem dX10_inserts_141 : decode cX10_inserts 141 = .ok (.iload 4, 2) := by decide +kernel
theorem dX10_inserts_143 : decode cX10_inserts 143 = .ok (.ifCond .ne 28, 3) := by decide +kernel
theorem dX10_inserts_146 : decode cX10_inserts 146 = .ok (.aload_n 0, 1) := by decide +kernel
theorem dX10_inserts_147 : decode cX10_inserts 147 = .ok (.getfield 50, 3) := by decide +kernel
theorem dX10_inserts_150 : decode cX10_inserts 150 = .ok (.iload_n 3, 1) := by decide +kernel
theorem dX10_inserts_151 : decode cX10_inserts 151 = .ok (.dup2, 1) := by decide +kernel
theorem dX10_inserts_152 : decode cX10_inserts 152 = .ok (.iaload, 1) := by decide +kernel
theorem dX10_inserts_153 : decode cX10_inserts 153 = .ok (.iconst 1, 1) := by decide +kernel
theorem dX10_inserts_154 : decode cX10_inserts 154 = .ok (.iadd, 1) := by decide +kernel
theorem dX10_inserts_155 : decode cX10_inserts 155 = .ok (.iastore, 1) := by decide +kernel
theorem dX10_inserts_156 : decode cX10_inserts 156 = .ok (.aload_n 0, 1) := by decide +kernel
theorem dX10_inserts_157 : decode cX10_inserts 157 = .ok (.getfield 77, 3) := by decide +kernel
theorem dX10_inserts_160 : decode cX10_inserts 160 = .ok (.bipush 6, 2) := by decide +kernel
theorem dX10_inserts_162 : decode cX10_inserts 162 = .ok (.iload_n 3, 1) := by decide +kernel
theorem dX10_inserts_163 : decode cX10_inserts 163 = .ok (.imul, 1) := by decide +kernel
theorem dX10_inserts_164 : decode cX10_inserts 164 = .ok (.iload 5, 2) := by decide +kernel
theorem dX10_inserts_166 : decode cX10_inserts 166 = .ok (.iadd, 1) := by decide +kernel
theorem dX10_inserts_167 : decode cX10_inserts 167 = .ok (.iload_n 1, 1) := by decide +kernel
theorem dX10_inserts_168 : decode cX10_inserts 168 = .ok (.iconst 1, 1) := by decide +kernel
theorem dX10_inserts_169 : decode cX10_inserts 169 = .ok (.iadd, 1) := by decide +kernel
theorem dX10_inserts_170 : decode cX10_inserts 170 = .ok (.iastore, 1) := by decide +kernel
theorem dX10_inserts_171 : decode cX10_inserts 171 = .ok (.iinc 3 1, 3) := by decide +kernel
theorem dX10_inserts_174 : decode cX10_inserts 174 = .ok (.goto (-131), 3) := by decide +kernel
theorem dX10_inserts_177 : decode cX10_inserts 177 = .ok (.iinc 1 1, 3) := by decide +kernel
theorem dX10_inserts_180 : decode cX10_inserts 180 = .ok (.goto (-157), 3) := by decide +kernel
theorem dX10_inserts_183 : decode cX10_inserts 183 = .ok (.aload_n 0, 1) := by decide +kernel
theorem dX10_inserts_184 : decode cX10_inserts 184 = .ok (.invokevirtual 143, 3) := by decide +kernel
theorem dX10_inserts_187 : decode cX10_inserts 187 = .ok (.return_, 1) := by decide +kernel
theorem dX10_insert_0 : decode cX10_insert 0 = .ok (.iload_n 1, 1) := by decide +kernel
theorem dX10_insert_1 : decode cX10_insert 1 = .ok (.invokestatic 114, 3) := by decide +kernel
theorem dX10_insert_4 : decode cX10_insert 4 = .ok (.ifCond .eq 10, 3) := by decide +kernel
theorem dX10_insert_7 : decode cX10_insert 7 = .ok (.iload_n 2, 1) := by decide +kernel
theorem dX10_insert_8 : decode cX10_insert 8 = .ok (.invokestatic 114, 3) := by decide +kernel
theorem dX10_insert_11 : decode cX10_insert 11 = .ok (.ifCond .ne 5, 3) := by decide +kernel
theorem dX10_insert_14 : decode cX10_insert 14 = .ok (.iconst (-1), 1) := by decide +kernel
theorem dX10_insert_15 : decode cX10_insert 15 = .ok (.ireturn, 1) := by decide +kernel
theorem dX10_insert_16 : decode cX10_insert 16 = .ok (.aload_n 0, 1) := by decide +kernel
theorem dX10_insert_17 : decode cX10_insert 17 = .ok (.getfield 16, 3) := by decide +kernel
theorem dX10_insert_20 : decode cX10_insert 20 = .ok (.iload_n 1, 1) := by decide +kernel
theorem dX10_insert_21 : decode cX10_insert 21 = .ok (.iaload, 1) := by decide +kernel
theorem dX10_insert_22 : decode cX10_insert 22 = .ok (.ifCond .ne 6, 3) := by decide +kernel
theorem dX10_insert_25 : decode cX10_insert 25 = .ok (.bipush (-11), 2) := by decide +kernel
theorem dX10_insert_27 : decode cX10_insert 27 = .ok (.ireturn, 1) := by decide +kernel
theorem dX10_insert_28 : decode cX10_insert 28 = .ok (.aload_n 0, 1) := by decide +kernel
theorem dX10_insert_29 : decode cX10_insert 29 = .ok (.iload_n 1, 1) := by decide +kernel
theorem dX10_insert_30 : decode cX10_insert 30 = .ok (.invokevirtual 146, 3) := by decide +kernel
theorem dX10_insert_33 : decode cX10_insert 33 = .ok (.aload_n 0, 1) := by decide +kernel
theorem dX10_insert_34 : decode cX10_insert 34 = .ok (.invokevirtual 176, 3) := by decide +kernel
theorem dX10_insert_37 : decode cX10_insert 37 = .ok (.aload_n 0, 1) := by decide +kernel
theorem dX10_insert_38 : decode cX10_insert 38 = .ok (.iload_n 2, 1) := by decide +kernel
theorem dX10_insert_39 : decode cX10_insert 39 = .ok (.invokevirtual 121, 3) := by decide +kernel
theorem dX10_insert_42 : decode cX10_insert 42 = .ok (.aload_n 0, 1) := by decide +kernel
theorem dX10_insert_43 : decode cX10_insert 43 = .ok (.invokevirtual 155, 3) := by decide +kernel
theorem dX10_insert_46 : decode cX10_insert 46 = .ok (.ireturn, 1) := by decide +kernel
theorem dX10_record_0 : decode cX10_record 0 = .ok (.iload_n 1, 1) := by decide +kernel
theorem dX10_record_1 : decode cX10_record 1 = .ok (.invokestatic 114, 3) := by decide +kernel
theorem dX10_record_4 : decode cX10_record 4 = .ok (.ifCond .ne 5, 3) := by decide +kernel
theorem dX10_record_7 : decode cX10_record 7 = .ok (.iconst (-1), 1) := by decide +kernel
theorem dX10_record_8 : decode cX10_record 8 = .ok (.ireturn, 1) := by decide +kernel
theorem dX10_record_9 : decode cX10_record 9 = .ok (.aload_n 0, 1) := by decide +kernel
theorem dX10_record_10 : decode cX10_record 10 = .ok (.getfield 16, 3) := by decide +kernel
theorem dX10_record_13 : decode cX10_record 13 = .ok (.iload_n 1, 1) := by decide +kernel
theorem dX10_record_14 : decode cX10_record 14 = .ok (.iaload, 1) := by decide +kernel
theorem dX10_record_15 : decode cX10_record 15 = .ok (.ifCond .ne 6, 3) := by decide +kernel
theorem dX10_record_18 : decode cX10_record 18 = .ok (.bipush (-11), 2) := by decide +kernel
theorem dX10_record_20 : decode cX10_record 20 = .ok (.ireturn, 1) := by decide +kernel
theorem dX10_record_21 : decode cX10_record 21 = .ok (.aload_n 0, 1) := by decide +kernel
theorem dX10_record_22 : decode cX10_record 22 = .ok (.iload_n 1, 1) := by decide +kernel
theorem dX10_record_23 : decode cX10_record 23 = .ok (.invokevirtual 146, 3) := by decide +kernel
theorem dX10_record_26 : decode cX10_record 26 = .ok (.aload_n 0, 1) := by decide +kernel
theorem dX10_record_27 : decode cX10_record 27 = .ok (.invokevirtual 176, 3) := by decide +kernel
theorem dX10_record_30 : decode cX10_record 30 = .ok (.iload_n 2, 1) := by decide +kernel
theorem dX10_record_31 : decode cX10_record 31 = .ok (.iconst 0, 1) := by decide +kernel
theorem dX10_record_32 : decode cX10_record 32 = .ok (.aload_n 0, 1) := by decide +kernel
theorem dX10_record_33 : decode cX10_record 33 = .ok (.invokevirtual 155, 3) := by decide +kernel
theorem dX10_record_36 : decode cX10_record 36 = .ok (.iconst 1, 1) := by decide +kernel
theorem dX10_record_37 : decode cX10_record 37 = .ok (.isub, 1) := by decide +kernel
theorem dX10_record_38 : decode cX10_record 38 = .ok (.invokestatic 104, 3) := by decide +kernel
theorem dX10_record_41 : decode cX10_record 41 = .ok (.ifCond .ne 6, 3) := by decide +kernel
theorem dX10_record_44 : decode cX10_record 44 = .ok (.bipush (-12), 2) := by decide +kernel
theorem dX10_record_46 : decode cX10_record 46 = .ok (.ireturn, 1) := by decide +kernel
theorem dX10_record_47 : decode cX10_record 47 = .ok (.iconst 0, 1) := by decide +kernel
theorem dX10_record_48 : decode cX10_record 48 = .ok (.istore_n 3, 1) := by decide +kernel
theorem dX10_record_49 : decode cX10_record 49 = .ok (.iconst 0, 1) := by decide +kernel
theorem dX10_record_50 : decode cX10_record 50 = .ok (.istore 4, 2) := by decide +kernel
theorem dX10_record_52 : decode cX10_record 52 = .ok (.iload 4, 2) := by decide +kernel
theorem dX10_record_54 : decode cX10_record 54 = .ok (.aload_n 0, 1) := by decide +kernel
theorem dX10_record_55 : decode cX10_record 55 = .ok (.getfield 50, 3) := by decide +kernel
theorem dX10_record_58 : decode cX10_record 58 = .ok (.iload_n 2, 1) := by decide +kernel
theorem dX10_record_59 : decode cX10_record 59 = .ok (.iaload, 1) := by decide +kernel
theorem dX10_record_60 : decode cX10_record 60 = .ok (.if_icmp .ge 27, 3) := by decide +kernel
theorem dX10_record_63 : decode cX10_record 63 = .ok (.bipush 10, 2) := by decide +kernel
theorem dX10_record_65 : decode cX10_record 65 = .ok (.iload_n 3, 1) := by decide +kernel
theorem dX10_record_66 : decode cX10_record 66 = .ok (.imul, 1) := by decide +kernel
theorem dX10_record_67 : decode cX10_record 67 = .ok (.aload_n 0, 1) := by decide +kernel
theorem dX10_record_68 : decode cX10_record 68 = .ok (.getfield 77, 3) := by decide +kernel
theorem dX10_record_71 : decode cX10_record 71 = .ok (.bipush 6, 2) := by decide +kernel
theorem dX10_record_73 : decode cX10_record 73 = .ok (.iload_n 2, 1) := by decide +kernel
theorem dX10_record_74 : decode cX10_record 74 = .ok (.imul, 1) := by decide +kernel
theorem dX10_record_75 : decode cX10_record 75 = .ok (.iload 4, 2) := by decide +kernel
theorem dX10_record_77 : decode cX10_record 77 = .ok (.iadd, 1) := by decide +kernel
theorem dX10_record_78 : decode cX10_record 78 = .ok (.iaload, 1) := by decide +kernel
theorem dX10_record_79 : decode cX10_record 79 = .ok (.iadd, 1) := by decide +kernel
theorem dX10_record_80 : decode cX10_record 80 = .ok (.istore_n 3, 1) := by decide +kernel
theorem dX10_record_81 : decode cX10_record 81 = .ok (.iinc 4 1, 3) := by decide +kernel
theorem dX10_record_84 : decode cX10_record 84 = .ok (.goto (-32), 3) := by decide +kernel
theorem dX10_record_87 : decode cX10_record 87 = .ok (.iload_n 3, 1) := by decide +kernel
theorem dX10_record_88 : decode cX10_record 88 = .ok (.ireturn, 1) := by decide +kernel
theorem dX10_inserted_0 : decode cX10_inserted 0 = .ok (.aload_n 0, 1) := by decide +kernel
theorem dX10_inserted_1 : decode cX10_inserted 1 = .ok (.iload_n 1, 1) := by decide +kernel
theorem dX10_inserted_2 : decode cX10_inserted 2 = .ok (.invokevirtual 146, 3) := by decide +kernel
theorem dX10_inserted_5 : decode cX10_inserted 5 = .ok (.aload_n 0, 1) := by decide +kernel
theorem dX10_inserted_6 : decode cX10_inserted 6 = .ok (.invokevirtual 176, 3) := by decide +kernel
theorem dX10_inserted_9 : decode cX10_inserted 9 = .ok (.aload_n 0, 1) := by decide +kernel
theorem dX10_inserted_10 : decode cX10_inserted 10 = .ok (.invokevirtual 149, 3) := by decide +kernel
theorem dX10_inserted_13 : decode cX10_inserted 13 = .ok (.i2l, 1) := by decide +kernel
theorem dX10_inserted_14 : decode cX10_inserted 14 = .ok (.lstore_n 2, 1) := by decide +kernel
theorem dX10_inserted_15 : decode cX10_inserted 15 = .ok (.iconst 0, 1) := by decide +kernel
theorem dX10_inserted_16 : decode cX10_inserted 16 = .ok (.istore 4, 2) := by decide +kernel
theorem dX10_inserted_18 : decode cX10_inserted 18 = .ok (.iload 4, 2) := by decide +kernel
theorem dX10_inserted_20 : decode cX10_inserted 20 = .ok (.bipush 6, 2) := by decide +kernel
theorem dX10_inserted_22 : decode cX10_inserted 22 = .ok (.if_icmp .ge 24, 3) := by decide +kernel
theorem dX10_inserted_25 : decode cX10_inserted 25 = .ok (.ldc2_w 246, 3) := by decide +kernel
theorem dX10_inserted_28 : decode cX10_inserted 28 = .ok (.lload_n 2, 1) := by decide +kernel
theorem dX10_inserted_29 : decode cX10_inserted 29 = .ok (.lmul, 1) := by decide +kernel
theorem dX10_inserted_30 : decode cX10_inserted 30 = .ok (.aload_n 0, 1) := by decide +kernel
theorem dX10_inserted_31 : decode cX10_inserted 31 = .ok (.getfield 50, 3) := by decide +kernel
theorem dX10_inserted_34 : decode cX10_inserted 34 = .ok (.iload 4, 2) := by decide +kernel
theorem dX10_inserted_36 : decode cX10_inserted 36 = .ok (.iaload, 1) := by decide +kernel
theorem dX10_inserted_37 : decode cX10_inserted 37 = .ok (.i2l, 1) := by decide +kernel
theorem dX10_inserted_38 : decode cX10_inserted 38 = .ok (.ladd, 1) := by decide +kernel
theorem dX10_inserted_39 : decode cX10_inserted 39 = .ok (.lstore_n 2, 1) := by decide +kernel
theorem dX10_inserted_40 : decode cX10_inserted 40 = .ok (.iinc 4 1, 3) := by decide +kernel
theorem dX10_inserted_43 : decode cX10_inserted 43 = .ok (.goto (-25), 3) := by decide +kernel
theorem dX10_inserted_46 : decode cX10_inserted 46 = .ok (.lload_n 2, 1) := by decide +kernel
theorem dX10_inserted_47 : decode cX10_inserted 47 = .ok (.lreturn, 1) := by decide +kernel
theorem dX10_alike_0 : decode cX10_alike 0 = .ok (.iload_n 1, 1) := by decide +kernel
theorem dX10_alike_1 : decode cX10_alike 1 = .ok (.invokestatic 114, 3) := by decide +kernel
theorem dX10_alike_4 : decode cX10_alike 4 = .ok (.ifCond .eq 10, 3) := by decide +kernel
theorem dX10_alike_7 : decode cX10_alike 7 = .ok (.iload_n 2, 1) := by decide +kernel
theorem dX10_alike_8 : decode cX10_alike 8 = .ok (.invokestatic 114, 3) := by decide +kernel
theorem dX10_alike_11 : decode cX10_alike 11 = .ok (.ifCond .ne 5, 3) := by decide +kernel
theorem dX10_alike_14 : decode cX10_alike 14 = .ok (.iconst (-1), 1) := by decide +kernel
theorem dX10_alike_15 : decode cX10_alike 15 = .ok (.ireturn, 1) := by decide +kernel
theorem dX10_alike_16 : decode cX10_alike 16 = .ok (.aload_n 0, 1) := by decide +kernel
theorem dX10_alike_17 : decode cX10_alike 17 = .ok (.getfield 16, 3) := by decide +kernel
theorem dX10_alike_20 : decode cX10_alike 20 = .ok (.iload_n 1, 1) := by decide +kernel
theorem dX10_alike_21 : decode cX10_alike 21 = .ok (.iaload, 1) := by decide +kernel
theorem dX10_alike_22 : decode cX10_alike 22 = .ok (.ifCond .eq 12, 3) := by decide +kernel
theorem dX10_alike_25 : decode cX10_alike 25 = .ok (.aload_n 0, 1) := by decide +kernel
theorem dX10_alike_26 : decode cX10_alike 26 = .ok (.getfield 16, 3) := by decide +kernel
theorem dX10_alike_29 : decode cX10_alike 29 = .ok (.iload_n 2, 1) := by decide +kernel
theorem dX10_alike_30 : decode cX10_alike 30 = .ok (.iaload, 1) := by decide +kernel
theorem dX10_alike_31 : decode cX10_alike 31 = .ok (.ifCond .ne 6, 3) := by decide +kernel
theorem dX10_alike_34 : decode cX10_alike 34 = .ok (.bipush (-11), 2) := by decide +kernel
theorem dX10_alike_36 : decode cX10_alike 36 = .ok (.ireturn, 1) := by decide +kernel
theorem dX10_alike_37 : decode cX10_alike 37 = .ok (.aload_n 0, 1) := by decide +kernel
theorem dX10_alike_38 : decode cX10_alike 38 = .ok (.iload_n 1, 1) := by decide +kernel
theorem dX10_alike_39 : decode cX10_alike 39 = .ok (.invokevirtual 248, 3) := by decide +kernel
theorem dX10_alike_42 : decode cX10_alike 42 = .ok (.aload_n 0, 1) := by decide +kernel
theorem dX10_alike_43 : decode cX10_alike 43 = .ok (.iload_n 2, 1) := by decide +kernel
theorem dX10_alike_44 : decode cX10_alike 44 = .ok (.invokevirtual 248, 3) := by decide +kernel
theorem dX10_alike_47 : decode cX10_alike 47 = .ok (.lcmp, 1) := by decide +kernel
theorem dX10_alike_48 : decode cX10_alike 48 = .ok (.ifCond .ne 7, 3) := by decide +kernel
theorem dX10_alike_51 : decode cX10_alike 51 = .ok (.iconst 1, 1) := by decide +kernel
theorem dX10_alike_52 : decode cX10_alike 52 = .ok (.goto 4, 3) := by decide +kernel
theorem dX10_alike_55 : decode cX10_alike 55 = .ok (.iconst 0, 1) := by decide +kernel
theorem dX10_alike_56 : decode cX10_alike 56 = .ok (.ireturn, 1) := by decide +kernel
theorem dX10_isShape_0 : decode cX10_isShape 0 = .ok (.iconst 0, 1) := by decide +kernel
theorem dX10_isShape_1 : decode cX10_isShape 1 = .ok (.istore_n 3, 1) := by decide +kernel
theorem dX10_isShape_2 : decode cX10_isShape 2 = .ok (.iload_n 1, 1) := by decide +kernel
theorem dX10_isShape_3 : decode cX10_isShape 3 = .ok (.istore 4, 2) := by decide +kernel
theorem dX10_isShape_5 : decode cX10_isShape 5 = .ok (.iload 4, 2) := by decide +kernel
theorem dX10_isShape_7 : decode cX10_isShape 7 = .ok (.ifCond .le 16, 3) := by decide +kernel
theorem dX10_isShape_10 : decode cX10_isShape 10 = .ok (.iinc 3 1, 3) := by decide +kernel
theorem dX10_isShape_13 : decode cX10_isShape 13 = .ok (.iload 4, 2) := by decide +kernel
theorem dX10_isShape_15 : decode cX10_isShape 15 = .ok (.bipush 10, 2) := by decide +kernel
theorem dX10_isShape_17 : decode cX10_isShape 17 = .ok (.idiv, 1) := by decide +kernel
theorem dX10_isShape_18 : decode cX10_isShape 18 = .ok (.istore 4, 2) := by decide +kernel
theorem dX10_isShape_20 : decode cX10_isShape 20 = .ok (.goto (-15), 3) := by decide +kernel
theorem dX10_isShape_23 : decode cX10_isShape 23 = .ok (.iload_n 1, 1) := by decide +kernel
theorem dX10_isShape_24 : decode cX10_isShape 24 = .ok (.ifCond .lt 15, 3) := by decide +kernel
theorem dX10_isShape_27 : decode cX10_isShape 27 = .ok (.iload_n 3, 1) := by decide +kernel
theorem dX10_isShape_28 : decode cX10_isShape 28 = .ok (.aload_n 0, 1) := by decide +kernel
theorem dX10_isShape_29 : decode cX10_isShape 29 = .ok (.getfield 7, 3) := by decide +kernel
theorem dX10_isShape_32 : decode cX10_isShape 32 = .ok (.if_icmp .gt 7, 3) := by decide +kernel
theorem dX10_isShape_35 : decode cX10_isShape 35 = .ok (.iconst 1, 1) := by decide +kernel
theorem dX10_isShape_36 : decode cX10_isShape 36 = .ok (.goto 4, 3) := by decide +kernel
theorem dX10_isShape_39 : decode cX10_isShape 39 = .ok (.iconst 0, 1) := by decide +kernel
theorem dX10_isShape_40 : decode cX10_isShape 40 = .ok (.istore 4, 2) := by decide +kernel
theorem dX10_isShape_42 : decode cX10_isShape 42 = .ok (.iload_n 1, 1) := by decide +kernel
theorem dX10_isShape_43 : decode cX10_isShape 43 = .ok (.istore 5, 2) := by decide +kernel
theorem dX10_isShape_45 : decode cX10_isShape 45 = .ok (.iconst 0, 1) := by decide +kernel
theorem dX10_isShape_46 : decode cX10_isShape 46 = .ok (.istore 6, 2) := by decide +kernel
theorem dX10_isShape_48 : decode cX10_isShape 48 = .ok (.iconst 5, 1) := by decide +kernel
theorem dX10_isShape_49 : decode cX10_isShape 49 = .ok (.istore 7, 2) := by decide +kernel
theorem dX10_isShape_51 : decode cX10_isShape 51 = .ok (.iload 7, 2) := by decide +kernel
theorem dX10_isShape_53 : decode cX10_isShape 53 = .ok (.ifCond .lt 85, 3) := by decide +kernel
theorem dX10_isShape_56 : decode cX10_isShape 56 = .ok (.aload_n 2, 1) := by decide +kernel
theorem dX10_isShape_57 : decode cX10_isShape 57 = .ok (.iload 7, 2) := by decide +kernel
theorem dX10_isShape_59 : decode cX10_isShape 59 = .ok (.iconst 0, 1) := by decide +kernel
theorem dX10_isShape_60 : decode cX10_isShape 60 = .ok (.iastore, 1) := by decide +kernel
theorem dX10_isShape_61 : decode cX10_isShape 61 = .ok (.iload 7, 2) := by decide +kernel
theorem dX10_isShape_63 : decode cX10_isShape 63 = .ok (.iload_n 3, 1) := by decide +kernel
theorem dX10_isShape_64 : decode cX10_isShape 64 = .ok (.if_icmp .ge 68, 3) := by decide +kernel
theorem dX10_isShape_67 : decode cX10_isShape 67 = .ok (.iload 4, 2) := by decide +kernel
theorem dX10_isShape_69 : decode cX10_isShape 69 = .ok (.ifCond .eq 63, 3) := by decide +kernel
theorem dX10_isShape_72 : decode cX10_isShape 72 = .ok (.aload_n 2, 1) := by decide +kernel
theorem dX10_isShape_73 : decode cX10_isShape 73 = .ok (.iload 7, 2) := by decide +kernel
theorem dX10_isShape_75 : decode cX10_isShape 75 = .ok (.iload 5, 2) := by decide +kernel
theorem dX10_isShape_77 : decode cX10_isShape 77 = .ok (.bipush 10, 2) := by decide +kernel
theorem dX10_isShape_79 : decode cX10_isShape 79 = .ok (.irem, 1) := by decide +kernel
theorem dX10_isShape_80 : decode cX10_isShape 80 = .ok (.iastore, 1) := by decide +kernel
theorem dX10_isShape_81 : decode cX10_isShape 81 = .ok (.iload 5, 2) := by decide +kernel
theorem dX10_isShape_83 : decode cX10_isShape 83 = .ok (.bipush 10, 2) := by decide +kernel
theorem dX10_isShape_85 : decode cX10_isShape 85 = .ok (.idiv, 1) := by decide +kernel
theorem dX10_isShape_86 : decode cX10_isShape 86 = .ok (.istore 5, 2) := by decide +kernel
theorem dX10_isShape_88 : decode cX10_isShape 88 = .ok (.iload 6, 2) := by decide +kernel
theorem dX10_isShape_90 : decode cX10_isShape 90 = .ok (.aload_n 2, 1) := by decide +kernel
theorem dX10_isShape_91 : decode cX10_isShape 91 = .ok (.iload 7, 2) := by decide +kernel
theorem dX10_isShape_93 : decode cX10_isShape 93 = .ok (.iaload, 1) := by decide +kernel
theorem dX10_isShape_94 : decode cX10_isShape 94 = .ok (.iadd, 1) := by decide +kernel
theorem dX10_isShape_95 : decode cX10_isShape 95 = .ok (.istore 6, 2) := by decide +kernel
theorem dX10_isShape_97 : decode cX10_isShape 97 = .ok (.aload_n 2, 1) := by decide +kernel
theorem dX10_isShape_98 : decode cX10_isShape 98 = .ok (.iload 7, 2) := by decide +kernel
theorem dX10_isShape_100 : decode cX10_isShape 100 = .ok (.iaload, 1) := by decide +kernel
theorem dX10_isShape_101 : decode cX10_isShape 101 = .ok (.ifCond .le 28, 3) := by decide +kernel
theorem dX10_isShape_104 : decode cX10_isShape 104 = .ok (.iload 7, 2) := by decide +kernel
theorem dX10_isShape_106 : decode cX10_isShape 106 = .ok (.iload_n 3, 1) := by decide +kernel
theorem dX10_isShape_107 : decode cX10_isShape 107 = .ok (.iconst 1, 1) := by decide +kernel
theorem dX10_isShape_108 : decode cX10_isShape 108 = .ok (.isub, 1) := by decide +kernel
theorem dX10_isShape_109 : decode cX10_isShape 109 = .ok (.if_icmp .eq 16, 3) := by decide +kernel
theorem dX10_isShape_112 : decode cX10_isShape 112 = .ok (.aload_n 2, 1) := by decide +kernel
theorem dX10_isShape_113 : decode cX10_isShape 113 = .ok (.iload 7, 2) := by decide +kernel
theorem dX10_isShape_115 : decode cX10_isShape 115 = .ok (.iaload, 1) := by decide +kernel
theorem dX10_isShape_116 : decode cX10_isShape 116 = .ok (.aload_n 2, 1) := by decide +kernel
theorem dX10_isShape_117 : decode cX10_isShape 117 = .ok (.iload 7, 2) := by decide +kernel
theorem dX10_isShape_119 : decode cX10_isShape 119 = .ok (.iconst 1, 1) := by decide +kernel
theorem dX10_isShape_120 : decode cX10_isShape 120 = .ok (.iadd, 1) := by decide +kernel
theorem dX10_isShape_121 : decode cX10_isShape 121 = .ok (.iaload, 1) := by decide +kernel
theorem dX10_isShape_122 : decode cX10_isShape 122 = .ok (.if_icmp .lt 7, 3) := by decide +kernel
theorem dX10_isShape_125 : decode cX10_isShape 125 = .ok (.iconst 1, 1) := by decide +kernel
theorem dX10_isShape_126 : decode cX10_isShape 126 = .ok (.goto 4, 3) := by decide +kernel
theorem dX10_isShape_129 : decode cX10_isShape 129 = .ok (.iconst 0, 1) := by decide +kernel
theorem dX10_isShape_130 : decode cX10_isShape 130 = .ok (.istore 4, 2) := by decide +kernel
theorem dX10_isShape_132 : decode cX10_isShape 132 = .ok (.iinc 7 (-1), 3) := by decide +kernel
theorem dX10_isShape_135 : decode cX10_isShape 135 = .ok (.goto (-84), 3) := by decide +kernel
theorem dX10_isShape_138 : decode cX10_isShape 138 = .ok (.iload 4, 2) := by decide +kernel
theorem dX10_isShape_140 : decode cX10_isShape 140 = .ok (.ifCond .eq 14, 3) := by decide +kernel
theorem dX10_isShape_143 : decode cX10_isShape 143 = .ok (.iload 6, 2) := by decide +kernel
theorem dX10_isShape_145 : decode cX10_isShape 145 = .ok (.bipush 6, 2) := by decide +kernel
theorem dX10_isShape_147 : decode cX10_isShape 147 = .ok (.if_icmp .gt 7, 3) := by decide +kernel
theorem dX10_isShape_150 : decode cX10_isShape 150 = .ok (.iconst 1, 1) := by decide +kernel
theorem dX10_isShape_151 : decode cX10_isShape 151 = .ok (.goto 4, 3) := by decide +kernel
theorem dX10_isShape_154 : decode cX10_isShape 154 = .ok (.iconst 0, 1) := by decide +kernel
theorem dX10_isShape_155 : decode cX10_isShape 155 = .ok (.ireturn, 1) := by decide +kernel
theorem dX10_sum_0 : decode cX10_sum 0 = .ok (.iconst 0, 1) := by decide +kernel
theorem dX10_sum_1 : decode cX10_sum 1 = .ok (.istore_n 1, 1) := by decide +kernel
theorem dX10_sum_2 : decode cX10_sum 2 = .ok (.iconst 0, 1) := by decide +kernel
theorem dX10_sum_3 : decode cX10_sum 3 = .ok (.istore_n 2, 1) := by decide +kernel
theorem dX10_sum_4 : decode cX10_sum 4 = .ok (.iload_n 2, 1) := by decide +kernel
theorem dX10_sum_5 : decode cX10_sum 5 = .ok (.bipush 6, 2) := by decide +kernel
theorem dX10_sum_7 : decode cX10_sum 7 = .ok (.if_icmp .ge 15, 3) := by decide +kernel
theorem dX10_sum_10 : decode cX10_sum 10 = .ok (.iload_n 1, 1) := by decide +kernel
theorem dX10_sum_11 : decode cX10_sum 11 = .ok (.aload_n 0, 1) := by decide +kernel
theorem dX10_sum_12 : decode cX10_sum 12 = .ok (.iload_n 2, 1) := by decide +kernel
theorem dX10_sum_13 : decode cX10_sum 13 = .ok (.iaload, 1) := by decide +kernel
theorem dX10_sum_14 : decode cX10_sum 14 = .ok (.iadd, 1) := by decide +kernel
theorem dX10_sum_15 : decode cX10_sum 15 = .ok (.istore_n 1, 1) := by decide +kernel
theorem dX10_sum_16 : decode cX10_sum 16 = .ok (.iinc 2 1, 3) := by decide +kernel
theorem dX10_sum_19 : decode cX10_sum 19 = .ok (.goto (-15), 3) := by decide +kernel
theorem dX10_sum_22 : decode cX10_sum 22 = .ok (.iload_n 1, 1) := by decide +kernel
theorem dX10_sum_23 : decode cX10_sum 23 = .ok (.ireturn, 1) := by decide +kernel
theorem dX10_isHighest_0 : decode cX10_isHighest 0 = .ok (.iconst 1, 1) := by decide +kernel
theorem dX10_isHighest_1 : decode cX10_isHighest 1 = .ok (.istore_n 1, 1) := by decide +kernel
theorem dX10_isHighest_2 : decode cX10_isHighest 2 = .ok (.iconst 1, 1) := by decide +kernel
theorem dX10_isHighest_3 : decode cX10_isHighest 3 = .ok (.istore_n 2, 1) := by decide +kernel
theorem dX10_isHighest_4 : decode cX10_isHighest 4 = .ok (.iload_n 2, 1) := by decide +kernel
theorem dX10_isHighest_5 : decode cX10_isHighest 5 = .ok (.aload_n 0, 1) := by decide +kernel
theorem dX10_isHighest_6 : decode cX10_isHighest 6 = .ok (.getfield 7, 3) := by decide +kernel
theorem dX10_isHighest_9 : decode cX10_isHighest 9 = .ok (.if_icmp .ge 31, 3) := by decide +kernel
theorem dX10_isHighest_12 : decode cX10_isHighest 12 = .ok (.aload_n 0, 1) := by decide +kernel
theorem dX10_isHighest_13 : decode cX10_isHighest 13 = .ok (.iload_n 2, 1) := by decide +kernel
theorem dX10_isHighest_14 : decode cX10_isHighest 14 = .ok (.invokevirtual 170, 3) := by decide +kernel
theorem dX10_isHighest_17 : decode cX10_isHighest 17 = .ok (.iload_n 1, 1) := by decide +kernel
theorem dX10_isHighest_18 : decode cX10_isHighest 18 = .ok (.ifCond .eq 14, 3) := by decide +kernel
theorem dX10_isHighest_21 : decode cX10_isHighest 21 = .ok (.aload_n 0, 1) := by decide +kernel
theorem dX10_isHighest_22 : decode cX10_isHighest 22 = .ok (.getfield 164, 3) := by decide +kernel
theorem dX10_isHighest_25 : decode cX10_isHighest 25 = .ok (.ifCond .ne 7, 3) := by decide +kernel
theorem dX10_isHighest_28 : decode cX10_isHighest 28 = .ok (.iconst 1, 1) := by decide +kernel
theorem dX10_isHighest_29 : decode cX10_isHighest 29 = .ok (.goto 4, 3) := by decide +kernel
theorem dX10_isHighest_32 : decode cX10_isHighest 32 = .ok (.iconst 0, 1) := by decide +kernel
theorem dX10_isHighest_33 : decode cX10_isHighest 33 = .ok (.istore_n 1, 1) := by decide +kernel
theorem dX10_isHighest_34 : decode cX10_isHighest 34 = .ok (.iinc 2 1, 3) := by decide +kernel
theorem dX10_isHighest_37 : decode cX10_isHighest 37 = .ok (.goto (-33), 3) := by decide +kernel
theorem dX10_isHighest_40 : decode cX10_isHighest 40 = .ok (.iload_n 1, 1) := by decide +kernel
theorem dX10_isHighest_41 : decode cX10_isHighest 41 = .ok (.ireturn, 1) := by decide +kernel
theorem dX10_isFilled_0 : decode cX10_isFilled 0 = .ok (.aload_n 0, 1) := by decide +kernel
theorem dX10_isFilled_1 : decode cX10_isFilled 1 = .ok (.invokevirtual 143, 3) := by decide +kernel
theorem dX10_isFilled_4 : decode cX10_isFilled 4 = .ok (.iconst 1, 1) := by decide +kernel
theorem dX10_isFilled_5 : decode cX10_isFilled 5 = .ok (.istore_n 2, 1) := by decide +kernel
theorem dX10_isFilled_6 : decode cX10_isFilled 6 = .ok (.iload_n 1, 1) := by decide +kernel
theorem dX10_isFilled_7 : decode cX10_isFilled 7 = .ok (.iconst 1, 1) := by decide +kernel
theorem dX10_isFilled_8 : decode cX10_isFilled 8 = .ok (.if_icmp .ne 62, 3) := by decide +kernel
theorem dX10_isFilled_11 : decode cX10_isFilled 11 = .ok (.iconst 5, 1) := by decide +kernel
theorem dX10_isFilled_12 : decode cX10_isFilled 12 = .ok (.istore_n 3, 1) := by decide +kernel
theorem dX10_isFilled_13 : decode cX10_isFilled 13 = .ok (.iload_n 3, 1) := by decide +kernel
theorem dX10_isFilled_14 : decode cX10_isFilled 14 = .ok (.ifCond .lt 51, 3) := by decide +kernel
theorem dX10_isFilled_17 : decode cX10_isFilled 17 = .ok (.iconst 0, 1) := by decide +kernel
theorem dX10_isFilled_18 : decode cX10_isFilled 18 = .ok (.istore 4, 2) := by decide +kernel
theorem dX10_isFilled_20 : decode cX10_isFilled 20 = .ok (.iload 4, 2) := by decide +kernel
theorem dX10_isFilled_22 : decode cX10_isFilled 22 = .ok (.aload_n 0, 1) := by decide +kernel
theorem dX10_isFilled_23 : decode cX10_isFilled 23 = .ok (.getfield 80, 3) := by decide +kernel
theorem dX10_isFilled_26 : decode cX10_isFilled 26 = .ok (.iload_n 3, 1) := by decide +kernel
theorem dX10_isFilled_27 : decode cX10_isFilled 27 = .ok (.iaload, 1) := by decide +kernel
theorem dX10_isFilled_28 : decode cX10_isFilled 28 = .ok (.if_icmp .ge 31, 3) := by decide +kernel
theorem dX10_isFilled_31 : decode cX10_isFilled 31 = .ok (.aload_n 0, 1) := by decide +kernel
theorem dX10_isFilled_32 : decode cX10_isFilled 32 = .ok (.getfield 47, 3) := by decide +kernel
theorem dX10_isFilled_35 : decode cX10_isFilled 35 = .ok (.aload_n 0, 1) := by decide +kernel
theorem dX10_isFilled_36 : decode cX10_isFilled 36 = .ok (.getfield 111, 3) := by decide +kernel
theorem dX10_isFilled_39 : decode cX10_isFilled 39 = .ok (.iload_n 3, 1) := by decide +kernel
theorem dX10_isFilled_40 : decode cX10_isFilled 40 = .ok (.iconst 1, 1) := by decide +kernel
theorem dX10_isFilled_41 : decode cX10_isFilled 41 = .ok (.iadd, 1) := by decide +kernel
theorem dX10_isFilled_42 : decode cX10_isFilled 42 = .ok (.iastore, 1) := by decide +kernel
theorem dX10_isFilled_43 : decode cX10_isFilled 43 = .ok (.aload_n 0, 1) := by decide +kernel
theorem dX10_isFilled_44 : decode cX10_isFilled 44 = .ok (.dup, 1) := by decide +kernel
theorem dX10_isFilled_45 : decode cX10_isFilled 45 = .ok (.getfield 111, 3) := by decide +kernel
theorem dX10_isFilled_48 : decode cX10_isFilled 48 = .ok (.iconst 1, 1) := by decide +kernel
theorem dX10_isFilled_49 : decode cX10_isFilled 49 = .ok (.iadd, 1) := by decide +kernel
theorem dX10_isFilled_50 : decode cX10_isFilled 50 = .ok (.putfield 111, 3) := by decide +kernel
theorem dX10_isFilled_53 : decode cX10_isFilled 53 = .ok (.iinc 4 1, 3) := by decide +kernel
theorem dX10_isFilled_56 : decode cX10_isFilled 56 = .ok (.goto (-36), 3) := by decide +kernel
theorem dX10_isFilled_59 : decode cX10_isFilled 59 = .ok (.iinc 3 (-1), 3) := by decide +kernel
theorem dX10_isFilled_62 : decode cX10_isFilled 62 = .ok (.goto (-49), 3) := by decide +kernel
theorem dX10_isFilled_65 : decode cX10_isFilled 65 = .ok (.aload_n 0, 1) := by decide +kernel
theorem dX10_isFilled_66 : decode cX10_isFilled 66 = .ok (.invokevirtual 252, 3) := by decide +kernel
theorem dX10_isFilled_69 : decode cX10_isFilled 69 = .ok (.istore_n 2, 1) := by decide +kernel
theorem dX10_isFilled_70 : decode cX10_isFilled 70 = .ok (.lconst 1, 1) := by decide +kernel
theorem dX10_isFilled_71 : decode cX10_isFilled 71 = .ok (.lstore_n 3, 1) := by decide +kernel
theorem dX10_isFilled_72 : decode cX10_isFilled 72 = .ok (.iconst 1, 1) := by decide +kernel
theorem dX10_isFilled_73 : decode cX10_isFilled 73 = .ok (.istore 5, 2) := by decide +kernel
theorem dX10_isFilled_75 : decode cX10_isFilled 75 = .ok (.iload 5, 2) := by decide +kernel
theorem dX10_isFilled_77 : decode cX10_isFilled 77 = .ok (.aload_n 0, 1) := by decide +kernel
theorem dX10_isFilled_78 : decode cX10_isFilled 78 = .ok (.getfield 7, 3) := by decide +kernel
theorem dX10_isFilled_81 : decode cX10_isFilled 81 = .ok (.if_icmp .gt 106, 3) := by decide +kernel
theorem dX10_isFilled_84 : decode cX10_isFilled 84 = .ok (.iconst 0, 1) := by decide +kernel
theorem dX10_isFilled_85 : decode cX10_isFilled 85 = .ok (.istore 6, 2) := by decide +kernel
theorem dX10_isFilled_87 : decode cX10_isFilled 87 = .ok (.iconst 0, 1) := by decide +kernel
theorem dX10_isFilled_88 : decode cX10_isFilled 88 = .ok (.istore 7, 2) := by decide +kernel
theorem dX10_isFilled_90 : decode cX10_isFilled 90 = .ok (.iload 7, 2) := by decide +kernel
theorem dX10_isFilled_92 : decode cX10_isFilled 92 = .ok (.aload_n 0, 1) := by decide +kernel
theorem dX10_isFilled_93 : decode cX10_isFilled 93 = .ok (.getfield 111, 3) := by decide +kernel
theorem dX10_isFilled_96 : decode cX10_isFilled 96 = .ok (.if_icmp .ge 58, 3) := by decide +kernel
theorem dX10_isFilled_99 : decode cX10_isFilled 99 = .ok (.iload 6, 2) := by decide +kernel
theorem dX10_isFilled_101 : decode cX10_isFilled 101 = .ok (.aload_n 0, 1) := by decide +kernel
theorem dX10_isFilled_102 : decode cX10_isFilled 102 = .ok (.getfield 47, 3) := by decide +kernel
theorem dX10_isFilled_105 : decode cX10_isFilled 105 = .ok (.iload 7, 2) := by decide +kernel
theorem dX10_isFilled_107 : decode cX10_isFilled 107 = .ok (.iaload, 1) := by decide +kernel
theorem dX10_isFilled_108 : decode cX10_isFilled 108 = .ok (.iload 5, 2) := by decide +kernel
theorem dX10_isFilled_110 : decode cX10_isFilled 110 = .ok (.if_icmp .ne 7, 3) := by decide +kernel
theorem dX10_isFilled_113 : decode cX10_isFilled 113 = .ok (.iconst 1, 1) := by decide +kernel
theorem dX10_isFilled_114 : decode cX10_isFilled 114 = .ok (.goto 4, 3) := by decide +kernel
theorem dX10_isFilled_117 : decode cX10_isFilled 117 = .ok (.iconst 0, 1) := by decide +kernel
theorem dX10_isFilled_118 : decode cX10_isFilled 118 = .ok (.iadd, 1) := by decide +kernel
theorem dX10_isFilled_119 : decode cX10_isFilled 119 = .ok (.istore 6, 2) := by decide +kernel
theorem dX10_isFilled_121 : decode cX10_isFilled 121 = .ok (.lload_n 3, 1) := by decide +kernel
theorem dX10_isFilled_122 : decode cX10_isFilled 122 = .ok (.aload_n 0, 1) := by decide +kernel
theorem dX10_isFilled_123 : decode cX10_isFilled 123 = .ok (.getfield 47, 3) := by decide +kernel
theorem dX10_isFilled_126 : decode cX10_isFilled 126 = .ok (.iload 7, 2) := by decide +kernel
theorem dX10_isFilled_128 : decode cX10_isFilled 128 = .ok (.iaload, 1) := by decide +kernel
theorem dX10_isFilled_129 : decode cX10_isFilled 129 = .ok (.iload 5, 2) := by decide +kernel
theorem dX10_isFilled_131 : decode cX10_isFilled 131 = .ok (.if_icmp .ne 14, 3) := by decide +kernel
theorem dX10_isFilled_134 : decode cX10_isFilled 134 = .ok (.aload_n 0, 1) := by decide +kernel
theorem dX10_isFilled_135 : decode cX10_isFilled 135 = .ok (.getfield 41, 3) := by decide +kernel
theorem dX10_isFilled_138 : decode cX10_isFilled 138 = .ok (.iload 5, 2) := by decide +kernel
theorem dX10_isFilled_140 : decode cX10_isFilled 140 = .ok (.iaload, 1) := by decide +kernel
theorem dX10_isFilled_141 : decode cX10_isFilled 141 = .ok (.i2l, 1) := by decide +kernel
theorem dX10_isFilled_142 : decode cX10_isFilled 142 = .ok (.goto 4, 3) := by decide +kernel
theorem dX10_isFilled_145 : decode cX10_isFilled 145 = .ok (.lconst 1, 1) := by decide +kernel
theorem dX10_isFilled_146 : decode cX10_isFilled 146 = .ok (.lmul, 1) := by decide +kernel
theorem dX10_isFilled_147 : decode cX10_isFilled 147 = .ok (.lstore_n 3, 1) := by decide +kernel
theorem dX10_isFilled_148 : decode cX10_isFilled 148 = .ok (.iinc 7 1, 3) := by decide +kernel
theorem dX10_isFilled_151 : decode cX10_isFilled 151 = .ok (.goto (-61), 3) := by decide +kernel
theorem dX10_isFilled_154 : decode cX10_isFilled 154 = .ok (.iload_n 2, 1) := by decide +kernel
theorem dX10_isFilled_155 : decode cX10_isFilled 155 = .ok (.ifCond .eq 24, 3) := by decide +kernel
theorem dX10_isFilled_158 : decode cX10_isFilled 158 = .ok (.iload_n 1, 1) := by decide +kernel
theorem dX10_isFilled_159 : decode cX10_isFilled 159 = .ok (.iconst 2, 1) := by decide +kernel
theorem dX10_isFilled_160 : decode cX10_isFilled 160 = .ok (.if_icmp .eq 15, 3) := by decide +kernel
theorem dX10_isFilled_163 : decode cX10_isFilled 163 = .ok (.iload 6, 2) := by decide +kernel
theorem dX10_isFilled_165 : decode cX10_isFilled 165 = .ok (.aload_n 0, 1) := by decide +kernel
theorem dX10_isFilled_166 : decode cX10_isFilled 166 = .ok (.getfield 86, 3) := by decide +kernel
theorem dX10_isFilled_169 : decode cX10_isFilled 169 = .ok (.iload 5, 2) := by decide +kernel
theorem dX10_isFilled_171 : decode cX10_isFilled 171 = .ok (.iaload, 1) := by decide +kernel
theorem dX10_isFilled_172 : decode cX10_isFilled 172 = .ok (.if_icmp .ne 7, 3) := by decide +kernel
theorem dX10_isFilled_175 : decode cX10_isFilled 175 = .ok (.iconst 1, 1) := by decide +kernel
theorem dX10_isFilled_176 : decode cX10_isFilled 176 = .ok (.goto 4, 3) := by decide +kernel
theorem dX10_isFilled_179 : decode cX10_isFilled 179 = .ok (.iconst 0, 1) := by decide +kernel
theorem dX10_isFilled_180 : decode cX10_isFilled 180 = .ok (.istore_n 2, 1) := by decide +kernel
theorem dX10_isFilled_181 : decode cX10_isFilled 181 = .ok (.iinc 5 1, 3) := by decide +kernel
theorem dX10_isFilled_184 : decode cX10_isFilled 184 = .ok (.goto (-109), 3) := by decide +kernel
theorem dX10_isFilled_187 : decode cX10_isFilled 187 = .ok (.aload_n 0, 1) := by decide +kernel
theorem dX10_isFilled_188 : decode cX10_isFilled 188 = .ok (.dup, 1) := by decide +kernel
theorem dX10_isFilled_189 : decode cX10_isFilled 189 = .ok (.getfield 256, 3) := by decide +kernel
theorem dX10_isFilled_192 : decode cX10_isFilled 192 = .ok (.iload_n 2, 1) := by decide +kernel
theorem dX10_isFilled_193 : decode cX10_isFilled 193 = .ok (.ifCond .eq 7, 3) := by decide +kernel
theorem dX10_isFilled_196 : decode cX10_isFilled 196 = .ok (.iconst 1, 1) := by decide +kernel
theorem dX10_isFilled_197 : decode cX10_isFilled 197 = .ok (.goto 4, 3) := by decide +kernel
theorem dX10_isFilled_200 : decode cX10_isFilled 200 = .ok (.iconst 0, 1) := by decide +kernel
theorem dX10_isFilled_201 : decode cX10_isFilled 201 = .ok (.iadd, 1) := by decide +kernel
theorem dX10_isFilled_202 : decode cX10_isFilled 202 = .ok (.putfield 256, 3) := by decide +kernel
theorem dX10_isFilled_205 : decode cX10_isFilled 205 = .ok (.aload_n 0, 1) := by decide +kernel
theorem dX10_isFilled_206 : decode cX10_isFilled 206 = .ok (.dup, 1) := by decide +kernel
theorem dX10_isFilled_207 : decode cX10_isFilled 207 = .ok (.getfield 259, 3) := by decide +kernel
theorem dX10_isFilled_210 : decode cX10_isFilled 210 = .ok (.lload_n 3, 1) := by decide +kernel
theorem dX10_isFilled_211 : decode cX10_isFilled 211 = .ok (.ladd, 1) := by decide +kernel
theorem dX10_isFilled_212 : decode cX10_isFilled 212 = .ok (.putfield 259, 3) := by decide +kernel
theorem dX10_isFilled_215 : decode cX10_isFilled 215 = .ok (.return_, 1) := by decide +kernel
theorem dX10_fills_0 : decode cX10_fills 0 = .ok (.iload_n 2, 1) := by decide +kernel
theorem dX10_fills_1 : decode cX10_fills 1 = .ok (.bipush 6, 2) := by decide +kernel
theorem dX10_fills_3 : decode cX10_fills 3 = .ok (.if_icmp .eq 12, 3) := by decide +kernel
theorem dX10_fills_6 : decode cX10_fills 6 = .ok (.aload_n 0, 1) := by decide +kernel
theorem dX10_fills_7 : decode cX10_fills 7 = .ok (.getfield 89, 3) := by decide +kernel
theorem dX10_fills_10 : decode cX10_fills 10 = .ok (.iload_n 2, 1) := by decide +kernel
theorem dX10_fills_11 : decode cX10_fills 11 = .ok (.iaload, 1) := by decide +kernel
theorem dX10_fills_12 : decode cX10_fills 12 = .ok (.ifCond .ne 11, 3) := by decide +kernel
theorem dX10_fills_15 : decode cX10_fills 15 = .ok (.aload_n 0, 1) := by decide +kernel
theorem dX10_fills_16 : decode cX10_fills 16 = .ok (.iload_n 1, 1) := by decide +kernel
theorem dX10_fills_17 : decode cX10_fills 17 = .ok (.invokevirtual 263, 3) := by decide +kernel
theorem dX10_fills_20 : decode cX10_fills 20 = .ok (.goto 92, 3) := by decide +kernel
theorem dX10_fills_23 : decode cX10_fills 23 = .ok (.iload_n 3, 1) := by decide +kernel
theorem dX10_fills_24 : decode cX10_fills 24 = .ok (.aload_n 0, 1) := by decide +kernel
theorem dX10_fills_25 : decode cX10_fills 25 = .ok (.getfield 89, 3) := by decide +kernel
theorem dX10_fills_28 : decode cX10_fills 28 = .ok (.iload_n 2, 1) := by decide +kernel
theorem dX10_fills_29 : decode cX10_fills 29 = .ok (.iaload, 1) := by decide +kernel
theorem dX10_fills_30 : decode cX10_fills 30 = .ok (.if_icmp .ne 15, 3) := by decide +kernel
theorem dX10_fills_33 : decode cX10_fills 33 = .ok (.aload_n 0, 1) := by decide +kernel
theorem dX10_fills_34 : decode cX10_fills 34 = .ok (.iload_n 1, 1) := by decide +kernel
theorem dX10_fills_35 : decode cX10_fills 35 = .ok (.iload_n 2, 1) := by decide +kernel
theorem dX10_fills_36 : decode cX10_fills 36 = .ok (.iconst 1, 1) := by decide +kernel
theorem dX10_fills_37 : decode cX10_fills 37 = .ok (.iadd, 1) := by decide +kernel
theorem dX10_fills_38 : decode cX10_fills 38 = .ok (.iconst 0, 1) := by decide +kernel
theorem dX10_fills_39 : decode cX10_fills 39 = .ok (.invokevirtual 266, 3) := by decide +kernel
theorem dX10_fills_42 : decode cX10_fills 42 = .ok (.goto 70, 3) := by decide +kernel
theorem dX10_fills_45 : decode cX10_fills 45 = .ok (.iconst 1, 1) := by decide +kernel
theorem dX10_fills_46 : decode cX10_fills 46 = .ok (.istore 4, 2) := by decide +kernel
theorem dX10_fills_48 : decode cX10_fills 48 = .ok (.iload 4, 2) := by decide +kernel
theorem dX10_fills_50 : decode cX10_fills 50 = .ok (.aload_n 0, 1) := by decide +kernel
theorem dX10_fills_51 : decode cX10_fills 51 = .ok (.getfield 7, 3) := by decide +kernel
theorem dX10_fills_54 : decode cX10_fills 54 = .ok (.if_icmp .gt 58, 3) := by decide +kernel
theorem dX10_fills_57 : decode cX10_fills 57 = .ok (.aload_n 0, 1) := by decide +kernel
theorem dX10_fills_58 : decode cX10_fills 58 = .ok (.iload 4, 2) := by decide +kernel
theorem dX10_fills_60 : decode cX10_fills 60 = .ok (.iload_n 2, 1) := by decide +kernel
theorem dX10_fills_61 : decode cX10_fills 61 = .ok (.iload_n 3, 1) := by decide +kernel
theorem dX10_fills_62 : decode cX10_fills 62 = .ok (.invokevirtual 137, 3) := by decide +kernel
theorem dX10_fills_65 : decode cX10_fills 65 = .ok (.ifCond .eq 41, 3) := by decide +kernel
theorem dX10_fills_68 : decode cX10_fills 68 = .ok (.aload_n 0, 1) := by decide +kernel
theorem dX10_fills_69 : decode cX10_fills 69 = .ok (.getfield 59, 3) := by decide +kernel
theorem dX10_fills_72 : decode cX10_fills 72 = .ok (.bipush 6, 2) := by decide +kernel
theorem dX10_fills_74 : decode cX10_fills 74 = .ok (.iload_n 2, 1) := by decide +kernel
theorem dX10_fills_75 : decode cX10_fills 75 = .ok (.imul, 1) := by decide +kernel
theorem dX10_fills_76 : decode cX10_fills 76 = .ok (.iload_n 3, 1) := by decide +kernel
theorem dX10_fills_77 : decode cX10_fills 77 = .ok (.iadd, 1) := by decide +kernel
theorem dX10_fills_78 : decode cX10_fills 78 = .ok (.iload 4, 2) := by decide +kernel
theorem dX10_fills_80 : decode cX10_fills 80 = .ok (.iastore, 1) := by decide +kernel
theorem dX10_fills_81 : decode cX10_fills 81 = .ok (.aload_n 0, 1) := by decide +kernel
theorem dX10_fills_82 : decode cX10_fills 82 = .ok (.getfield 50, 3) := by decide +kernel
theorem dX10_fills_85 : decode cX10_fills 85 = .ok (.iload_n 2, 1) := by decide +kernel
theorem dX10_fills_86 : decode cX10_fills 86 = .ok (.iload_n 3, 1) := by decide +kernel
theorem dX10_fills_87 : decode cX10_fills 87 = .ok (.iconst 1, 1) := by decide +kernel
theorem dX10_fills_88 : decode cX10_fills 88 = .ok (.iadd, 1) := by decide +kernel
theorem dX10_fills_89 : decode cX10_fills 89 = .ok (.iastore, 1) := by decide +kernel
theorem dX10_fills_90 : decode cX10_fills 90 = .ok (.aload_n 0, 1) := by decide +kernel
theorem dX10_fills_91 : decode cX10_fills 91 = .ok (.iload_n 1, 1) := by decide +kernel
theorem dX10_fills_92 : decode cX10_fills 92 = .ok (.iload_n 2, 1) := by decide +kernel
theorem dX10_fills_93 : decode cX10_fills 93 = .ok (.iload_n 3, 1) := by decide +kernel
theorem dX10_fills_94 : decode cX10_fills 94 = .ok (.iconst 1, 1) := by decide +kernel
theorem dX10_fills_95 : decode cX10_fills 95 = .ok (.iadd, 1) := by decide +kernel
theorem dX10_fills_96 : decode cX10_fills 96 = .ok (.invokevirtual 266, 3) := by decide +kernel
theorem dX10_fills_99 : decode cX10_fills 99 = .ok (.aload_n 0, 1) := by decide +kernel
theorem dX10_fills_100 : decode cX10_fills 100 = .ok (.getfield 50, 3) := by decide +kernel
theorem dX10_fills_103 : decode cX10_fills 103 = .ok (.iload_n 2, 1) := by decide +kernel
theorem dX10_fills_104 : decode cX10_fills 104 = .ok (.iload_n 3, 1) := by decide +kernel
theorem dX10_fills_105 : decode cX10_fills 105 = .ok (.iastore, 1) := by decide +kernel
theorem dX10_fills_106 : decode cX10_fills 106 = .ok (.iinc 4 1, 3) := by decide +kernel
theorem dX10_fills_109 : decode cX10_fills 109 = .ok (.goto (-61), 3) := by decide +kernel
theorem dX10_fills_112 : decode cX10_fills 112 = .ok (.return_, 1) := by decide +kernel
theorem dX10_fillsAll_0 : decode cX10_fillsAll 0 = .ok (.aload_n 0, 1) := by decide +kernel
theorem dX10_fillsAll_1 : decode cX10_fillsAll 1 = .ok (.iconst 0, 1) := by decide +kernel
theorem dX10_fillsAll_2 : decode cX10_fillsAll 2 = .ok (.putfield 256, 3) := by decide +kernel
theorem dX10_fillsAll_5 : decode cX10_fillsAll 5 = .ok (.aload_n 0, 1) := by decide +kernel
theorem dX10_fillsAll_6 : decode cX10_fillsAll 6 = .ok (.lconst 0, 1) := by decide +kernel
theorem dX10_fillsAll_7 : decode cX10_fillsAll 7 = .ok (.putfield 259, 3) := by decide +kernel
theorem dX10_fillsAll_10 : decode cX10_fillsAll 10 = .ok (.iconst 0, 1) := by decide +kernel
theorem dX10_fillsAll_11 : decode cX10_fillsAll 11 = .ok (.istore_n 2, 1) := by decide +kernel
theorem dX10_fillsAll_12 : decode cX10_fillsAll 12 = .ok (.iload_n 2, 1) := by decide +kernel
theorem dX10_fillsAll_13 : decode cX10_fillsAll 13 = .ok (.bipush 6, 2) := by decide +kernel
theorem dX10_fillsAll_15 : decode cX10_fillsAll 15 = .ok (.if_icmp .ge 16, 3) := by decide +kernel
theorem dX10_fillsAll_18 : decode cX10_fillsAll 18 = .ok (.aload_n 0, 1) := by decide +kernel
theorem dX10_fillsAll_19 : decode cX10_fillsAll 19 = .ok (.getfield 50, 3) := by decide +kernel
theorem dX10_fillsAll_22 : decode cX10_fillsAll 22 = .ok (.iload_n 2, 1) := by decide +kernel
theorem dX10_fillsAll_23 : decode cX10_fillsAll 23 = .ok (.iconst 0, 1) := by decide +kernel
theorem dX10_fillsAll_24 : decode cX10_fillsAll 24 = .ok (.iastore, 1) := by decide +kernel
theorem dX10_fillsAll_25 : decode cX10_fillsAll 25 = .ok (.iinc 2 1, 3) := by decide +kernel
theorem dX10_fillsAll_28 : decode cX10_fillsAll 28 = .ok (.goto (-16), 3) := by decide +kernel
theorem dX10_fillsAll_31 : decode cX10_fillsAll 31 = .ok (.aload_n 0, 1) := by decide +kernel
theorem dX10_fillsAll_32 : decode cX10_fillsAll 32 = .ok (.iload_n 1, 1) := by decide +kernel
theorem dX10_fillsAll_33 : decode cX10_fillsAll 33 = .ok (.iconst 0, 1) := by decide +kernel
theorem dX10_fillsAll_34 : decode cX10_fillsAll 34 = .ok (.iconst 0, 1) := by decide +kernel
theorem dX10_fillsAll_35 : decode cX10_fillsAll 35 = .ok (.invokevirtual 266, 3) := by decide +kernel
theorem dX10_fillsAll_38 : decode cX10_fillsAll 38 = .ok (.return_, 1) := by decide +kernel
theorem dX10_count_0 : decode cX10_count 0 = .ok (.aload_n 0, 1) := by decide +kernel
theorem dX10_count_1 : decode cX10_count 1 = .ok (.iload_n 1, 1) := by decide +kernel
theorem dX10_count_2 : decode cX10_count 2 = .ok (.aload_n 0, 1) := by decide +kernel
theorem dX10_count_3 : decode cX10_count 3 = .ok (.getfield 89, 3) := by decide +kernel
theorem dX10_count_6 : decode cX10_count 6 = .ok (.invokevirtual 270, 3) := by decide +kernel
theorem dX10_count_9 : decode cX10_count 9 = .ok (.ifCond .eq 7, 3) := by decide +kernel
theorem dX10_count_12 : decode cX10_count 12 = .ok (.iload_n 2, 1) := by decide +kernel
theorem dX10_count_13 : decode cX10_count 13 = .ok (.ifCond .ge 5, 3) := by decide +kernel
theorem dX10_count_16 : decode cX10_count 16 = .ok (.iconst (-1), 1) := by decide +kernel
theorem dX10_count_17 : decode cX10_count 17 = .ok (.ireturn, 1) := by decide +kernel
theorem dX10_count_18 : decode cX10_count 18 = .ok (.iload_n 2, 1) := by decide +kernel
theorem dX10_count_19 : decode cX10_count 19 = .ok (.istore_n 3, 1) := by decide +kernel
theorem dX10_count_20 : decode cX10_count 20 = .ok (.iconst 0, 1) := by decide +kernel
theorem dX10_count_21 : decode cX10_count 21 = .ok (.istore 4, 2) := by decide +kernel
theorem dX10_count_23 : decode cX10_count 23 = .ok (.aload_n 0, 1) := by decide +kernel
theorem dX10_count_24 : decode cX10_count 24 = .ok (.getfield 7, 3) := by decide +kernel
theorem dX10_count_27 : decode cX10_count 27 = .ok (.istore 5, 2) := by decide +kernel
theorem dX10_count_29 : decode cX10_count 29 = .ok (.iload 5, 2) := by decide +kernel
theorem dX10_count_31 : decode cX10_count 31 = .ok (.ifCond .le 37, 3) := by decide +kernel
theorem dX10_count_34 : decode cX10_count 34 = .ok (.aload_n 0, 1) := by decide +kernel
theorem dX10_count_35 : decode cX10_count 35 = .ok (.getfield 86, 3) := by decide +kernel
theorem dX10_count_38 : decode cX10_count 38 = .ok (.iload 5, 2) := by decide +kernel
theorem dX10_count_40 : decode cX10_count 40 = .ok (.iload_n 3, 1) := by decide +kernel
theorem dX10_count_41 : decode cX10_count 41 = .ok (.bipush 10, 2) := by decide +kernel
theorem dX10_count_43 : decode cX10_count 43 = .ok (.irem, 1) := by decide +kernel
theorem dX10_count_44 : decode cX10_count 44 = .ok (.iastore, 1) := by decide +kernel
theorem dX10_count_45 : decode cX10_count 45 = .ok (.iload 4, 2) := by decide +kernel
theorem dX10_count_47 : decode cX10_count 47 = .ok (.aload_n 0, 1) := by decide +kernel
theorem dX10_count_48 : decode cX10_count 48 = .ok (.getfield 86, 3) := by decide +kernel
theorem dX10_count_51 : decode cX10_count 51 = .ok (.iload 5, 2) := by decide +kernel
theorem dX10_count_53 : decode cX10_count 53 = .ok (.iaload, 1) := by decide +kernel
theorem dX10_count_54 : decode cX10_count 54 = .ok (.iadd, 1) := by decide +kernel
theorem dX10_count_55 : decode cX10_count 55 = .ok (.istore 4, 2) := by decide +kernel
theorem dX10_count_57 : decode cX10_count 57 = .ok (.iload_n 3, 1) := by decide +kernel
theorem dX10_count_58 : decode cX10_count 58 = .ok (.bipush 10, 2) := by decide +kernel
theorem dX10_count_60 : decode cX10_count 60 = .ok (.idiv, 1) := by decide +kernel
theorem dX10_count_61 : decode cX10_count 61 = .ok (.istore_n 3, 1) := by decide +kernel
theorem dX10_count_62 : decode cX10_count 62 = .ok (.iinc 5 (-1), 3) := by decide +kernel
theorem dX10_count_65 : decode cX10_count 65 = .ok (.goto (-36), 3) := by decide +kernel
theorem dX10_count_68 : decode cX10_count 68 = .ok (.iload_n 3, 1) := by decide +kernel
theorem dX10_count_69 : decode cX10_count 69 = .ok (.ifCond .gt 10, 3) := by decide +kernel
theorem dX10_count_72 : decode cX10_count 72 = .ok (.iload 4, 2) := by decide +kernel
theorem dX10_count_74 : decode cX10_count 74 = .ok (.bipush 6, 2) := by decide +kernel
theorem dX10_count_76 : decode cX10_count 76 = .ok (.if_icmp .le 5, 3) := by decide +kernel
theorem dX10_count_79 : decode cX10_count 79 = .ok (.iconst (-1), 1) := by decide +kernel
theorem dX10_count_80 : decode cX10_count 80 = .ok (.ireturn, 1) := by decide +kernel
theorem dX10_count_81 : decode cX10_count 81 = .ok (.aload_n 0, 1) := by decide +kernel
theorem dX10_count_82 : decode cX10_count 82 = .ok (.iconst 0, 1) := by decide +kernel
theorem dX10_count_83 : decode cX10_count 83 = .ok (.invokevirtual 274, 3) := by decide +kernel
theorem dX10_count_86 : decode cX10_count 86 = .ok (.aload_n 0, 1) := by decide +kernel
theorem dX10_count_87 : decode cX10_count 87 = .ok (.getfield 256, 3) := by decide +kernel
theorem dX10_count_90 : decode cX10_count 90 = .ok (.ireturn, 1) := by decide +kernel
theorem dX10_together_0 : decode cX10_together 0 = .ok (.aload_n 0, 1) := by decide +kernel
theorem dX10_together_1 : decode cX10_together 1 = .ok (.iload_n 1, 1) := by decide +kernel
theorem dX10_together_2 : decode cX10_together 2 = .ok (.aload_n 0, 1) := by decide +kernel
theorem dX10_together_3 : decode cX10_together 3 = .ok (.getfield 80, 3) := by decide +kernel
theorem dX10_together_6 : decode cX10_together 6 = .ok (.invokevirtual 270, 3) := by decide +kernel
theorem dX10_together_9 : decode cX10_together 9 = .ok (.ifCond .eq 47, 3) := by decide +kernel
theorem dX10_together_12 : decode cX10_together 12 = .ok (.aload_n 0, 1) := by decide +kernel
theorem dX10_together_13 : decode cX10_together 13 = .ok (.iload_n 2, 1) := by decide +kernel
theorem dX10_together_14 : decode cX10_together 14 = .ok (.aload_n 0, 1) := by decide +kernel
theorem dX10_together_15 : decode cX10_together 15 = .ok (.getfield 89, 3) := by decide +kernel
theorem dX10_together_18 : decode cX10_together 18 = .ok (.invokevirtual 270, 3) := by decide +kernel
theorem dX10_together_21 : decode cX10_together 21 = .ok (.ifCond .eq 35, 3) := by decide +kernel
theorem dX10_together_24 : decode cX10_together 24 = .ok (.aload_n 0, 1) := by decide +kernel
theorem dX10_together_25 : decode cX10_together 25 = .ok (.iload_n 3, 1) := by decide +kernel
theorem dX10_together_26 : decode cX10_together 26 = .ok (.aload_n 0, 1) := by decide +kernel
theorem dX10_together_27 : decode cX10_together 27 = .ok (.getfield 83, 3) := by decide +kernel
theorem dX10_together_30 : decode cX10_together 30 = .ok (.invokevirtual 270, 3) := by decide +kernel
theorem dX10_together_33 : decode cX10_together 33 = .ok (.ifCond .eq 23, 3) := by decide +kernel
theorem dX10_together_36 : decode cX10_together 36 = .ok (.aload_n 0, 1) := by decide +kernel
theorem dX10_together_37 : decode cX10_together 37 = .ok (.getfield 80, 3) := by decide +kernel
theorem dX10_together_40 : decode cX10_together 40 = .ok (.invokestatic 277, 3) := by decide +kernel
theorem dX10_together_43 : decode cX10_together 43 = .ok (.aload_n 0, 1) := by decide +kernel
theorem dX10_together_44 : decode cX10_together 44 = .ok (.getfield 89, 3) := by decide +kernel
theorem dX10_together_47 : decode cX10_together 47 = .ok (.invokestatic 277, 3) := by decide +kernel
theorem dX10_together_50 : decode cX10_together 50 = .ok (.iadd, 1) := by decide +kernel
theorem dX10_together_51 : decode cX10_together 51 = .ok (.bipush 6, 2) := by decide +kernel
theorem dX10_together_53 : decode cX10_together 53 = .ok (.if_icmp .le 5, 3) := by decide +kernel
theorem dX10_together_56 : decode cX10_together 56 = .ok (.iconst (-1), 1) := by decide +kernel
theorem dX10_together_57 : decode cX10_together 57 = .ok (.ireturn, 1) := by decide +kernel
theorem dX10_together_58 : decode cX10_together 58 = .ok (.iconst 1, 1) := by decide +kernel
theorem dX10_together_59 : decode cX10_together 59 = .ok (.istore 4, 2) := by decide +kernel
theorem dX10_together_61 : decode cX10_together 61 = .ok (.iload 4, 2) := by decide +kernel
theorem dX10_together_63 : decode cX10_together 63 = .ok (.aload_n 0, 1) := by decide +kernel
theorem dX10_together_64 : decode cX10_together 64 = .ok (.getfield 7, 3) := by decide +kernel
theorem dX10_together_67 : decode cX10_together 67 = .ok (.if_icmp .gt 25, 3) := by decide +kernel
theorem dX10_together_70 : decode cX10_together 70 = .ok (.aload_n 0, 1) := by decide +kernel
theorem dX10_together_71 : decode cX10_together 71 = .ok (.getfield 86, 3) := by decide +kernel
theorem dX10_together_74 : decode cX10_together 74 = .ok (.iload 4, 2) := by decide +kernel
theorem dX10_together_76 : decode cX10_together 76 = .ok (.aload_n 0, 1) := by decide +kernel
theorem dX10_together_77 : decode cX10_together 77 = .ok (.getfield 83, 3) := by decide +kernel
theorem dX10_together_80 : decode cX10_together 80 = .ok (.iload 4, 2) := by decide +kernel
theorem dX10_together_82 : decode cX10_together 82 = .ok (.iconst 1, 1) := by decide +kernel
theorem dX10_together_83 : decode cX10_together 83 = .ok (.isub, 1) := by decide +kernel
theorem dX10_together_84 : decode cX10_together 84 = .ok (.iaload, 1) := by decide +kernel
theorem dX10_together_85 : decode cX10_together 85 = .ok (.iastore, 1) := by decide +kernel
theorem dX10_together_86 : decode cX10_together 86 = .ok (.iinc 4 1, 3) := by decide +kernel
theorem dX10_together_89 : decode cX10_together 89 = .ok (.goto (-28), 3) := by decide +kernel
theorem dX10_together_92 : decode cX10_together 92 = .ok (.aload_n 0, 1) := by decide +kernel
theorem dX10_together_93 : decode cX10_together 93 = .ok (.iconst 1, 1) := by decide +kernel
theorem dX10_together_94 : decode cX10_together 94 = .ok (.invokevirtual 274, 3) := by decide +kernel
theorem dX10_together_97 : decode cX10_together 97 = .ok (.aload_n 0, 1) := by decide +kernel
theorem dX10_together_98 : decode cX10_together 98 = .ok (.getfield 256, 3) := by decide +kernel
theorem dX10_together_101 : decode cX10_together 101 = .ok (.ireturn, 1) := by decide +kernel
theorem dX10_worth_0 : decode cX10_worth 0 = .ok (.iload_n 1, 1) := by decide +kernel
theorem dX10_worth_1 : decode cX10_worth 1 = .ok (.iconst 1, 1) := by decide +kernel
theorem dX10_worth_2 : decode cX10_worth 2 = .ok (.aload_n 0, 1) := by decide +kernel
theorem dX10_worth_3 : decode cX10_worth 3 = .ok (.getfield 7, 3) := by decide +kernel
theorem dX10_worth_6 : decode cX10_worth 6 = .ok (.invokestatic 104, 3) := by decide +kernel
theorem dX10_worth_9 : decode cX10_worth 9 = .ok (.ifCond .eq 13, 3) := by decide +kernel
theorem dX10_worth_12 : decode cX10_worth 12 = .ok (.iload_n 2, 1) := by decide +kernel
theorem dX10_worth_13 : decode cX10_worth 13 = .ok (.iconst 0, 1) := by decide +kernel
theorem dX10_worth_14 : decode cX10_worth 14 = .ok (.bipush 99, 2) := by decide +kernel
theorem dX10_worth_16 : decode cX10_worth 16 = .ok (.invokestatic 104, 3) := by decide +kernel
theorem dX10_worth_19 : decode cX10_worth 19 = .ok (.ifCond .ne 5, 3) := by decide +kernel
theorem dX10_worth_22 : decode cX10_worth 22 = .ok (.iconst (-1), 1) := by decide +kernel
theorem dX10_worth_23 : decode cX10_worth 23 = .ok (.ireturn, 1) := by decide +kernel
theorem dX10_worth_24 : decode cX10_worth 24 = .ok (.aload_n 0, 1) := by decide +kernel
theorem dX10_worth_25 : decode cX10_worth 25 = .ok (.getfield 41, 3) := by decide +kernel
theorem dX10_worth_28 : decode cX10_worth 28 = .ok (.iload_n 1, 1) := by decide +kernel
theorem dX10_worth_29 : decode cX10_worth 29 = .ok (.iaload, 1) := by decide +kernel
theorem dX10_worth_30 : decode cX10_worth 30 = .ok (.istore_n 3, 1) := by decide +kernel
theorem dX10_worth_31 : decode cX10_worth 31 = .ok (.aload_n 0, 1) := by decide +kernel
theorem dX10_worth_32 : decode cX10_worth 32 = .ok (.getfield 41, 3) := by decide +kernel
theorem dX10_worth_35 : decode cX10_worth 35 = .ok (.iload_n 1, 1) := by decide +kernel
theorem dX10_worth_36 : decode cX10_worth 36 = .ok (.iload_n 2, 1) := by decide +kernel
theorem dX10_worth_37 : decode cX10_worth 37 = .ok (.iastore, 1) := by decide +kernel
theorem dX10_worth_38 : decode cX10_worth 38 = .ok (.iload_n 3, 1) := by decide +kernel
theorem dX10_worth_39 : decode cX10_worth 39 = .ok (.ireturn, 1) := by decide +kernel
theorem dX10_worthOf_0 : decode cX10_worthOf 0 = .ok (.aload_n 0, 1) := by decide +kernel
theorem dX10_worthOf_1 : decode cX10_worthOf 1 = .ok (.iload_n 1, 1) := by decide +kernel
theorem dX10_worthOf_2 : decode cX10_worthOf 2 = .ok (.aload_n 0, 1) := by decide +kernel
theorem dX10_worthOf_3 : decode cX10_worthOf 3 = .ok (.getfield 89, 3) := by decide +kernel
theorem dX10_worthOf_6 : decode cX10_worthOf 6 = .ok (.invokevirtual 270, 3) := by decide +kernel
theorem dX10_worthOf_9 : decode cX10_worthOf 9 = .ok (.ifCond .ne 5, 3) := by decide +kernel
theorem dX10_worthOf_12 : decode cX10_worthOf 12 = .ok (.iconst (-1), 1) := by decide +kernel
theorem dX10_worthOf_13 : decode cX10_worthOf 13 = .ok (.ireturn, 1) := by decide +kernel
theorem dX10_worthOf_14 : decode cX10_worthOf 14 = .ok (.aload_n 0, 1) := by decide +kernel
theorem dX10_worthOf_15 : decode cX10_worthOf 15 = .ok (.iconst 2, 1) := by decide +kernel
theorem dX10_worthOf_16 : decode cX10_worthOf 16 = .ok (.invokevirtual 274, 3) := by decide +kernel
theorem dX10_worthOf_19 : decode cX10_worthOf 19 = .ok (.aload_n 0, 1) := by decide +kernel
theorem dX10_worthOf_20 : decode cX10_worthOf 20 = .ok (.getfield 259, 3) := by decide +kernel
theorem dX10_worthOf_23 : decode cX10_worthOf 23 = .ok (.ldc2_w 281, 3) := by decide +kernel
theorem dX10_worthOf_26 : decode cX10_worthOf 26 = .ok (.lcmp, 1) := by decide +kernel
theorem dX10_worthOf_27 : decode cX10_worthOf 27 = .ok (.ifCond .le 8, 3) := by decide +kernel
theorem dX10_worthOf_30 : decode cX10_worthOf 30 = .ok (.bipush (-16), 2) := by decide +kernel
theorem dX10_worthOf_32 : decode cX10_worthOf 32 = .ok (.goto 8, 3) := by decide +kernel
theorem dX10_worthOf_35 : decode cX10_worthOf 35 = .ok (.aload_n 0, 1) := by decide +kernel
theorem dX10_worthOf_36 : decode cX10_worthOf 36 = .ok (.getfield 259, 3) := by decide +kernel
theorem dX10_worthOf_39 : decode cX10_worthOf 39 = .ok (.l2i, 1) := by decide +kernel
theorem dX10_worthOf_40 : decode cX10_worthOf 40 = .ok (.ireturn, 1) := by decide +kernel
theorem dX10_seed_0 : decode cX10_seed 0 = .ok (.aload_n 0, 1) := by decide +kernel
theorem dX10_seed_1 : decode cX10_seed 1 = .ok (.getfield 13, 3) := by decide +kernel
theorem dX10_seed_4 : decode cX10_seed 4 = .ok (.istore_n 2, 1) := by decide +kernel
theorem dX10_seed_5 : decode cX10_seed 5 = .ok (.aload_n 0, 1) := by decide +kernel
theorem dX10_seed_6 : decode cX10_seed 6 = .ok (.iload_n 1, 1) := by decide +kernel
theorem dX10_seed_7 : decode cX10_seed 7 = .ok (.putfield 13, 3) := by decide +kernel
theorem dX10_seed_10 : decode cX10_seed 10 = .ok (.iload_n 2, 1) := by decide +kernel
theorem dX10_seed_11 : decode cX10_seed 11 = .ok (.ireturn, 1) := by decide +kernel
theorem dX10_lot_0 : decode cX10_lot 0 = .ok (.iload_n 1, 1) := by decide +kernel
theorem dX10_lot_1 : decode cX10_lot 1 = .ok (.invokestatic 114, 3) := by decide +kernel
theorem dX10_lot_4 : decode cX10_lot 4 = .ok (.ifCond .eq 13, 3) := by decide +kernel
theorem dX10_lot_7 : decode cX10_lot 7 = .ok (.iload_n 2, 1) := by decide +kernel
theorem dX10_lot_8 : decode cX10_lot 8 = .ok (.iconst 0, 1) := by decide +kernel
theorem dX10_lot_9 : decode cX10_lot 9 = .ok (.bipush 6, 2) := by decide +kernel
theorem dX10_lot_11 : decode cX10_lot 11 = .ok (.invokestatic 104, 3) := by decide +kernel
theorem dX10_lot_14 : decode cX10_lot 14 = .ok (.ifCond .ne 5, 3) := by decide +kernel
theorem dX10_lot_17 : decode cX10_lot 17 = .ok (.iconst (-1), 1) := by decide +kernel
theorem dX10_lot_18 : decode cX10_lot 18 = .ok (.ireturn, 1) := by decide +kernel
theorem dX10_lot_19 : decode cX10_lot 19 = .ok (.aload_n 0, 1) := by decide +kernel
theorem dX10_lot_20 : decode cX10_lot 20 = .ok (.iconst 1, 1) := by decide +kernel
theorem dX10_lot_21 : decode cX10_lot 21 = .ok (.putfield 108, 3) := by decide +kernel
theorem dX10_lot_24 : decode cX10_lot 24 = .ok (.aload_n 0, 1) := by decide +kernel
theorem dX10_lot_25 : decode cX10_lot 25 = .ok (.iload_n 2, 1) := by decide +kernel
theorem dX10_lot_26 : decode cX10_lot 26 = .ok (.putfield 111, 3) := by decide +kernel
theorem dX10_lot_29 : decode cX10_lot 29 = .ok (.iconst 0, 1) := by decide +kernel
theorem dX10_lot_30 : decode cX10_lot 30 = .ok (.istore_n 3, 1) := by decide +kernel
theorem dX10_lot_31 : decode cX10_lot 31 = .ok (.iload_n 3, 1) := by decide +kernel
theorem dX10_lot_32 : decode cX10_lot 32 = .ok (.iload_n 2, 1) := by decide +kernel
theorem dX10_lot_33 : decode cX10_lot 33 = .ok (.if_icmp .ge 45, 3) := by decide +kernel
theorem dX10_lot_36 : decode cX10_lot 36 = .ok (.aload_n 0, 1) := by decide +kernel
theorem dX10_lot_37 : decode cX10_lot 37 = .ok (.aload_n 0, 1) := by decide +kernel
theorem dX10_lot_38 : decode cX10_lot 38 = .ok (.getfield 13, 3) := by decide +kernel
theorem dX10_lot_41 : decode cX10_lot 41 = .ok (.ldc_w 283, 3) := by decide +kernel
theorem dX10_lot_44 : decode cX10_lot 44 = .ok (.imul, 1) := by decide +kernel
theorem dX10_lot_45 : decode cX10_lot 45 = .ok (.sipush 12345, 3) := by decide +kernel
theorem dX10_lot_48 : decode cX10_lot 48 = .ok (.iadd, 1) := by decide +kernel
theorem dX10_lot_49 : decode cX10_lot 49 = .ok (.putfield 13, 3) := by decide +kernel
theorem dX10_lot_52 : decode cX10_lot 52 = .ok (.aload_n 0, 1) := by decide +kernel
theorem dX10_lot_53 : decode cX10_lot 53 = .ok (.getfield 47, 3) := by decide +kernel
theorem dX10_lot_56 : decode cX10_lot 56 = .ok (.iload_n 3, 1) := by decide +kernel
theorem dX10_lot_57 : decode cX10_lot 57 = .ok (.iconst 1, 1) := by decide +kernel
theorem dX10_lot_58 : decode cX10_lot 58 = .ok (.aload_n 0, 1) := by decide +kernel
theorem dX10_lot_59 : decode cX10_lot 59 = .ok (.getfield 13, 3) := by decide +kernel
theorem dX10_lot_62 : decode cX10_lot 62 = .ok (.bipush 16, 2) := by decide +kernel
theorem dX10_lot_64 : decode cX10_lot 64 = .ok (.iushr, 1) := by decide +kernel
theorem dX10_lot_65 : decode cX10_lot 65 = .ok (.aload_n 0, 1) := by decide +kernel
theorem dX10_lot_66 : decode cX10_lot 66 = .ok (.getfield 7, 3) := by decide +kernel
theorem dX10_lot_69 : decode cX10_lot 69 = .ok (.irem, 1) := by decide +kernel
theorem dX10_lot_70 : decode cX10_lot 70 = .ok (.iadd, 1) := by decide +kernel
theorem dX10_lot_71 : decode cX10_lot 71 = .ok (.iastore, 1) := by decide +kernel
theorem dX10_lot_72 : decode cX10_lot 72 = .ok (.iinc 3 1, 3) := by decide +kernel
theorem dX10_lot_75 : decode cX10_lot 75 = .ok (.goto (-44), 3) := by decide +kernel
theorem dX10_lot_78 : decode cX10_lot 78 = .ok (.aload_n 0, 1) := by decide +kernel
theorem dX10_lot_79 : decode cX10_lot 79 = .ok (.iload_n 1, 1) := by decide +kernel
theorem dX10_lot_80 : decode cX10_lot 80 = .ok (.invokevirtual 121, 3) := by decide +kernel
theorem dX10_lot_83 : decode cX10_lot 83 = .ok (.aload_n 0, 1) := by decide +kernel
theorem dX10_lot_84 : decode cX10_lot 84 = .ok (.invokevirtual 149, 3) := by decide +kernel
theorem dX10_lot_87 : decode cX10_lot 87 = .ok (.ireturn, 1) := by decide +kernel
theorem dX10_isSheet_0 : decode cX10_isSheet 0 = .ok (.iload_n 0, 1) := by decide +kernel
theorem dX10_isSheet_1 : decode cX10_isSheet 1 = .ok (.iconst 0, 1) := by decide +kernel
theorem dX10_isSheet_2 : decode cX10_isSheet 2 = .ok (.iconst 3, 1) := by decide +kernel
theorem dX10_isSheet_3 : decode cX10_isSheet 3 = .ok (.invokestatic 104, 3) := by decide +kernel
theorem dX10_isSheet_6 : decode cX10_isSheet 6 = .ok (.ireturn, 1) := by decide +kernel
theorem dX10_isOutside_0 : decode cX10_isOutside 0 = .ok (.iload_n 3, 1) := by decide +kernel
theorem dX10_isOutside_1 : decode cX10_isOutside 1 = .ok (.ifCond .lt 23, 3) := by decide +kernel
theorem dX10_isOutside_4 : decode cX10_isOutside 4 = .ok (.iload_n 2, 1) := by decide +kernel
theorem dX10_isOutside_5 : decode cX10_isOutside 5 = .ok (.ifCond .lt 19, 3) := by decide +kernel
theorem dX10_isOutside_8 : decode cX10_isOutside 8 = .ok (.iload_n 2, 1) := by decide +kernel
theorem dX10_isOutside_9 : decode cX10_isOutside 9 = .ok (.i2l, 1) := by decide +kernel
theorem dX10_isOutside_10 : decode cX10_isOutside 10 = .ok (.iload_n 3, 1) := by decide +kernel
theorem dX10_isOutside_11 : decode cX10_isOutside 11 = .ok (.i2l, 1) := by decide +kernel
theorem dX10_isOutside_12 : decode cX10_isOutside 12 = .ok (.ladd, 1) := by decide +kernel
theorem dX10_isOutside_13 : decode cX10_isOutside 13 = .ok (.aload_n 0, 1) := by decide +kernel
theorem dX10_isOutside_14 : decode cX10_isOutside 14 = .ok (.getfield 95, 3) := by decide +kernel
theorem dX10_isOutside_17 : decode cX10_isOutside 17 = .ok (.iload_n 1, 1) := by decide +kernel
theorem dX10_isOutside_18 : decode cX10_isOutside 18 = .ok (.iaload, 1) := by decide +kernel
theorem dX10_isOutside_19 : decode cX10_isOutside 19 = .ok (.i2l, 1) := by decide +kernel
theorem dX10_isOutside_20 : decode cX10_isOutside 20 = .ok (.lcmp, 1) := by decide +kernel
theorem dX10_isOutside_21 : decode cX10_isOutside 21 = .ok (.ifCond .le 7, 3) := by decide +kernel
theorem dX10_isOutside_24 : decode cX10_isOutside 24 = .ok (.iconst 1, 1) := by decide +kernel
theorem dX10_isOutside_25 : decode cX10_isOutside 25 = .ok (.goto 4, 3) := by decide +kernel
theorem dX10_isOutside_28 : decode cX10_isOutside 28 = .ok (.iconst 0, 1) := by decide +kernel
theorem dX10_isOutside_29 : decode cX10_isOutside 29 = .ok (.ireturn, 1) := by decide +kernel
theorem dX10_cut_0 : decode cX10_cut 0 = .ok (.iload_n 0, 1) := by decide +kernel
theorem dX10_cut_1 : decode cX10_cut 1 = .ok (.ifCond .ne 8, 3) := by decide +kernel
theorem dX10_cut_4 : decode cX10_cut 4 = .ok (.iload_n 1, 1) := by decide +kernel
theorem dX10_cut_5 : decode cX10_cut 5 = .ok (.i2b, 1) := by decide +kernel
theorem dX10_cut_6 : decode cX10_cut 6 = .ok (.goto 17, 3) := by decide +kernel
theorem dX10_cut_9 : decode cX10_cut 9 = .ok (.iload_n 0, 1) := by decide +kernel
theorem dX10_cut_10 : decode cX10_cut 10 = .ok (.iconst 1, 1) := by decide +kernel
theorem dX10_cut_11 : decode cX10_cut 11 = .ok (.if_icmp .ne 11, 3) := by decide +kernel
theorem dX10_cut_14 : decode cX10_cut 14 = .ok (.iload_n 1, 1) := by decide +kernel
theorem dX10_cut_15 : decode cX10_cut 15 = .ok (.ldc_w 284, 3) := by decide +kernel
theorem dX10_cut_18 : decode cX10_cut 18 = .ok (.iand, 1) := by decide +kernel
theorem dX10_cut_19 : decode cX10_cut 19 = .ok (.goto 4, 3) := by decide +kernel
theorem dX10_cut_22 : decode cX10_cut 22 = .ok (.iload_n 1, 1) := by decide +kernel
theorem dX10_cut_23 : decode cX10_cut 23 = .ok (.ireturn, 1) := by decide +kernel
theorem dX10_sheet_0 : decode cX10_sheet 0 = .ok (.iload_n 1, 1) := by decide +kernel
theorem dX10_sheet_1 : decode cX10_sheet 1 = .ok (.invokestatic 285, 3) := by decide +kernel
theorem dX10_sheet_4 : decode cX10_sheet 4 = .ok (.ifCond .eq 22, 3) := by decide +kernel
theorem dX10_sheet_7 : decode cX10_sheet 7 = .ok (.iload_n 2, 1) := by decide +kernel
theorem dX10_sheet_8 : decode cX10_sheet 8 = .ok (.iconst (-1), 1) := by decide +kernel
theorem dX10_sheet_9 : decode cX10_sheet 9 = .ok (.iconst 2, 1) := by decide +kernel
theorem dX10_sheet_10 : decode cX10_sheet 10 = .ok (.invokestatic 104, 3) := by decide +kernel
theorem dX10_sheet_13 : decode cX10_sheet 13 = .ok (.ifCond .eq 13, 3) := by decide +kernel
theorem dX10_sheet_16 : decode cX10_sheet 16 = .ok (.iload_n 2, 1) := by decide +kernel
theorem dX10_sheet_17 : decode cX10_sheet 17 = .ok (.ifCond .lt 11, 3) := by decide +kernel
theorem dX10_sheet_20 : decode cX10_sheet 20 = .ok (.iload_n 3, 1) := by decide +kernel
theorem dX10_sheet_21 : decode cX10_sheet 21 = .ok (.bipush 40, 2) := by decide +kernel
theorem dX10_sheet_23 : decode cX10_sheet 23 = .ok (.if_icmp .le 5, 3) := by decide +kernel
theorem dX10_sheet_26 : decode cX10_sheet 26 = .ok (.iconst (-1), 1) := by decide +kernel
theorem dX10_sheet_27 : decode cX10_sheet 27 = .ok (.ireturn, 1) := by decide +kernel
theorem dX10_sheet_28 : decode cX10_sheet 28 = .ok (.iload_n 2, 1) := by decide +kernel
theorem dX10_sheet_29 : decode cX10_sheet 29 = .ok (.ifCond .lt 10, 3) := by decide +kernel
theorem dX10_sheet_32 : decode cX10_sheet 32 = .ok (.iload_n 3, 1) := by decide +kernel
theorem dX10_sheet_33 : decode cX10_sheet 33 = .ok (.ifCond .ge 6, 3) := by decide +kernel
theorem dX10_sheet_36 : decode cX10_sheet 36 = .ok (.bipush (-14), 2) := by decide +kernel
theorem dX10_sheet_38 : decode cX10_sheet 38 = .ok (.ireturn, 1) := by decide +kernel
theorem dX10_sheet_39 : decode cX10_sheet 39 = .ok (.aload_n 0, 1) := by decide +kernel
theorem dX10_sheet_40 : decode cX10_sheet 40 = .ok (.getfield 92, 3) := by decide +kernel
theorem dX10_sheet_43 : decode cX10_sheet 43 = .ok (.iload_n 1, 1) := by decide +kernel
theorem dX10_sheet_44 : decode cX10_sheet 44 = .ok (.iload_n 2, 1) := by decide +kernel
theorem dX10_sheet_45 : decode cX10_sheet 45 = .ok (.iastore, 1) := by decide +kernel
theorem dX10_sheet_46 : decode cX10_sheet 46 = .ok (.aload_n 0, 1) := by decide +kernel
theorem dX10_sheet_47 : decode cX10_sheet 47 = .ok (.getfield 95, 3) := by decide +kernel
theorem dX10_sheet_50 : decode cX10_sheet 50 = .ok (.iload_n 1, 1) := by decide +kernel
theorem dX10_sheet_51 : decode cX10_sheet 51 = .ok (.iload_n 2, 1) := by decide +kernel
theorem dX10_sheet_52 : decode cX10_sheet 52 = .ok (.ifCond .ge 7, 3) := by decide +kernel
theorem dX10_sheet_55 : decode cX10_sheet 55 = .ok (.iconst 0, 1) := by decide +kernel
theorem dX10_sheet_56 : decode cX10_sheet 56 = .ok (.goto 4, 3) := by decide +kernel
theorem dX10_sheet_59 : decode cX10_sheet 59 = .ok (.iload_n 3, 1) := by decide +kernel
theorem dX10_sheet_60 : decode cX10_sheet 60 = .ok (.iastore, 1) := by decide +kernel
theorem dX10_sheet_61 : decode cX10_sheet 61 = .ok (.iconst 0, 1) := by decide +kernel
theorem dX10_sheet_62 : decode cX10_sheet 62 = .ok (.istore 4, 2) := by decide +kernel
theorem dX10_sheet_64 : decode cX10_sheet 64 = .ok (.iload 4, 2) := by decide +kernel
theorem dX10_sheet_66 : decode cX10_sheet 66 = .ok (.bipush 40, 2) := by decide +kernel
theorem dX10_sheet_68 : decode cX10_sheet 68 = .ok (.if_icmp .ge 22, 3) := by decide +kernel
theorem dX10_sheet_71 : decode cX10_sheet 71 = .ok (.aload_n 0, 1) := by decide +kernel
theorem dX10_sheet_72 : decode cX10_sheet 72 = .ok (.getfield 98, 3) := by decide +kernel
theorem dX10_sheet_75 : decode cX10_sheet 75 = .ok (.bipush 40, 2) := by decide +kernel
theorem dX10_sheet_77 : decode cX10_sheet 77 = .ok (.iload_n 1, 1) := by decide +kernel
theorem dX10_sheet_78 : decode cX10_sheet 78 = .ok (.imul, 1) := by decide +kernel
theorem dX10_sheet_79 : decode cX10_sheet 79 = .ok (.iload 4, 2) := by decide +kernel
theorem dX10_sheet_81 : decode cX10_sheet 81 = .ok (.iadd, 1) := by decide +kernel
theorem dX10_sheet_82 : decode cX10_sheet 82 = .ok (.iconst 0, 1) := by decide +kernel
theorem dX10_sheet_83 : decode cX10_sheet 83 = .ok (.iastore, 1) := by decide +kernel
theorem dX10_sheet_84 : decode cX10_sheet 84 = .ok (.iinc 4 1, 3) := by decide +kernel
theorem dX10_sheet_87 : decode cX10_sheet 87 = .ok (.goto (-23), 3) := by decide +kernel
theorem dX10_sheet_90 : decode cX10_sheet 90 = .ok (.iconst 1, 1) := by decide +kernel
theorem dX10_sheet_91 : decode cX10_sheet 91 = .ok (.ireturn, 1) := by decide +kernel
theorem dX10_put_0 : decode cX10_put 0 = .ok (.iload_n 1, 1) := by decide +kernel
theorem dX10_put_1 : decode cX10_put 1 = .ok (.invokestatic 285, 3) := by decide +kernel
theorem dX10_put_4 : decode cX10_put 4 = .ok (.ifCond .ne 5, 3) := by decide +kernel
theorem dX10_put_7 : decode cX10_put 7 = .ok (.iconst (-1), 1) := by decide +kernel
theorem dX10_put_8 : decode cX10_put 8 = .ok (.ireturn, 1) := by decide +kernel
theorem dX10_put_9 : decode cX10_put 9 = .ok (.aload_n 0, 1) := by decide +kernel
theorem dX10_put_10 : decode cX10_put 10 = .ok (.getfield 92, 3) := by decide +kernel
theorem dX10_put_13 : decode cX10_put 13 = .ok (.iload_n 1, 1) := by decide +kernel
theorem dX10_put_14 : decode cX10_put 14 = .ok (.iaload, 1) := by decide +kernel
theorem dX10_put_15 : decode cX10_put 15 = .ok (.ifCond .ge 6, 3) := by decide +kernel
theorem dX10_put_18 : decode cX10_put 18 = .ok (.bipush (-11), 2) := by decide +kernel
theorem dX10_put_20 : decode cX10_put 20 = .ok (.ireturn, 1) := by decide +kernel
theorem dX10_put_21 : decode cX10_put 21 = .ok (.iload_n 2, 1) := by decide +kernel
theorem dX10_put_22 : decode cX10_put 22 = .ok (.iconst 0, 1) := by decide +kernel
theorem dX10_put_23 : decode cX10_put 23 = .ok (.aload_n 0, 1) := by decide +kernel
theorem dX10_put_24 : decode cX10_put 24 = .ok (.getfield 95, 3) := by decide +kernel
theorem dX10_put_27 : decode cX10_put 27 = .ok (.iload_n 1, 1) := by decide +kernel
theorem dX10_put_28 : decode cX10_put 28 = .ok (.iaload, 1) := by decide +kernel
theorem dX10_put_29 : decode cX10_put 29 = .ok (.iconst 1, 1) := by decide +kernel
theorem dX10_put_30 : decode cX10_put 30 = .ok (.isub, 1) := by decide +kernel
theorem dX10_put_31 : decode cX10_put 31 = .ok (.invokestatic 104, 3) := by decide +kernel
theorem dX10_put_34 : decode cX10_put 34 = .ok (.ifCond .ne 6, 3) := by decide +kernel
theorem dX10_put_37 : decode cX10_put 37 = .ok (.bipush (-12), 2) := by decide +kernel
theorem dX10_put_39 : decode cX10_put 39 = .ok (.ireturn, 1) := by decide +kernel
theorem dX10_put_40 : decode cX10_put 40 = .ok (.aload_n 0, 1) := by decide +kernel
theorem dX10_put_41 : decode cX10_put 41 = .ok (.getfield 98, 3) := by decide +kernel
theorem dX10_put_44 : decode cX10_put 44 = .ok (.bipush 40, 2) := by decide +kernel
theorem dX10_put_46 : decode cX10_put 46 = .ok (.iload_n 1, 1) := by decide +kernel
theorem dX10_put_47 : decode cX10_put 47 = .ok (.imul, 1) := by decide +kernel
theorem dX10_put_48 : decode cX10_put 48 = .ok (.iload_n 2, 1) := by decide +kernel
theorem dX10_put_49 : decode cX10_put 49 = .ok (.iadd, 1) := by decide +kernel
theorem dX10_put_50 : decode cX10_put 50 = .ok (.aload_n 0, 1) := by decide +kernel
theorem dX10_put_51 : decode cX10_put 51 = .ok (.getfield 92, 3) := by decide +kernel
theorem dX10_put_54 : decode cX10_put 54 = .ok (.iload_n 1, 1) := by decide +kernel
theorem dX10_put_55 : decode cX10_put 55 = .ok (.iaload, 1) := by decide +kernel
theorem dX10_put_56 : decode cX10_put 56 = .ok (.iload_n 3, 1) := by decide +kernel
theorem dX10_put_57 : decode cX10_put 57 = .ok (.invokestatic 288, 3) := by decide +kernel
theorem dX10_put_60 : decode cX10_put 60 = .ok (.iastore, 1) := by decide +kernel
theorem dX10_put_61 : decode cX10_put 61 = .ok (.iconst 1, 1) := by decide +kernel
theorem dX10_put_62 : decode cX10_put 62 = .ok (.ireturn, 1) := by decide +kernel
theorem dX10_item_0 : decode cX10_item 0 = .ok (.iload_n 1, 1) := by decide +kernel
theorem dX10_item_1 : decode cX10_item 1 = .ok (.invokestatic 285, 3) := by decide +kernel
theorem dX10_item_4 : decode cX10_item 4 = .ok (.ifCond .eq 12, 3) := by decide +kernel
theorem dX10_item_7 : decode cX10_item 7 = .ok (.iload_n 2, 1) := by decide +kernel
theorem dX10_item_8 : decode cX10_item 8 = .ok (.iconst 0, 1) := by decide +kernel
theorem dX10_item_9 : decode cX10_item 9 = .ok (.iconst 2, 1) := by decide +kernel
theorem dX10_item_10 : decode cX10_item 10 = .ok (.invokestatic 104, 3) := by decide +kernel
theorem dX10_item_13 : decode cX10_item 13 = .ok (.ifCond .ne 5, 3) := by decide +kernel
theorem dX10_item_16 : decode cX10_item 16 = .ok (.iconst (-1), 1) := by decide +kernel
theorem dX10_item_17 : decode cX10_item 17 = .ok (.ireturn, 1) := by decide +kernel
theorem dX10_item_18 : decode cX10_item 18 = .ok (.aload_n 0, 1) := by decide +kernel
theorem dX10_item_19 : decode cX10_item 19 = .ok (.getfield 92, 3) := by decide +kernel
theorem dX10_item_22 : decode cX10_item 22 = .ok (.iload_n 1, 1) := by decide +kernel
theorem dX10_item_23 : decode cX10_item 23 = .ok (.iaload, 1) := by decide +kernel
theorem dX10_item_24 : decode cX10_item 24 = .ok (.iload_n 2, 1) := by decide +kernel
theorem dX10_item_25 : decode cX10_item 25 = .ok (.if_icmp .eq 20, 3) := by decide +kernel
theorem dX10_item_28 : decode cX10_item 28 = .ok (.aload_n 0, 1) := by decide +kernel
theorem dX10_item_29 : decode cX10_item 29 = .ok (.getfield 92, 3) := by decide +kernel
theorem dX10_item_32 : decode cX10_item 32 = .ok (.iload_n 1, 1) := by decide +kernel
theorem dX10_item_33 : decode cX10_item 33 = .ok (.iaload, 1) := by decide +kernel
theorem dX10_item_34 : decode cX10_item 34 = .ok (.ifCond .ge 8, 3) := by decide +kernel
theorem dX10_item_37 : decode cX10_item 37 = .ok (.bipush (-11), 2) := by decide +kernel
theorem dX10_item_39 : decode cX10_item 39 = .ok (.goto 5, 3) := by decide +kernel
theorem dX10_item_42 : decode cX10_item 42 = .ok (.bipush (-13), 2) := by decide +kernel
theorem dX10_item_44 : decode cX10_item 44 = .ok (.ireturn, 1) := by decide +kernel
theorem dX10_item_45 : decode cX10_item 45 = .ok (.iload_n 3, 1) := by decide +kernel
theorem dX10_item_46 : decode cX10_item 46 = .ok (.iconst 0, 1) := by decide +kernel
theorem dX10_item_47 : decode cX10_item 47 = .ok (.aload_n 0, 1) := by decide +kernel
theorem dX10_item_48 : decode cX10_item 48 = .ok (.getfield 95, 3) := by decide +kernel
theorem dX10_item_51 : decode cX10_item 51 = .ok (.iload_n 1, 1) := by decide +kernel
theorem dX10_item_52 : decode cX10_item 52 = .ok (.iaload, 1) := by decide +kernel
theorem dX10_item_53 : decode cX10_item 53 = .ok (.iconst 1, 1) := by decide +kernel
theorem dX10_item_54 : decode cX10_item 54 = .ok (.isub, 1) := by decide +kernel
theorem dX10_item_55 : decode cX10_item 55 = .ok (.invokestatic 104, 3) := by decide +kernel
theorem dX10_item_58 : decode cX10_item 58 = .ok (.ifCond .eq 17, 3) := by decide +kernel
theorem dX10_item_61 : decode cX10_item 61 = .ok (.aload_n 0, 1) := by decide +kernel
theorem dX10_item_62 : decode cX10_item 62 = .ok (.getfield 98, 3) := by decide +kernel
theorem dX10_item_65 : decode cX10_item 65 = .ok (.bipush 40, 2) := by decide +kernel
theorem dX10_item_67 : decode cX10_item 67 = .ok (.iload_n 1, 1) := by decide +kernel
theorem dX10_item_68 : decode cX10_item 68 = .ok (.imul, 1) := by decide +kernel
theorem dX10_item_69 : decode cX10_item 69 = .ok (.iload_n 3, 1) := by decide +kernel
theorem dX10_item_70 : decode cX10_item 70 = .ok (.iadd, 1) := by decide +kernel
theorem dX10_item_71 : decode cX10_item 71 = .ok (.iaload, 1) := by decide +kernel
theorem dX10_item_72 : decode cX10_item 72 = .ok (.goto 5, 3) := by decide +kernel
theorem dX10_item_75 : decode cX10_item 75 = .ok (.bipush (-12), 2) := by decide +kernel
theorem dX10_item_77 : decode cX10_item 77 = .ok (.ireturn, 1) := by decide +kernel
theorem dX10_copy_0 : decode cX10_copy 0 = .ok (.iload_n 1, 1) := by decide +kernel
theorem dX10_copy_1 : decode cX10_copy 1 = .ok (.invokestatic 285, 3) := by decide +kernel
theorem dX10_copy_4 : decode cX10_copy 4 = .ok (.ifCond .eq 10, 3) := by decide +kernel
theorem dX10_copy_7 : decode cX10_copy 7 = .ok (.iload_n 3, 1) := by decide +kernel
theorem dX10_copy_8 : decode cX10_copy 8 = .ok (.invokestatic 285, 3) := by decide +kernel
theorem dX10_copy_11 : decode cX10_copy 11 = .ok (.ifCond .ne 5, 3) := by decide +kernel
theorem dX10_copy_14 : decode cX10_copy 14 = .ok (.iconst (-1), 1) := by decide +kernel
theorem dX10_copy_15 : decode cX10_copy 15 = .ok (.ireturn, 1) := by decide +kernel
theorem dX10_copy_16 : decode cX10_copy 16 = .ok (.aload_n 0, 1) := by decide +kernel
theorem dX10_copy_17 : decode cX10_copy 17 = .ok (.getfield 92, 3) := by decide +kernel
theorem dX10_copy_20 : decode cX10_copy 20 = .ok (.iload_n 1, 1) := by decide +kernel
theorem dX10_copy_21 : decode cX10_copy 21 = .ok (.iaload, 1) := by decide +kernel
theorem dX10_copy_22 : decode cX10_copy 22 = .ok (.ifCond .lt 12, 3) := by decide +kernel
theorem dX10_copy_25 : decode cX10_copy 25 = .ok (.aload_n 0, 1) := by decide +kernel
theorem dX10_copy_26 : decode cX10_copy 26 = .ok (.getfield 92, 3) := by decide +kernel
theorem dX10_copy_29 : decode cX10_copy 29 = .ok (.iload_n 3, 1) := by decide +kernel
theorem dX10_copy_30 : decode cX10_copy 30 = .ok (.iaload, 1) := by decide +kernel
theorem dX10_copy_31 : decode cX10_copy 31 = .ok (.ifCond .ge 6, 3) := by decide +kernel
theorem dX10_copy_34 : decode cX10_copy 34 = .ok (.bipush (-11), 2) := by decide +kernel
theorem dX10_copy_36 : decode cX10_copy 36 = .ok (.ireturn, 1) := by decide +kernel
theorem dX10_copy_37 : decode cX10_copy 37 = .ok (.aload_n 0, 1) := by decide +kernel
theorem dX10_copy_38 : decode cX10_copy 38 = .ok (.getfield 92, 3) := by decide +kernel
theorem dX10_copy_41 : decode cX10_copy 41 = .ok (.iload_n 1, 1) := by decide +kernel
theorem dX10_copy_42 : decode cX10_copy 42 = .ok (.iaload, 1) := by decide +kernel
theorem dX10_copy_43 : decode cX10_copy 43 = .ok (.aload_n 0, 1) := by decide +kernel
theorem dX10_copy_44 : decode cX10_copy 44 = .ok (.getfield 92, 3) := by decide +kernel
theorem dX10_copy_47 : decode cX10_copy 47 = .ok (.iload_n 3, 1) := by decide +kernel
theorem dX10_copy_48 : decode cX10_copy 48 = .ok (.iaload, 1) := by decide +kernel
theorem dX10_copy_49 : decode cX10_copy 49 = .ok (.if_icmp .eq 6, 3) := by decide +kernel
theorem dX10_copy_52 : decode cX10_copy 52 = .ok (.bipush (-13), 2) := by decide +kernel
theorem dX10_copy_54 : decode cX10_copy 54 = .ok (.ireturn, 1) := by decide +kernel
theorem dX10_copy_55 : decode cX10_copy 55 = .ok (.aload_n 0, 1) := by decide +kernel
theorem dX10_copy_56 : decode cX10_copy 56 = .ok (.iload_n 1, 1) := by decide +kernel
theorem dX10_copy_57 : decode cX10_copy 57 = .ok (.iload_n 2, 1) := by decide +kernel
theorem dX10_copy_58 : decode cX10_copy 58 = .ok (.iload 5, 2) := by decide +kernel
theorem dX10_copy_60 : decode cX10_copy 60 = .ok (.invokevirtual 292, 3) := by decide +kernel
theorem dX10_copy_63 : decode cX10_copy 63 = .ok (.ifCond .ne 15, 3) := by decide +kernel
theorem dX10_copy_66 : decode cX10_copy 66 = .ok (.aload_n 0, 1) := by decide +kernel
theorem dX10_copy_67 : decode cX10_copy 67 = .ok (.iload_n 3, 1) := by decide +kernel
theorem dX10_copy_68 : decode cX10_copy 68 = .ok (.iload 4, 2) := by decide +kernel
theorem dX10_copy_70 : decode cX10_copy 70 = .ok (.iload 5, 2) := by decide +kernel
theorem dX10_copy_72 : decode cX10_copy 72 = .ok (.invokevirtual 292, 3) := by decide +kernel
theorem dX10_copy_75 : decode cX10_copy 75 = .ok (.ifCond .eq 6, 3) := by decide +kernel
theorem dX10_copy_78 : decode cX10_copy 78 = .ok (.bipush (-12), 2) := by decide +kernel
theorem dX10_copy_80 : decode cX10_copy 80 = .ok (.ireturn, 1) := by decide +kernel
theorem dX10_copy_81 : decode cX10_copy 81 = .ok (.iconst 0, 1) := by decide +kernel
theorem dX10_copy_82 : decode cX10_copy 82 = .ok (.istore 6, 2) := by decide +kernel
theorem dX10_copy_84 : decode cX10_copy 84 = .ok (.iload 6, 2) := by decide +kernel
theorem dX10_copy_86 : decode cX10_copy 86 = .ok (.iload 5, 2) := by decide +kernel
theorem dX10_copy_88 : decode cX10_copy 88 = .ok (.if_icmp .ge 30, 3) := by decide +kernel
theorem dX10_copy_91 : decode cX10_copy 91 = .ok (.aload_n 0, 1) := by decide +kernel
theorem dX10_copy_92 : decode cX10_copy 92 = .ok (.getfield 101, 3) := by decide +kernel
theorem dX10_copy_95 : decode cX10_copy 95 = .ok (.iload 6, 2) := by decide +kernel
theorem dX10_copy_97 : decode cX10_copy 97 = .ok (.aload_n 0, 1) := by decide +kernel
theorem dX10_copy_98 : decode cX10_copy 98 = .ok (.getfield 98, 3) := by decide +kernel
theorem dX10_copy_101 : decode cX10_copy 101 = .ok (.bipush 40, 2) := by decide +kernel
theorem dX10_copy_103 : decode cX10_copy 103 = .ok (.iload_n 1, 1) := by decide +kernel
theorem dX10_copy_104 : decode cX10_copy 104 = .ok (.imul, 1) := by decide +kernel
theorem dX10_copy_105 : decode cX10_copy 105 = .ok (.iload_n 2, 1) := by decide +kernel
theorem dX10_copy_106 : decode cX10_copy 106 = .ok (.iadd, 1) := by decide +kernel
theorem dX10_copy_107 : decode cX10_copy 107 = .ok (.iload 6, 2) := by decide +kernel
theorem dX10_copy_109 : decode cX10_copy 109 = .ok (.iadd, 1) := by decide +kernel
theorem dX10_copy_110 : decode cX10_copy 110 = .ok (.iaload, 1) := by decide +kernel
theorem dX10_copy_111 : decode cX10_copy 111 = .ok (.iastore, 1) := by decide +kernel
theorem dX10_copy_112 : decode cX10_copy 112 = .ok (.iinc 6 1, 3) := by decide +kernel
theorem dX10_copy_115 : decode cX10_copy 115 = .ok (.goto (-31), 3) := by decide +kernel
theorem dX10_copy_118 : decode cX10_copy 118 = .ok (.iconst 0, 1) := by decide +kernel
theorem dX10_copy_119 : decode cX10_copy 119 = .ok (.istore 6, 2) := by decide +kernel
theorem dX10_copy_121 : decode cX10_copy 121 = .ok (.iload 6, 2) := by decide +kernel
theorem dX10_copy_123 : decode cX10_copy 123 = .ok (.iload 5, 2) := by decide +kernel
theorem dX10_copy_125 : decode cX10_copy 125 = .ok (.if_icmp .ge 31, 3) := by decide +kernel
theorem dX10_copy_128 : decode cX10_copy 128 = .ok (.aload_n 0, 1) := by decide +kernel
theorem dX10_copy_129 : decode cX10_copy 129 = .ok (.getfield 98, 3) := by decide +kernel
theorem dX10_copy_132 : decode cX10_copy 132 = .ok (.bipush 40, 2) := by decide +kernel
theorem dX10_copy_134 : decode cX10_copy 134 = .ok (.iload_n 3, 1) := by decide +kernel
theorem dX10_copy_135 : decode cX10_copy 135 = .ok (.imul, 1) := by decide +kernel
theorem dX10_copy_136 : decode cX10_copy 136 = .ok (.iload 4, 2) := by decide +kernel
theorem dX10_copy_138 : decode cX10_copy 138 = .ok (.iadd, 1) := by decide +kernel
theorem dX10_copy_139 : decode cX10_copy 139 = .ok (.iload 6, 2) := by decide +kernel
theorem dX10_copy_141 : decode cX10_copy 141 = .ok (.iadd, 1) := by decide +kernel
theorem dX10_copy_142 : decode cX10_copy 142 = .ok (.aload_n 0, 1) := by decide +kernel
theorem dX10_copy_143 : decode cX10_copy 143 = .ok (.getfield 101, 3) := by decide +kernel
theorem dX10_copy_146 : decode cX10_copy 146 = .ok (.iload 6, 2) := by decide +kernel
theorem dX10_copy_148 : decode cX10_copy 148 = .ok (.iaload, 1) := by decide +kernel
theorem dX10_copy_149 : decode cX10_copy 149 = .ok (.iastore, 1) := by decide +kernel
theorem dX10_copy_150 : decode cX10_copy 150 = .ok (.iinc 6 1, 3) := by decide +kernel
theorem dX10_copy_153 : decode cX10_copy 153 = .ok (.goto (-32), 3) := by decide +kernel
theorem dX10_copy_156 : decode cX10_copy 156 = .ok (.iload 5, 2) := by decide +kernel
theorem dX10_copy_158 : decode cX10_copy 158 = .ok (.ireturn, 1) := by decide +kernel
theorem dX10_lay_0 : decode cX10_lay 0 = .ok (.iload_n 1, 1) := by decide +kernel
theorem dX10_lay_1 : decode cX10_lay 1 = .ok (.invokestatic 114, 3) := by decide +kernel
theorem dX10_lay_4 : decode cX10_lay 4 = .ok (.ifCond .eq 10, 3) := by decide +kernel
theorem dX10_lay_7 : decode cX10_lay 7 = .ok (.iload_n 2, 1) := by decide +kernel
theorem dX10_lay_8 : decode cX10_lay 8 = .ok (.invokestatic 285, 3) := by decide +kernel
theorem dX10_lay_11 : decode cX10_lay 11 = .ok (.ifCond .ne 5, 3) := by decide +kernel
theorem dX10_lay_14 : decode cX10_lay 14 = .ok (.iconst (-1), 1) := by decide +kernel
theorem dX10_lay_15 : decode cX10_lay 15 = .ok (.ireturn, 1) := by decide +kernel
theorem dX10_lay_16 : decode cX10_lay 16 = .ok (.aload_n 0, 1) := by decide +kernel
theorem dX10_lay_17 : decode cX10_lay 17 = .ok (.getfield 16, 3) := by decide +kernel
theorem dX10_lay_20 : decode cX10_lay 20 = .ok (.iload_n 1, 1) := by decide +kernel
theorem dX10_lay_21 : decode cX10_lay 21 = .ok (.iaload, 1) := by decide +kernel
theorem dX10_lay_22 : decode cX10_lay 22 = .ok (.ifCond .eq 12, 3) := by decide +kernel
theorem dX10_lay_25 : decode cX10_lay 25 = .ok (.aload_n 0, 1) := by decide +kernel
theorem dX10_lay_26 : decode cX10_lay 26 = .ok (.getfield 92, 3) := by decide +kernel
theorem dX10_lay_29 : decode cX10_lay 29 = .ok (.iload_n 2, 1) := by decide +kernel
theorem dX10_lay_30 : decode cX10_lay 30 = .ok (.iaload, 1) := by decide +kernel
theorem dX10_lay_31 : decode cX10_lay 31 = .ok (.ifCond .ge 6, 3) := by decide +kernel
theorem dX10_lay_34 : decode cX10_lay 34 = .ok (.bipush (-11), 2) := by decide +kernel
theorem dX10_lay_36 : decode cX10_lay 36 = .ok (.ireturn, 1) := by decide +kernel
theorem dX10_lay_37 : decode cX10_lay 37 = .ok (.aload_n 0, 1) := by decide +kernel
theorem dX10_lay_38 : decode cX10_lay 38 = .ok (.getfield 92, 3) := by decide +kernel
theorem dX10_lay_41 : decode cX10_lay 41 = .ok (.iload_n 2, 1) := by decide +kernel
theorem dX10_lay_42 : decode cX10_lay 42 = .ok (.iaload, 1) := by decide +kernel
theorem dX10_lay_43 : decode cX10_lay 43 = .ok (.iconst 2, 1) := by decide +kernel
theorem dX10_lay_44 : decode cX10_lay 44 = .ok (.if_icmp .ne 6, 3) := by decide +kernel
theorem dX10_lay_47 : decode cX10_lay 47 = .ok (.bipush (-13), 2) := by decide +kernel
theorem dX10_lay_49 : decode cX10_lay 49 = .ok (.ireturn, 1) := by decide +kernel
theorem dX10_lay_50 : decode cX10_lay 50 = .ok (.aload_n 0, 1) := by decide +kernel
theorem dX10_lay_51 : decode cX10_lay 51 = .ok (.iload_n 2, 1) := by decide +kernel
theorem dX10_lay_52 : decode cX10_lay 52 = .ok (.iload_n 3, 1) := by decide +kernel
theorem dX10_lay_53 : decode cX10_lay 53 = .ok (.aload_n 0, 1) := by decide +kernel
theorem dX10_lay_54 : decode cX10_lay 54 = .ok (.getfield 20, 3) := by decide +kernel
theorem dX10_lay_57 : decode cX10_lay 57 = .ok (.iload_n 1, 1) := by decide +kernel
theorem dX10_lay_58 : decode cX10_lay 58 = .ok (.iaload, 1) := by decide +kernel
theorem dX10_lay_59 : decode cX10_lay 59 = .ok (.invokevirtual 292, 3) := by decide +kernel
theorem dX10_lay_62 : decode cX10_lay 62 = .ok (.ifCond .eq 6, 3) := by decide +kernel
theorem dX10_lay_65 : decode cX10_lay 65 = .ok (.bipush (-12), 2) := by decide +kernel
theorem dX10_lay_67 : decode cX10_lay 67 = .ok (.ireturn, 1) := by decide +kernel
theorem dX10_lay_68 : decode cX10_lay 68 = .ok (.iconst 0, 1) := by decide +kernel
theorem dX10_lay_69 : decode cX10_lay 69 = .ok (.istore 4, 2) := by decide +kernel
theorem dX10_lay_71 : decode cX10_lay 71 = .ok (.iload 4, 2) := by decide +kernel
theorem dX10_lay_73 : decode cX10_lay 73 = .ok (.aload_n 0, 1) := by decide +kernel
theorem dX10_lay_74 : decode cX10_lay 74 = .ok (.getfield 20, 3) := by decide +kernel
theorem dX10_lay_77 : decode cX10_lay 77 = .ok (.iload_n 1, 1) := by decide +kernel
theorem dX10_lay_78 : decode cX10_lay 78 = .ok (.iaload, 1) := by decide +kernel
theorem dX10_lay_79 : decode cX10_lay 79 = .ok (.if_icmp .ge 35, 3) := by decide +kernel
theorem dX10_lay_82 : decode cX10_lay 82 = .ok (.aload_n 0, 1) := by decide +kernel
theorem dX10_lay_83 : decode cX10_lay 83 = .ok (.getfield 98, 3) := by decide +kernel
theorem dX10_lay_86 : decode cX10_lay 86 = .ok (.bipush 40, 2) := by decide +kernel
theorem dX10_lay_88 : decode cX10_lay 88 = .ok (.iload_n 2, 1) := by decide +kernel
theorem dX10_lay_89 : decode cX10_lay 89 = .ok (.imul, 1) := by decide +kernel
theorem dX10_lay_90 : decode cX10_lay 90 = .ok (.iload_n 3, 1) := by decide +kernel
theorem dX10_lay_91 : decode cX10_lay 91 = .ok (.iadd, 1) := by decide +kernel
theorem dX10_lay_92 : decode cX10_lay 92 = .ok (.iload 4, 2) := by decide +kernel
theorem dX10_lay_94 : decode cX10_lay 94 = .ok (.iadd, 1) := by decide +kernel
theorem dX10_lay_95 : decode cX10_lay 95 = .ok (.aload_n 0, 1) := by decide +kernel
theorem dX10_lay_96 : decode cX10_lay 96 = .ok (.getfield 23, 3) := by decide +kernel
theorem dX10_lay_99 : decode cX10_lay 99 = .ok (.bipush 6, 2) := by decide +kernel
theorem dX10_lay_101 : decode cX10_lay 101 = .ok (.iload_n 1, 1) := by decide +kernel
theorem dX10_lay_102 : decode cX10_lay 102 = .ok (.imul, 1) := by decide +kernel
theorem dX10_lay_103 : decode cX10_lay 103 = .ok (.iload 4, 2) := by decide +kernel
theorem dX10_lay_105 : decode cX10_lay 105 = .ok (.iadd, 1) := by decide +kernel
theorem dX10_lay_106 : decode cX10_lay 106 = .ok (.iaload, 1) := by decide +kernel
theorem dX10_lay_107 : decode cX10_lay 107 = .ok (.iastore, 1) := by decide +kernel
theorem dX10_lay_108 : decode cX10_lay 108 = .ok (.iinc 4 1, 3) := by decide +kernel
theorem dX10_lay_111 : decode cX10_lay 111 = .ok (.goto (-40), 3) := by decide +kernel
theorem dX10_lay_114 : decode cX10_lay 114 = .ok (.aload_n 0, 1) := by decide +kernel
theorem dX10_lay_115 : decode cX10_lay 115 = .ok (.getfield 20, 3) := by decide +kernel
theorem dX10_lay_118 : decode cX10_lay 118 = .ok (.iload_n 1, 1) := by decide +kernel
theorem dX10_lay_119 : decode cX10_lay 119 = .ok (.iaload, 1) := by decide +kernel
theorem dX10_lay_120 : decode cX10_lay 120 = .ok (.ireturn, 1) := by decide +kernel
theorem dX10_take_0 : decode cX10_take 0 = .ok (.iload_n 1, 1) := by decide +kernel
theorem dX10_take_1 : decode cX10_take 1 = .ok (.invokestatic 285, 3) := by decide +kernel
theorem dX10_take_4 : decode cX10_take 4 = .ok (.ifCond .eq 21, 3) := by decide +kernel
theorem dX10_take_7 : decode cX10_take 7 = .ok (.iload_n 3, 1) := by decide +kernel
theorem dX10_take_8 : decode cX10_take 8 = .ok (.iconst 0, 1) := by decide +kernel
theorem dX10_take_9 : decode cX10_take 9 = .ok (.bipush 6, 2) := by decide +kernel
theorem dX10_take_11 : decode cX10_take 11 = .ok (.invokestatic 104, 3) := by decide +kernel
theorem dX10_take_14 : decode cX10_take 14 = .ok (.ifCond .eq 11, 3) := by decide +kernel
theorem dX10_take_17 : decode cX10_take 17 = .ok (.iload 4, 2) := by decide +kernel
theorem dX10_take_19 : decode cX10_take 19 = .ok (.invokestatic 114, 3) := by decide +kernel
theorem dX10_take_22 : decode cX10_take 22 = .ok (.ifCond .ne 5, 3) := by decide +kernel
theorem dX10_take_25 : decode cX10_take 25 = .ok (.iconst (-1), 1) := by decide +kernel
theorem dX10_take_26 : decode cX10_take 26 = .ok (.ireturn, 1) := by decide +kernel
theorem dX10_take_27 : decode cX10_take 27 = .ok (.aload_n 0, 1) := by decide +kernel
theorem dX10_take_28 : decode cX10_take 28 = .ok (.getfield 92, 3) := by decide +kernel
theorem dX10_take_31 : decode cX10_take 31 = .ok (.iload_n 1, 1) := by decide +kernel
theorem dX10_take_32 : decode cX10_take 32 = .ok (.iaload, 1) := by decide +kernel
theorem dX10_take_33 : decode cX10_take 33 = .ok (.ifCond .lt 13, 3) := by decide +kernel
theorem dX10_take_36 : decode cX10_take 36 = .ok (.aload_n 0, 1) := by decide +kernel
theorem dX10_take_37 : decode cX10_take 37 = .ok (.getfield 92, 3) := by decide +kernel
theorem dX10_take_40 : decode cX10_take 40 = .ok (.iload_n 1, 1) := by decide +kernel
theorem dX10_take_41 : decode cX10_take 41 = .ok (.iaload, 1) := by decide +kernel
theorem dX10_take_42 : decode cX10_take 42 = .ok (.iconst 2, 1) := by decide +kernel
theorem dX10_take_43 : decode cX10_take 43 = .ok (.if_icmp .ne 20, 3) := by decide +kernel
theorem dX10_take_46 : decode cX10_take 46 = .ok (.aload_n 0, 1) := by decide +kernel
theorem dX10_take_47 : decode cX10_take 47 = .ok (.getfield 92, 3) := by decide +kernel
theorem dX10_take_50 : decode cX10_take 50 = .ok (.iload_n 1, 1) := by decide +kernel
theorem dX10_take_51 : decode cX10_take 51 = .ok (.iaload, 1) := by decide +kernel
theorem dX10_take_52 : decode cX10_take 52 = .ok (.ifCond .ge 8, 3) := by decide +kernel
theorem dX10_take_55 : decode cX10_take 55 = .ok (.bipush (-11), 2) := by decide +kernel
theorem dX10_take_57 : decode cX10_take 57 = .ok (.goto 5, 3) := by decide +kernel
theorem dX10_take_60 : decode cX10_take 60 = .ok (.bipush (-13), 2) := by decide +kernel
theorem dX10_take_62 : decode cX10_take 62 = .ok (.ireturn, 1) := by decide +kernel
theorem dX10_take_63 : decode cX10_take 63 = .ok (.aload_n 0, 1) := by decide +kernel
theorem dX10_take_64 : decode cX10_take 64 = .ok (.iload_n 1, 1) := by decide +kernel
theorem dX10_take_65 : decode cX10_take 65 = .ok (.iload_n 2, 1) := by decide +kernel
theorem dX10_take_66 : decode cX10_take 66 = .ok (.iload_n 3, 1) := by decide +kernel
theorem dX10_take_67 : decode cX10_take 67 = .ok (.invokevirtual 292, 3) := by decide +kernel
theorem dX10_take_70 : decode cX10_take 70 = .ok (.ifCond .eq 6, 3) := by decide +kernel
theorem dX10_take_73 : decode cX10_take 73 = .ok (.bipush (-12), 2) := by decide +kernel
theorem dX10_take_75 : decode cX10_take 75 = .ok (.ireturn, 1) := by decide +kernel
theorem dX10_take_76 : decode cX10_take 76 = .ok (.iconst 1, 1) := by decide +kernel
theorem dX10_take_77 : decode cX10_take 77 = .ok (.istore 5, 2) := by decide +kernel
theorem dX10_take_79 : decode cX10_take 79 = .ok (.iconst 0, 1) := by decide +kernel
theorem dX10_take_80 : decode cX10_take 80 = .ok (.istore 6, 2) := by decide +kernel
theorem dX10_take_82 : decode cX10_take 82 = .ok (.iload 6, 2) := by decide +kernel
theorem dX10_take_84 : decode cX10_take 84 = .ok (.iload_n 3, 1) := by decide +kernel
theorem dX10_take_85 : decode cX10_take 85 = .ok (.if_icmp .ge 60, 3) := by decide +kernel
theorem dX10_take_88 : decode cX10_take 88 = .ok (.aload_n 0, 1) := by decide +kernel
theorem dX10_take_89 : decode cX10_take 89 = .ok (.getfield 47, 3) := by decide +kernel
theorem dX10_take_92 : decode cX10_take 92 = .ok (.iload 6, 2) := by decide +kernel
theorem dX10_take_94 : decode cX10_take 94 = .ok (.aload_n 0, 1) := by decide +kernel
theorem dX10_take_95 : decode cX10_take 95 = .ok (.getfield 98, 3) := by decide +kernel
theorem dX10_take_98 : decode cX10_take 98 = .ok (.bipush 40, 2) := by decide +kernel
theorem dX10_take_100 : decode cX10_take 100 = .ok (.iload_n 1, 1) := by decide +kernel
theorem dX10_take_101 : decode cX10_take 101 = .ok (.imul, 1) := by decide +kernel
theorem dX10_take_102 : decode cX10_take 102 = .ok (.iload_n 2, 1) := by decide +kernel
theorem dX10_take_103 : decode cX10_take 103 = .ok (.iadd, 1) := by decide +kernel
theorem dX10_take_104 : decode cX10_take 104 = .ok (.iload 6, 2) := by decide +kernel
theorem dX10_take_106 : decode cX10_take 106 = .ok (.iadd, 1) := by decide +kernel
theorem dX10_take_107 : decode cX10_take 107 = .ok (.iaload, 1) := by decide +kernel
theorem dX10_take_108 : decode cX10_take 108 = .ok (.iastore, 1) := by decide +kernel
theorem dX10_take_109 : decode cX10_take 109 = .ok (.iload 5, 2) := by decide +kernel
theorem dX10_take_111 : decode cX10_take 111 = .ok (.ifCond .eq 25, 3) := by decide +kernel
theorem dX10_take_114 : decode cX10_take 114 = .ok (.aload_n 0, 1) := by decide +kernel
theorem dX10_take_115 : decode cX10_take 115 = .ok (.getfield 47, 3) := by decide +kernel
theorem dX10_take_118 : decode cX10_take 118 = .ok (.iload 6, 2) := by decide +kernel
theorem dX10_take_120 : decode cX10_take 120 = .ok (.iaload, 1) := by decide +kernel
theorem dX10_take_121 : decode cX10_take 121 = .ok (.iconst 1, 1) := by decide +kernel
theorem dX10_take_122 : decode cX10_take 122 = .ok (.aload_n 0, 1) := by decide +kernel
theorem dX10_take_123 : decode cX10_take 123 = .ok (.getfield 7, 3) := by decide +kernel
theorem dX10_take_126 : decode cX10_take 126 = .ok (.invokestatic 104, 3) := by decide +kernel
theorem dX10_take_129 : decode cX10_take 129 = .ok (.ifCond .eq 7, 3) := by decide +kernel
theorem dX10_take_132 : decode cX10_take 132 = .ok (.iconst 1, 1) := by decide +kernel
theorem dX10_take_133 : decode cX10_take 133 = .ok (.goto 4, 3) := by decide +kernel
theorem dX10_take_136 : decode cX10_take 136 = .ok (.iconst 0, 1) := by decide +kernel
theorem dX10_take_137 : decode cX10_take 137 = .ok (.istore 5, 2) := by decide +kernel
theorem dX10_take_139 : decode cX10_take 139 = .ok (.iinc 6 1, 3) := by decide +kernel
theorem dX10_take_142 : decode cX10_take 142 = .ok (.goto (-60), 3) := by decide +kernel
theorem dX10_take_145 : decode cX10_take 145 = .ok (.iload 5, 2) := by decide +kernel
theorem dX10_take_147 : decode cX10_take 147 = .ok (.ifCond .ne 5, 3) := by decide +kernel
theorem dX10_take_150 : decode cX10_take 150 = .ok (.iconst (-1), 1) := by decide +kernel
theorem dX10_take_151 : decode cX10_take 151 = .ok (.ireturn, 1) := by decide +kernel
theorem dX10_take_152 : decode cX10_take 152 = .ok (.aload_n 0, 1) := by decide +kernel
theorem dX10_take_153 : decode cX10_take 153 = .ok (.iconst 1, 1) := by decide +kernel
theorem dX10_take_154 : decode cX10_take 154 = .ok (.putfield 108, 3) := by decide +kernel
theorem dX10_take_157 : decode cX10_take 157 = .ok (.aload_n 0, 1) := by decide +kernel
theorem dX10_take_158 : decode cX10_take 158 = .ok (.iload_n 3, 1) := by decide +kernel
theorem dX10_take_159 : decode cX10_take 159 = .ok (.putfield 111, 3) := by decide +kernel
theorem dX10_take_162 : decode cX10_take 162 = .ok (.aload_n 0, 1) := by decide +kernel
theorem dX10_take_163 : decode cX10_take 163 = .ok (.iload 4, 2) := by decide +kernel
theorem dX10_take_165 : decode cX10_take 165 = .ok (.invokevirtual 121, 3) := by decide +kernel
theorem dX10_take_168 : decode cX10_take 168 = .ok (.aload_n 0, 1) := by decide +kernel
theorem dX10_take_169 : decode cX10_take 169 = .ok (.invokevirtual 149, 3) := by decide +kernel
theorem dX10_take_172 : decode cX10_take 172 = .ok (.ireturn, 1) := by decide +kernel
theorem dX10_lettersAll_0 : decode cX10_lettersAll 0 = .ok (.iconst 0, 1) := by decide +kernel
theorem dX10_lettersAll_1 : decode cX10_lettersAll 1 = .ok (.istore_n 1, 1) := by decide +kernel
theorem dX10_lettersAll_2 : decode cX10_lettersAll 2 = .ok (.iconst 0, 1) := by decide +kernel
theorem dX10_lettersAll_3 : decode cX10_lettersAll 3 = .ok (.istore_n 2, 1) := by decide +kernel
theorem dX10_lettersAll_4 : decode cX10_lettersAll 4 = .ok (.iload_n 2, 1) := by decide +kernel
theorem dX10_lettersAll_5 : decode cX10_lettersAll 5 = .ok (.bipush 6, 2) := by decide +kernel
theorem dX10_lettersAll_7 : decode cX10_lettersAll 7 = .ok (.if_icmp .ge 31, 3) := by decide +kernel
theorem dX10_lettersAll_10 : decode cX10_lettersAll 10 = .ok (.iload_n 1, 1) := by decide +kernel
theorem dX10_lettersAll_11 : decode cX10_lettersAll 11 = .ok (.aload_n 0, 1) := by decide +kernel
theorem dX10_lettersAll_12 : decode cX10_lettersAll 12 = .ok (.getfield 16, 3) := by decide +kernel
theorem dX10_lettersAll_15 : decode cX10_lettersAll 15 = .ok (.iload_n 2, 1) := by decide +kernel
theorem dX10_lettersAll_16 : decode cX10_lettersAll 16 = .ok (.iaload, 1) := by decide +kernel
theorem dX10_lettersAll_17 : decode cX10_lettersAll 17 = .ok (.ifCond .le 12, 3) := by decide +kernel
theorem dX10_lettersAll_20 : decode cX10_lettersAll 20 = .ok (.aload_n 0, 1) := by decide +kernel
theorem dX10_lettersAll_21 : decode cX10_lettersAll 21 = .ok (.getfield 20, 3) := by decide +kernel
theorem dX10_lettersAll_24 : decode cX10_lettersAll 24 = .ok (.iload_n 2, 1) := by decide +kernel
theorem dX10_lettersAll_25 : decode cX10_lettersAll 25 = .ok (.iaload, 1) := by decide +kernel
theorem dX10_lettersAll_26 : decode cX10_lettersAll 26 = .ok (.goto 4, 3) := by decide +kernel
theorem dX10_lettersAll_29 : decode cX10_lettersAll 29 = .ok (.iconst 0, 1) := by decide +kernel
theorem dX10_lettersAll_30 : decode cX10_lettersAll 30 = .ok (.iadd, 1) := by decide +kernel
theorem dX10_lettersAll_31 : decode cX10_lettersAll 31 = .ok (.istore_n 1, 1) := by decide +kernel
theorem dX10_lettersAll_32 : decode cX10_lettersAll 32 = .ok (.iinc 2 1, 3) := by decide +kernel
theorem dX10_lettersAll_35 : decode cX10_lettersAll 35 = .ok (.goto (-31), 3) := by decide +kernel
theorem dX10_lettersAll_38 : decode cX10_lettersAll 38 = .ok (.iload_n 1, 1) := by decide +kernel
theorem dX10_lettersAll_39 : decode cX10_lettersAll 39 = .ok (.ireturn, 1) := by decide +kernel
theorem dX10_many_0 : decode cX10_many 0 = .ok (.iconst 0, 1) := by decide +kernel
theorem dX10_many_1 : decode cX10_many 1 = .ok (.istore_n 2, 1) := by decide +kernel
theorem dX10_many_2 : decode cX10_many 2 = .ok (.iconst 0, 1) := by decide +kernel
theorem dX10_many_3 : decode cX10_many 3 = .ok (.istore_n 3, 1) := by decide +kernel
theorem dX10_many_4 : decode cX10_many 4 = .ok (.iload_n 3, 1) := by decide +kernel
theorem dX10_many_5 : decode cX10_many 5 = .ok (.bipush 6, 2) := by decide +kernel
theorem dX10_many_7 : decode cX10_many 7 = .ok (.if_icmp .ge 28, 3) := by decide +kernel
theorem dX10_many_10 : decode cX10_many 10 = .ok (.iload_n 2, 1) := by decide +kernel
theorem dX10_many_11 : decode cX10_many 11 = .ok (.aload_n 0, 1) := by decide +kernel
theorem dX10_many_12 : decode cX10_many 12 = .ok (.getfield 16, 3) := by decide +kernel
theorem dX10_many_15 : decode cX10_many 15 = .ok (.iload_n 3, 1) := by decide +kernel
theorem dX10_many_16 : decode cX10_many 16 = .ok (.iaload, 1) := by decide +kernel
theorem dX10_many_17 : decode cX10_many 17 = .ok (.ifCond .le 9, 3) := by decide +kernel
