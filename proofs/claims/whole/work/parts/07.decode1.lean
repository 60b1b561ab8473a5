theorem dX0_init_0 : decode cX0_init 0 = .ok (.aload_n 0, 1) := by decide +kernel
theorem dX0_init_1 : decode cX0_init 1 = .ok (.invokespecial 3, 3) := by decide +kernel
theorem dX0_init_4 : decode cX0_init 4 = .ok (.aload_n 0, 1) := by decide +kernel
theorem dX0_init_5 : decode cX0_init 5 = .ok (.iconst 3, 1) := by decide +kernel
theorem dX0_init_6 : decode cX0_init 6 = .ok (.putfield 9, 3) := by decide +kernel
theorem dX0_init_9 : decode cX0_init 9 = .ok (.aload_n 0, 1) := by decide +kernel
theorem dX0_init_10 : decode cX0_init 10 = .ok (.sipush 245, 3) := by decide +kernel
theorem dX0_init_13 : decode cX0_init 13 = .ok (.newarray .long, 2) := by decide +kernel
theorem dX0_init_15 : decode cX0_init 15 = .ok (.putfield 15, 3) := by decide +kernel
theorem dX0_init_18 : decode cX0_init 18 = .ok (.aload_n 0, 1) := by decide +kernel
theorem dX0_init_19 : decode cX0_init 19 = .ok (.sipush 512, 3) := by decide +kernel
theorem dX0_init_22 : decode cX0_init 22 = .ok (.newarray .int, 2) := by decide +kernel
theorem dX0_init_24 : decode cX0_init 24 = .ok (.putfield 19, 3) := by decide +kernel
theorem dX0_init_27 : decode cX0_init 27 = .ok (.aload_n 0, 1) := by decide +kernel
theorem dX0_init_28 : decode cX0_init 28 = .ok (.new 23, 3) := by decide +kernel
theorem dX0_init_31 : decode cX0_init 31 = .ok (.dup, 1) := by decide +kernel
theorem dX0_init_32 : decode cX0_init 32 = .ok (.invokespecial 25, 3) := by decide +kernel
theorem dX0_init_35 : decode cX0_init 35 = .ok (.putfield 26, 3) := by decide +kernel
theorem dX0_init_38 : decode cX0_init 38 = .ok (.aload_n 0, 1) := by decide +kernel
theorem dX0_init_39 : decode cX0_init 39 = .ok (.new 23, 3) := by decide +kernel
theorem dX0_init_42 : decode cX0_init 42 = .ok (.dup, 1) := by decide +kernel
theorem dX0_init_43 : decode cX0_init 43 = .ok (.invokespecial 25, 3) := by decide +kernel
theorem dX0_init_46 : decode cX0_init 46 = .ok (.putfield 30, 3) := by decide +kernel
theorem dX0_init_49 : decode cX0_init 49 = .ok (.return_, 1) := by decide +kernel
theorem dX0_gather_0 : decode cX0_gather 0 = .ok (.aload_n 0, 1) := by decide +kernel
theorem dX0_gather_1 : decode cX0_gather 1 = .ok (.getfield 33, 3) := by decide +kernel
theorem dX0_gather_4 : decode cX0_gather 4 = .ok (.ifCond .le 35, 3) := by decide +kernel
theorem dX0_gather_7 : decode cX0_gather 7 = .ok (.aload_n 0, 1) := by decide +kernel
theorem dX0_gather_8 : decode cX0_gather 8 = .ok (.getfield 9, 3) := by decide +kernel
theorem dX0_gather_11 : decode cX0_gather 11 = .ok (.iload_n 2, 1) := by decide +kernel
theorem dX0_gather_12 : decode cX0_gather 12 = .ok (.if_icmp .ne 27, 3) := by decide +kernel
theorem dX0_gather_15 : decode cX0_gather 15 = .ok (.aload_n 0, 1) := by decide +kernel
theorem dX0_gather_16 : decode cX0_gather 16 = .ok (.getfield 36, 3) := by decide +kernel
theorem dX0_gather_19 : decode cX0_gather 19 = .ok (.aload_n 1, 1) := by decide +kernel
theorem dX0_gather_20 : decode cX0_gather 20 = .ok (.getfield 39, 3) := by decide +kernel
theorem dX0_gather_23 : decode cX0_gather 23 = .ok (.if_icmp .ne 16, 3) := by decide +kernel
theorem dX0_gather_26 : decode cX0_gather 26 = .ok (.aload_n 0, 1) := by decide +kernel
theorem dX0_gather_27 : decode cX0_gather 27 = .ok (.aload_n 0, 1) := by decide +kernel
theorem dX0_gather_28 : decode cX0_gather 28 = .ok (.aload_n 1, 1) := by decide +kernel
theorem dX0_gather_29 : decode cX0_gather 29 = .ok (.invokevirtual 40, 3) := by decide +kernel
theorem dX0_gather_32 : decode cX0_gather 32 = .ok (.invokevirtual 44, 3) := by decide +kernel
theorem dX0_gather_35 : decode cX0_gather 35 = .ok (.ifCond .eq 4, 3) := by decide +kernel
theorem dX0_gather_38 : decode cX0_gather 38 = .ok (.return_, 1) := by decide +kernel
theorem dX0_gather_39 : decode cX0_gather 39 = .ok (.aload_n 0, 1) := by decide +kernel
theorem dX0_gather_40 : decode cX0_gather 40 = .ok (.iload_n 2, 1) := by decide +kernel
theorem dX0_gather_41 : decode cX0_gather 41 = .ok (.putfield 9, 3) := by decide +kernel
theorem dX0_gather_44 : decode cX0_gather 44 = .ok (.aload_n 0, 1) := by decide +kernel
theorem dX0_gather_45 : decode cX0_gather 45 = .ok (.aload_n 1, 1) := by decide +kernel
theorem dX0_gather_46 : decode cX0_gather 46 = .ok (.getfield 39, 3) := by decide +kernel
theorem dX0_gather_49 : decode cX0_gather 49 = .ok (.putfield 36, 3) := by decide +kernel
theorem dX0_gather_52 : decode cX0_gather 52 = .ok (.aload_n 0, 1) := by decide +kernel
theorem dX0_gather_53 : decode cX0_gather 53 = .ok (.iconst 0, 1) := by decide +kernel
theorem dX0_gather_54 : decode cX0_gather 54 = .ok (.putfield 33, 3) := by decide +kernel
theorem dX0_gather_57 : decode cX0_gather 57 = .ok (.aload_n 0, 1) := by decide +kernel
theorem dX0_gather_58 : decode cX0_gather 58 = .ok (.getfield 15, 3) := by decide +kernel
theorem dX0_gather_61 : decode cX0_gather 61 = .ok (.lconst 0, 1) := by decide +kernel
theorem dX0_gather_62 : decode cX0_gather 62 = .ok (.invokestatic 48, 3) := by decide +kernel
theorem dX0_gather_65 : decode cX0_gather 65 = .ok (.aload_n 0, 1) := by decide +kernel
theorem dX0_gather_66 : decode cX0_gather 66 = .ok (.getfield 30, 3) := by decide +kernel
theorem dX0_gather_69 : decode cX0_gather 69 = .ok (.aload_n 1, 1) := by decide +kernel
theorem dX0_gather_70 : decode cX0_gather 70 = .ok (.invokevirtual 54, 3) := by decide +kernel
theorem dX0_gather_73 : decode cX0_gather 73 = .ok (.aload_n 3, 1) := by decide +kernel
theorem dX0_gather_74 : decode cX0_gather 74 = .ok (.aload_n 0, 1) := by decide +kernel
theorem dX0_gather_75 : decode cX0_gather 75 = .ok (.getfield 30, 3) := by decide +kernel
theorem dX0_gather_78 : decode cX0_gather 78 = .ok (.iload_n 2, 1) := by decide +kernel
theorem dX0_gather_79 : decode cX0_gather 79 = .ok (.invokevirtual 58, 3) := by decide +kernel
theorem dX0_gather_82 : decode cX0_gather 82 = .ok (.pop, 1) := by decide +kernel
theorem dX0_gather_83 : decode cX0_gather 83 = .ok (.aload_n 0, 1) := by decide +kernel
theorem dX0_gather_84 : decode cX0_gather 84 = .ok (.aload_n 0, 1) := by decide +kernel
theorem dX0_gather_85 : decode cX0_gather 85 = .ok (.aload_n 0, 1) := by decide +kernel
theorem dX0_gather_86 : decode cX0_gather 86 = .ok (.getfield 30, 3) := by decide +kernel
theorem dX0_gather_89 : decode cX0_gather 89 = .ok (.invokevirtual 40, 3) := by decide +kernel
theorem dX0_gather_92 : decode cX0_gather 92 = .ok (.invokevirtual 64, 3) := by decide +kernel
theorem dX0_gather_95 : decode cX0_gather 95 = .ok (.iconst 0, 1) := by decide +kernel
theorem dX0_gather_96 : decode cX0_gather 96 = .ok (.istore 4, 2) := by decide +kernel
theorem dX0_gather_98 : decode cX0_gather 98 = .ok (.iload 4, 2) := by decide +kernel
theorem dX0_gather_100 : decode cX0_gather 100 = .ok (.aload_n 0, 1) := by decide +kernel
theorem dX0_gather_101 : decode cX0_gather 101 = .ok (.getfield 33, 3) := by decide +kernel
theorem dX0_gather_104 : decode cX0_gather 104 = .ok (.if_icmp .ge 33, 3) := by decide +kernel
theorem dX0_gather_107 : decode cX0_gather 107 = .ok (.iload 4, 2) := by decide +kernel
theorem dX0_gather_109 : decode cX0_gather 109 = .ok (.sipush 512, 3) := by decide +kernel
theorem dX0_gather_112 : decode cX0_gather 112 = .ok (.if_icmp .ge 25, 3) := by decide +kernel
theorem dX0_gather_115 : decode cX0_gather 115 = .ok (.aload_n 0, 1) := by decide +kernel
theorem dX0_gather_116 : decode cX0_gather 116 = .ok (.aload_n 0, 1) := by decide +kernel
theorem dX0_gather_117 : decode cX0_gather 117 = .ok (.getfield 19, 3) := by decide +kernel
theorem dX0_gather_120 : decode cX0_gather 120 = .ok (.iload 4, 2) := by decide +kernel
theorem dX0_gather_122 : decode cX0_gather 122 = .ok (.iaload, 1) := by decide +kernel
theorem dX0_gather_123 : decode cX0_gather 123 = .ok (.invokevirtual 68, 3) := by decide +kernel
theorem dX0_gather_126 : decode cX0_gather 126 = .ok (.aload_n 0, 1) := by decide +kernel
theorem dX0_gather_127 : decode cX0_gather 127 = .ok (.aload_n 3, 1) := by decide +kernel
theorem dX0_gather_128 : decode cX0_gather 128 = .ok (.invokevirtual 71, 3) := by decide +kernel
theorem dX0_gather_131 : decode cX0_gather 131 = .ok (.iinc 4 1, 3) := by decide +kernel
theorem dX0_gather_134 : decode cX0_gather 134 = .ok (.goto (-36), 3) := by decide +kernel
theorem dX0_gather_137 : decode cX0_gather 137 = .ok (.return_, 1) := by decide +kernel
theorem dX0_admitLowered_0 : decode cX0_admitLowered 0 = .ok (.iconst 1, 1) := by decide +kernel
theorem dX0_admitLowered_1 : decode cX0_admitLowered 1 = .ok (.istore_n 2, 1) := by decide +kernel
theorem dX0_admitLowered_2 : decode cX0_admitLowered 2 = .ok (.iload_n 2, 1) := by decide +kernel
theorem dX0_admitLowered_3 : decode cX0_admitLowered 3 = .ok (.aload_n 0, 1) := by decide +kernel
theorem dX0_admitLowered_4 : decode cX0_admitLowered 4 = .ok (.getfield 9, 3) := by decide +kernel
theorem dX0_admitLowered_7 : decode cX0_admitLowered 7 = .ok (.if_icmp .ge 44, 3) := by decide +kernel
theorem dX0_admitLowered_10 : decode cX0_admitLowered 10 = .ok (.aload_n 0, 1) := by decide +kernel
theorem dX0_admitLowered_11 : decode cX0_admitLowered 11 = .ok (.getfield 30, 3) := by decide +kernel
theorem dX0_admitLowered_14 : decode cX0_admitLowered 14 = .ok (.aload_n 0, 1) := by decide +kernel
theorem dX0_admitLowered_15 : decode cX0_admitLowered 15 = .ok (.getfield 26, 3) := by decide +kernel
theorem dX0_admitLowered_18 : decode cX0_admitLowered 18 = .ok (.invokevirtual 54, 3) := by decide +kernel
theorem dX0_admitLowered_21 : decode cX0_admitLowered 21 = .ok (.aload_n 1, 1) := by decide +kernel
theorem dX0_admitLowered_22 : decode cX0_admitLowered 22 = .ok (.aload_n 0, 1) := by decide +kernel
theorem dX0_admitLowered_23 : decode cX0_admitLowered 23 = .ok (.getfield 30, 3) := by decide +kernel
theorem dX0_admitLowered_26 : decode cX0_admitLowered 26 = .ok (.iload_n 2, 1) := by decide +kernel
theorem dX0_admitLowered_27 : decode cX0_admitLowered 27 = .ok (.invokevirtual 75, 3) := by decide +kernel
theorem dX0_admitLowered_30 : decode cX0_admitLowered 30 = .ok (.ifCond .eq 15, 3) := by decide +kernel
theorem dX0_admitLowered_33 : decode cX0_admitLowered 33 = .ok (.aload_n 0, 1) := by decide +kernel
theorem dX0_admitLowered_34 : decode cX0_admitLowered 34 = .ok (.aload_n 0, 1) := by decide +kernel
theorem dX0_admitLowered_35 : decode cX0_admitLowered 35 = .ok (.aload_n 0, 1) := by decide +kernel
theorem dX0_admitLowered_36 : decode cX0_admitLowered 36 = .ok (.getfield 30, 3) := by decide +kernel
theorem dX0_admitLowered_39 : decode cX0_admitLowered 39 = .ok (.invokevirtual 40, 3) := by decide +kernel
theorem dX0_admitLowered_42 : decode cX0_admitLowered 42 = .ok (.invokevirtual 64, 3) := by decide +kernel
theorem dX0_admitLowered_45 : decode cX0_admitLowered 45 = .ok (.iinc 2 1, 3) := by decide +kernel
theorem dX0_admitLowered_48 : decode cX0_admitLowered 48 = .ok (.goto (-46), 3) := by decide +kernel
theorem dX0_admitLowered_51 : decode cX0_admitLowered 51 = .ok (.return_, 1) := by decide +kernel
theorem dX0_admit_0 : decode cX0_admit 0 = .ok (.aload_n 0, 1) := by decide +kernel
theorem dX0_admit_1 : decode cX0_admit 1 = .ok (.iload_n 1, 1) := by decide +kernel
theorem dX0_admit_2 : decode cX0_admit 2 = .ok (.invokevirtual 44, 3) := by decide +kernel
theorem dX0_admit_5 : decode cX0_admit 5 = .ok (.ifCond .ne 13, 3) := by decide +kernel
theorem dX0_admit_8 : decode cX0_admit 8 = .ok (.aload_n 0, 1) := by decide +kernel
theorem dX0_admit_9 : decode cX0_admit 9 = .ok (.getfield 33, 3) := by decide +kernel
theorem dX0_admit_12 : decode cX0_admit 12 = .ok (.sipush 512, 3) := by decide +kernel
theorem dX0_admit_15 : decode cX0_admit 15 = .ok (.if_icmp .lt 4, 3) := by decide +kernel
theorem dX0_admit_18 : decode cX0_admit 18 = .ok (.return_, 1) := by decide +kernel
theorem dX0_admit_19 : decode cX0_admit 19 = .ok (.aload_n 0, 1) := by decide +kernel
theorem dX0_admit_20 : decode cX0_admit 20 = .ok (.getfield 15, 3) := by decide +kernel
theorem dX0_admit_23 : decode cX0_admit 23 = .ok (.iload_n 1, 1) := by decide +kernel
theorem dX0_admit_24 : decode cX0_admit 24 = .ok (.bipush 6, 2) := by decide +kernel
theorem dX0_admit_26 : decode cX0_admit 26 = .ok (.ishr, 1) := by decide +kernel
theorem dX0_admit_27 : decode cX0_admit 27 = .ok (.dup2, 1) := by decide +kernel
theorem dX0_admit_28 : decode cX0_admit 28 = .ok (.laload, 1) := by decide +kernel
theorem dX0_admit_29 : decode cX0_admit 29 = .ok (.lconst 1, 1) := by decide +kernel
theorem dX0_admit_30 : decode cX0_admit 30 = .ok (.iload_n 1, 1) := by decide +kernel
theorem dX0_admit_31 : decode cX0_admit 31 = .ok (.bipush 63, 2) := by decide +kernel
theorem dX0_admit_33 : decode cX0_admit 33 = .ok (.iand, 1) := by decide +kernel
theorem dX0_admit_34 : decode cX0_admit 34 = .ok (.lshl, 1) := by decide +kernel
theorem dX0_admit_35 : decode cX0_admit 35 = .ok (.lor, 1) := by decide +kernel
theorem dX0_admit_36 : decode cX0_admit 36 = .ok (.lastore, 1) := by decide +kernel
theorem dX0_admit_37 : decode cX0_admit 37 = .ok (.aload_n 0, 1) := by decide +kernel
theorem dX0_admit_38 : decode cX0_admit 38 = .ok (.getfield 19, 3) := by decide +kernel
theorem dX0_admit_41 : decode cX0_admit 41 = .ok (.aload_n 0, 1) := by decide +kernel
theorem dX0_admit_42 : decode cX0_admit 42 = .ok (.getfield 33, 3) := by decide +kernel
theorem dX0_admit_45 : decode cX0_admit 45 = .ok (.iload_n 1, 1) := by decide +kernel
theorem dX0_admit_46 : decode cX0_admit 46 = .ok (.iastore, 1) := by decide +kernel
theorem dX0_admit_47 : decode cX0_admit 47 = .ok (.aload_n 0, 1) := by decide +kernel
theorem dX0_admit_48 : decode cX0_admit 48 = .ok (.dup, 1) := by decide +kernel
theorem dX0_admit_49 : decode cX0_admit 49 = .ok (.getfield 33, 3) := by decide +kernel
theorem dX0_admit_52 : decode cX0_admit 52 = .ok (.iconst 1, 1) := by decide +kernel
theorem dX0_admit_53 : decode cX0_admit 53 = .ok (.iadd, 1) := by decide +kernel
theorem dX0_admit_54 : decode cX0_admit 54 = .ok (.putfield 33, 3) := by decide +kernel
theorem dX0_admit_57 : decode cX0_admit 57 = .ok (.return_, 1) := by decide +kernel
theorem dX0_isMarked_0 : decode cX0_isMarked 0 = .ok (.aload_n 0, 1) := by decide +kernel
theorem dX0_isMarked_1 : decode cX0_isMarked 1 = .ok (.getfield 15, 3) := by decide +kernel
theorem dX0_isMarked_4 : decode cX0_isMarked 4 = .ok (.iload_n 1, 1) := by decide +kernel
theorem dX0_isMarked_5 : decode cX0_isMarked 5 = .ok (.bipush 6, 2) := by decide +kernel
theorem dX0_isMarked_7 : decode cX0_isMarked 7 = .ok (.ishr, 1) := by decide +kernel
theorem dX0_isMarked_8 : decode cX0_isMarked 8 = .ok (.laload, 1) := by decide +kernel
theorem dX0_isMarked_9 : decode cX0_isMarked 9 = .ok (.iload_n 1, 1) := by decide +kernel
theorem dX0_isMarked_10 : decode cX0_isMarked 10 = .ok (.bipush 63, 2) := by decide +kernel
theorem dX0_isMarked_12 : decode cX0_isMarked 12 = .ok (.iand, 1) := by decide +kernel
theorem dX0_isMarked_13 : decode cX0_isMarked 13 = .ok (.lushr, 1) := by decide +kernel
theorem dX0_isMarked_14 : decode cX0_isMarked 14 = .ok (.lconst 1, 1) := by decide +kernel
theorem dX0_isMarked_15 : decode cX0_isMarked 15 = .ok (.land, 1) := by decide +kernel
theorem dX0_isMarked_16 : decode cX0_isMarked 16 = .ok (.lconst 0, 1) := by decide +kernel
theorem dX0_isMarked_17 : decode cX0_isMarked 17 = .ok (.lcmp, 1) := by decide +kernel
theorem dX0_isMarked_18 : decode cX0_isMarked 18 = .ok (.ifCond .eq 7, 3) := by decide +kernel
theorem dX0_isMarked_21 : decode cX0_isMarked 21 = .ok (.iconst 1, 1) := by decide +kernel
theorem dX0_isMarked_22 : decode cX0_isMarked 22 = .ok (.goto 4, 3) := by decide +kernel
theorem dX0_isMarked_25 : decode cX0_isMarked 25 = .ok (.iconst 0, 1) := by decide +kernel
theorem dX0_isMarked_26 : decode cX0_isMarked 26 = .ok (.ireturn, 1) := by decide +kernel
theorem dX0_codeOf_0 : decode cX0_codeOf 0 = .ok (.iconst 0, 1) := by decide +kernel
theorem dX0_codeOf_1 : decode cX0_codeOf 1 = .ok (.istore_n 2, 1) := by decide +kernel
theorem dX0_codeOf_2 : decode cX0_codeOf 2 = .ok (.iconst 0, 1) := by decide +kernel
theorem dX0_codeOf_3 : decode cX0_codeOf 3 = .ok (.istore_n 3, 1) := by decide +kernel
theorem dX0_codeOf_4 : decode cX0_codeOf 4 = .ok (.iload_n 3, 1) := by decide +kernel
theorem dX0_codeOf_5 : decode cX0_codeOf 5 = .ok (.aload_n 1, 1) := by decide +kernel
theorem dX0_codeOf_6 : decode cX0_codeOf 6 = .ok (.getfield 39, 3) := by decide +kernel
theorem dX0_codeOf_9 : decode cX0_codeOf 9 = .ok (.if_icmp .ge 25, 3) := by decide +kernel
theorem dX0_codeOf_12 : decode cX0_codeOf 12 = .ok (.iload_n 2, 1) := by decide +kernel
theorem dX0_codeOf_13 : decode cX0_codeOf 13 = .ok (.aload_n 0, 1) := by decide +kernel
theorem dX0_codeOf_14 : decode cX0_codeOf 14 = .ok (.getfield 9, 3) := by decide +kernel
theorem dX0_codeOf_17 : decode cX0_codeOf 17 = .ok (.imul, 1) := by decide +kernel
theorem dX0_codeOf_18 : decode cX0_codeOf 18 = .ok (.aload_n 1, 1) := by decide +kernel
theorem dX0_codeOf_19 : decode cX0_codeOf 19 = .ok (.getfield 79, 3) := by decide +kernel
theorem dX0_codeOf_22 : decode cX0_codeOf 22 = .ok (.iload_n 3, 1) := by decide +kernel
theorem dX0_codeOf_23 : decode cX0_codeOf 23 = .ok (.iaload, 1) := by decide +kernel
theorem dX0_codeOf_24 : decode cX0_codeOf 24 = .ok (.iadd, 1) := by decide +kernel
theorem dX0_codeOf_25 : decode cX0_codeOf 25 = .ok (.iconst 1, 1) := by decide +kernel
theorem dX0_codeOf_26 : decode cX0_codeOf 26 = .ok (.isub, 1) := by decide +kernel
theorem dX0_codeOf_27 : decode cX0_codeOf 27 = .ok (.istore_n 2, 1) := by decide +kernel
theorem dX0_codeOf_28 : decode cX0_codeOf 28 = .ok (.iinc 3 1, 3) := by decide +kernel
theorem dX0_codeOf_31 : decode cX0_codeOf 31 = .ok (.goto (-27), 3) := by decide +kernel
theorem dX0_codeOf_34 : decode cX0_codeOf 34 = .ok (.iload_n 2, 1) := by decide +kernel
theorem dX0_codeOf_35 : decode cX0_codeOf 35 = .ok (.ireturn, 1) := by decide +kernel
theorem dX0_readCode_0 : decode cX0_readCode 0 = .ok (.aload_n 0, 1) := by decide +kernel
theorem dX0_readCode_1 : decode cX0_readCode 1 = .ok (.getfield 26, 3) := by decide +kernel
theorem dX0_readCode_4 : decode cX0_readCode 4 = .ok (.aload_n 0, 1) := by decide +kernel
theorem dX0_readCode_5 : decode cX0_readCode 5 = .ok (.getfield 36, 3) := by decide +kernel
theorem dX0_readCode_8 : decode cX0_readCode 8 = .ok (.invokevirtual 82, 3) := by decide +kernel
theorem dX0_readCode_11 : decode cX0_readCode 11 = .ok (.iload_n 1, 1) := by decide +kernel
theorem dX0_readCode_12 : decode cX0_readCode 12 = .ok (.istore_n 2, 1) := by decide +kernel
theorem dX0_readCode_13 : decode cX0_readCode 13 = .ok (.aload_n 0, 1) := by decide +kernel
theorem dX0_readCode_14 : decode cX0_readCode 14 = .ok (.getfield 36, 3) := by decide +kernel
theorem dX0_readCode_17 : decode cX0_readCode 17 = .ok (.iconst 1, 1) := by decide +kernel
theorem dX0_readCode_18 : decode cX0_readCode 18 = .ok (.isub, 1) := by decide +kernel
theorem dX0_readCode_19 : decode cX0_readCode 19 = .ok (.istore_n 3, 1) := by decide +kernel
theorem dX0_readCode_20 : decode cX0_readCode 20 = .ok (.iload_n 3, 1) := by decide +kernel
theorem dX0_readCode_21 : decode cX0_readCode 21 = .ok (.ifCond .lt 33, 3) := by decide +kernel
theorem dX0_readCode_24 : decode cX0_readCode 24 = .ok (.aload_n 0, 1) := by decide +kernel
theorem dX0_readCode_25 : decode cX0_readCode 25 = .ok (.getfield 26, 3) := by decide +kernel
theorem dX0_readCode_28 : decode cX0_readCode 28 = .ok (.getfield 79, 3) := by decide +kernel
theorem dX0_readCode_31 : decode cX0_readCode 31 = .ok (.iload_n 3, 1) := by decide +kernel
theorem dX0_readCode_32 : decode cX0_readCode 32 = .ok (.iconst 1, 1) := by decide +kernel
theorem dX0_readCode_33 : decode cX0_readCode 33 = .ok (.iload_n 2, 1) := by decide +kernel
theorem dX0_readCode_34 : decode cX0_readCode 34 = .ok (.aload_n 0, 1) := by decide +kernel
theorem dX0_readCode_35 : decode cX0_readCode 35 = .ok (.getfield 9, 3) := by decide +kernel
theorem dX0_readCode_38 : decode cX0_readCode 38 = .ok (.irem, 1) := by decide +kernel
theorem dX0_readCode_39 : decode cX0_readCode 39 = .ok (.iadd, 1) := by decide +kernel
theorem dX0_readCode_40 : decode cX0_readCode 40 = .ok (.iastore, 1) := by decide +kernel
theorem dX0_readCode_41 : decode cX0_readCode 41 = .ok (.iload_n 2, 1) := by decide +kernel
theorem dX0_readCode_42 : decode cX0_readCode 42 = .ok (.aload_n 0, 1) := by decide +kernel
theorem dX0_readCode_43 : decode cX0_readCode 43 = .ok (.getfield 9, 3) := by decide +kernel
theorem dX0_readCode_46 : decode cX0_readCode 46 = .ok (.idiv, 1) := by decide +kernel
theorem dX0_readCode_47 : decode cX0_readCode 47 = .ok (.istore_n 2, 1) := by decide +kernel
theorem dX0_readCode_48 : decode cX0_readCode 48 = .ok (.iinc 3 (-1), 3) := by decide +kernel
theorem dX0_readCode_51 : decode cX0_readCode 51 = .ok (.goto (-31), 3) := by decide +kernel
theorem dX0_readCode_54 : decode cX0_readCode 54 = .ok (.return_, 1) := by decide +kernel
theorem dX0_placeOf_0 : decode cX0_placeOf 0 = .ok (.aload_n 0, 1) := by decide +kernel
theorem dX0_placeOf_1 : decode cX0_placeOf 1 = .ok (.aload_n 1, 1) := by decide +kernel
theorem dX0_placeOf_2 : decode cX0_placeOf 2 = .ok (.invokevirtual 40, 3) := by decide +kernel
theorem dX0_placeOf_5 : decode cX0_placeOf 5 = .ok (.istore_n 2, 1) := by decide +kernel
theorem dX0_placeOf_6 : decode cX0_placeOf 6 = .ok (.iconst 0, 1) := by decide +kernel
theorem dX0_placeOf_7 : decode cX0_placeOf 7 = .ok (.istore_n 3, 1) := by decide +kernel
theorem dX0_placeOf_8 : decode cX0_placeOf 8 = .ok (.iconst 0, 1) := by decide +kernel
theorem dX0_placeOf_9 : decode cX0_placeOf 9 = .ok (.istore 4, 2) := by decide +kernel
theorem dX0_placeOf_11 : decode cX0_placeOf 11 = .ok (.iload 4, 2) := by decide +kernel
theorem dX0_placeOf_13 : decode cX0_placeOf 13 = .ok (.iload_n 2, 1) := by decide +kernel
theorem dX0_placeOf_14 : decode cX0_placeOf 14 = .ok (.bipush 6, 2) := by decide +kernel
theorem dX0_placeOf_16 : decode cX0_placeOf 16 = .ok (.ishr, 1) := by decide +kernel
theorem dX0_placeOf_17 : decode cX0_placeOf 17 = .ok (.if_icmp .ge 22, 3) := by decide +kernel
theorem dX0_placeOf_20 : decode cX0_placeOf 20 = .ok (.iload_n 3, 1) := by decide +kernel
theorem dX0_placeOf_21 : decode cX0_placeOf 21 = .ok (.aload_n 0, 1) := by decide +kernel
theorem dX0_placeOf_22 : decode cX0_placeOf 22 = .ok (.getfield 15, 3) := by decide +kernel
theorem dX0_placeOf_25 : decode cX0_placeOf 25 = .ok (.iload 4, 2) := by decide +kernel
theorem dX0_placeOf_27 : decode cX0_placeOf 27 = .ok (.laload, 1) := by decide +kernel
theorem dX0_placeOf_28 : decode cX0_placeOf 28 = .ok (.invokestatic 85, 3) := by decide +kernel
theorem dX0_placeOf_31 : decode cX0_placeOf 31 = .ok (.iadd, 1) := by decide +kernel
theorem dX0_placeOf_32 : decode cX0_placeOf 32 = .ok (.istore_n 3, 1) := by decide +kernel
theorem dX0_placeOf_33 : decode cX0_placeOf 33 = .ok (.iinc 4 1, 3) := by decide +kernel
theorem dX0_placeOf_36 : decode cX0_placeOf 36 = .ok (.goto (-25), 3) := by decide +kernel
theorem dX0_placeOf_39 : decode cX0_placeOf 39 = .ok (.lconst 1, 1) := by decide +kernel
theorem dX0_placeOf_40 : decode cX0_placeOf 40 = .ok (.iload_n 2, 1) := by decide +kernel
theorem dX0_placeOf_41 : decode cX0_placeOf 41 = .ok (.bipush 63, 2) := by decide +kernel
theorem dX0_placeOf_43 : decode cX0_placeOf 43 = .ok (.iand, 1) := by decide +kernel
theorem dX0_placeOf_44 : decode cX0_placeOf 44 = .ok (.lshl, 1) := by decide +kernel
theorem dX0_placeOf_45 : decode cX0_placeOf 45 = .ok (.lconst 1, 1) := by decide +kernel
theorem dX0_placeOf_46 : decode cX0_placeOf 46 = .ok (.lsub, 1) := by decide +kernel
theorem dX0_placeOf_47 : decode cX0_placeOf 47 = .ok (.lstore 4, 2) := by decide +kernel
theorem dX0_placeOf_49 : decode cX0_placeOf 49 = .ok (.iload_n 3, 1) := by decide +kernel
theorem dX0_placeOf_50 : decode cX0_placeOf 50 = .ok (.aload_n 0, 1) := by decide +kernel
theorem dX0_placeOf_51 : decode cX0_placeOf 51 = .ok (.getfield 15, 3) := by decide +kernel
theorem dX0_placeOf_54 : decode cX0_placeOf 54 = .ok (.iload_n 2, 1) := by decide +kernel
theorem dX0_placeOf_55 : decode cX0_placeOf 55 = .ok (.bipush 6, 2) := by decide +kernel
theorem dX0_placeOf_57 : decode cX0_placeOf 57 = .ok (.ishr, 1) := by decide +kernel
theorem dX0_placeOf_58 : decode cX0_placeOf 58 = .ok (.laload, 1) := by decide +kernel
theorem dX0_placeOf_59 : decode cX0_placeOf 59 = .ok (.lload 4, 2) := by decide +kernel
theorem dX0_placeOf_61 : decode cX0_placeOf 61 = .ok (.land, 1) := by decide +kernel
theorem dX0_placeOf_62 : decode cX0_placeOf 62 = .ok (.invokestatic 85, 3) := by decide +kernel
theorem dX0_placeOf_65 : decode cX0_placeOf 65 = .ok (.iadd, 1) := by decide +kernel
theorem dX0_placeOf_66 : decode cX0_placeOf 66 = .ok (.ireturn, 1) := by decide +kernel
theorem dX0_numberOfMember_0 : decode cX0_numberOfMember 0 = .ok (.iconst 0, 1) := by decide +kernel
theorem dX0_numberOfMember_1 : decode cX0_numberOfMember 1 = .ok (.istore_n 2, 1) := by decide +kernel
theorem dX0_numberOfMember_2 : decode cX0_numberOfMember 2 = .ok (.iconst 0, 1) := by decide +kernel
theorem dX0_numberOfMember_3 : decode cX0_numberOfMember 3 = .ok (.istore_n 3, 1) := by decide +kernel
theorem dX0_numberOfMember_4 : decode cX0_numberOfMember 4 = .ok (.iload_n 3, 1) := by decide +kernel
theorem dX0_numberOfMember_5 : decode cX0_numberOfMember 5 = .ok (.sipush 245, 3) := by decide +kernel
theorem dX0_numberOfMember_8 : decode cX0_numberOfMember 8 = .ok (.if_icmp .ge 62, 3) := by decide +kernel
theorem dX0_numberOfMember_11 : decode cX0_numberOfMember 11 = .ok (.aload_n 0, 1) := by decide +kernel
theorem dX0_numberOfMember_12 : decode cX0_numberOfMember 12 = .ok (.getfield 15, 3) := by decide +kernel
theorem dX0_numberOfMember_15 : decode cX0_numberOfMember 15 = .ok (.iload_n 3, 1) := by decide +kernel
theorem dX0_numberOfMember_16 : decode cX0_numberOfMember 16 = .ok (.laload, 1) := by decide +kernel
theorem dX0_numberOfMember_17 : decode cX0_numberOfMember 17 = .ok (.invokestatic 85, 3) := by decide +kernel
theorem dX0_numberOfMember_20 : decode cX0_numberOfMember 20 = .ok (.istore 4, 2) := by decide +kernel
theorem dX0_numberOfMember_22 : decode cX0_numberOfMember 22 = .ok (.iload_n 2, 1) := by decide +kernel
theorem dX0_numberOfMember_23 : decode cX0_numberOfMember 23 = .ok (.iload 4, 2) := by decide +kernel
theorem dX0_numberOfMember_25 : decode cX0_numberOfMember 25 = .ok (.iadd, 1) := by decide +kernel
theorem dX0_numberOfMember_26 : decode cX0_numberOfMember 26 = .ok (.iload_n 1, 1) := by decide +kernel
theorem dX0_numberOfMember_27 : decode cX0_numberOfMember 27 = .ok (.if_icmp .le 32, 3) := by decide +kernel
theorem dX0_numberOfMember_30 : decode cX0_numberOfMember 30 = .ok (.aload_n 0, 1) := by decide +kernel
theorem dX0_numberOfMember_31 : decode cX0_numberOfMember 31 = .ok (.iload_n 3, 1) := by decide +kernel
theorem dX0_numberOfMember_32 : decode cX0_numberOfMember 32 = .ok (.bipush 6, 2) := by decide +kernel
theorem dX0_numberOfMember_34 : decode cX0_numberOfMember 34 = .ok (.ishl, 1) := by decide +kernel
theorem dX0_numberOfMember_35 : decode cX0_numberOfMember 35 = .ok (.aload_n 0, 1) := by decide +kernel
theorem dX0_numberOfMember_36 : decode cX0_numberOfMember 36 = .ok (.getfield 15, 3) := by decide +kernel
theorem dX0_numberOfMember_39 : decode cX0_numberOfMember 39 = .ok (.iload_n 3, 1) := by decide +kernel
theorem dX0_numberOfMember_40 : decode cX0_numberOfMember 40 = .ok (.laload, 1) := by decide +kernel
theorem dX0_numberOfMember_41 : decode cX0_numberOfMember 41 = .ok (.iload_n 1, 1) := by decide +kernel
theorem dX0_numberOfMember_42 : decode cX0_numberOfMember 42 = .ok (.iload_n 2, 1) := by decide +kernel
theorem dX0_numberOfMember_43 : decode cX0_numberOfMember 43 = .ok (.isub, 1) := by decide +kernel
theorem dX0_numberOfMember_44 : decode cX0_numberOfMember 44 = .ok (.invokestatic 91, 3) := by decide +kernel
theorem dX0_numberOfMember_47 : decode cX0_numberOfMember 47 = .ok (.iadd, 1) := by decide +kernel
theorem dX0_numberOfMember_48 : decode cX0_numberOfMember 48 = .ok (.invokevirtual 68, 3) := by decide +kernel
theorem dX0_numberOfMember_51 : decode cX0_numberOfMember 51 = .ok (.aload_n 0, 1) := by decide +kernel
theorem dX0_numberOfMember_52 : decode cX0_numberOfMember 52 = .ok (.getfield 26, 3) := by decide +kernel
theorem dX0_numberOfMember_55 : decode cX0_numberOfMember 55 = .ok (.invokevirtual 95, 3) := by decide +kernel
theorem dX0_numberOfMember_58 : decode cX0_numberOfMember 58 = .ok (.ireturn, 1) := by decide +kernel
theorem dX0_numberOfMember_59 : decode cX0_numberOfMember 59 = .ok (.iload_n 2, 1) := by decide +kernel
theorem dX0_numberOfMember_60 : decode cX0_numberOfMember 60 = .ok (.iload 4, 2) := by decide +kernel
theorem dX0_numberOfMember_62 : decode cX0_numberOfMember 62 = .ok (.iadd, 1) := by decide +kernel
theorem dX0_numberOfMember_63 : decode cX0_numberOfMember 63 = .ok (.istore_n 2, 1) := by decide +kernel
theorem dX0_numberOfMember_64 : decode cX0_numberOfMember 64 = .ok (.iinc 3 1, 3) := by decide +kernel
theorem dX0_numberOfMember_67 : decode cX0_numberOfMember 67 = .ok (.goto (-63), 3) := by decide +kernel
theorem dX0_numberOfMember_70 : decode cX0_numberOfMember 70 = .ok (.bipush (-3), 2) := by decide +kernel
theorem dX0_numberOfMember_72 : decode cX0_numberOfMember 72 = .ok (.ireturn, 1) := by decide +kernel
theorem dX0_bitOf_0 : decode cX0_bitOf 0 = .ok (.lload_n 0, 1) := by decide +kernel
theorem dX0_bitOf_1 : decode cX0_bitOf 1 = .ok (.lstore_n 3, 1) := by decide +kernel
theorem dX0_bitOf_2 : decode cX0_bitOf 2 = .ok (.iconst 0, 1) := by decide +kernel
theorem dX0_bitOf_3 : decode cX0_bitOf 3 = .ok (.istore 5, 2) := by decide +kernel
theorem dX0_bitOf_5 : decode cX0_bitOf 5 = .ok (.iload 5, 2) := by decide +kernel
theorem dX0_bitOf_7 : decode cX0_bitOf 7 = .ok (.iload_n 2, 1) := by decide +kernel
theorem dX0_bitOf_8 : decode cX0_bitOf 8 = .ok (.if_icmp .ge 15, 3) := by decide +kernel
theorem dX0_bitOf_11 : decode cX0_bitOf 11 = .ok (.lload_n 3, 1) := by decide +kernel
theorem dX0_bitOf_12 : decode cX0_bitOf 12 = .ok (.lload_n 3, 1) := by decide +kernel
theorem dX0_bitOf_13 : decode cX0_bitOf 13 = .ok (.lconst 1, 1) := by decide +kernel
theorem dX0_bitOf_14 : decode cX0_bitOf 14 = .ok (.lsub, 1) := by decide +kernel
theorem dX0_bitOf_15 : decode cX0_bitOf 15 = .ok (.land, 1) := by decide +kernel
theorem dX0_bitOf_16 : decode cX0_bitOf 16 = .ok (.lstore_n 3, 1) := by decide +kernel
theorem dX0_bitOf_17 : decode cX0_bitOf 17 = .ok (.iinc 5 1, 3) := by decide +kernel
theorem dX0_bitOf_20 : decode cX0_bitOf 20 = .ok (.goto (-15), 3) := by decide +kernel
theorem dX0_bitOf_23 : decode cX0_bitOf 23 = .ok (.lload_n 3, 1) := by decide +kernel
theorem dX0_bitOf_24 : decode cX0_bitOf 24 = .ok (.invokestatic 99, 3) := by decide +kernel
theorem dX0_bitOf_27 : decode cX0_bitOf 27 = .ok (.ireturn, 1) := by decide +kernel
theorem dX1_init_0 : decode cX1_init 0 = .ok (.aload_n 0, 1) := by decide +kernel
theorem dX1_init_1 : decode cX1_init 1 = .ok (.invokespecial 3, 3) := by decide +kernel
theorem dX1_init_4 : decode cX1_init 4 = .ok (.aload_n 0, 1) := by decide +kernel
theorem dX1_init_5 : decode cX1_init 5 = .ok (.bipush 6, 2) := by decide +kernel
theorem dX1_init_7 : decode cX1_init 7 = .ok (.newarray .int, 2) := by decide +kernel
theorem dX1_init_9 : decode cX1_init 9 = .ok (.putfield 9, 3) := by decide +kernel
theorem dX1_init_12 : decode cX1_init 12 = .ok (.aload_n 0, 1) := by decide +kernel
theorem dX1_init_13 : decode cX1_init 13 = .ok (.bipush 6, 2) := by decide +kernel
theorem dX1_init_15 : decode cX1_init 15 = .ok (.newarray .int, 2) := by decide +kernel
theorem dX1_init_17 : decode cX1_init 17 = .ok (.putfield 15, 3) := by decide +kernel
theorem dX1_init_20 : decode cX1_init 20 = .ok (.aload_n 0, 1) := by decide +kernel
theorem dX1_init_21 : decode cX1_init 21 = .ok (.bipush 6, 2) := by decide +kernel
theorem dX1_init_23 : decode cX1_init 23 = .ok (.newarray .int, 2) := by decide +kernel
theorem dX1_init_25 : decode cX1_init 25 = .ok (.putfield 18, 3) := by decide +kernel
theorem dX1_init_28 : decode cX1_init 28 = .ok (.aload_n 0, 1) := by decide +kernel
theorem dX1_init_29 : decode cX1_init 29 = .ok (.new 21, 3) := by decide +kernel
theorem dX1_init_32 : decode cX1_init 32 = .ok (.dup, 1) := by decide +kernel
theorem dX1_init_33 : decode cX1_init 33 = .ok (.invokespecial 23, 3) := by decide +kernel
theorem dX1_init_36 : decode cX1_init 36 = .ok (.putfield 24, 3) := by decide +kernel
theorem dX1_init_39 : decode cX1_init 39 = .ok (.return_, 1) := by decide +kernel
theorem dX1_allowAny_0 : decode cX1_allowAny 0 = .ok (.aload_n 0, 1) := by decide +kernel
theorem dX1_allowAny_1 : decode cX1_allowAny 1 = .ok (.getfield 9, 3) := by decide +kernel
theorem dX1_allowAny_4 : decode cX1_allowAny 4 = .ok (.bipush 6, 2) := by decide +kernel
theorem dX1_allowAny_6 : decode cX1_allowAny 6 = .ok (.invokestatic 28, 3) := by decide +kernel
theorem dX1_allowAny_9 : decode cX1_allowAny 9 = .ok (.return_, 1) := by decide +kernel
theorem dX1_allowContent_0 : decode cX1_allowContent 0 = .ok (.iload_n 1, 1) := by decide +kernel
theorem dX1_allowContent_1 : decode cX1_allowContent 1 = .ok (.ifCond .lt 11, 3) := by decide +kernel
theorem dX1_allowContent_4 : decode cX1_allowContent 4 = .ok (.iload_n 1, 1) := by decide +kernel
theorem dX1_allowContent_5 : decode cX1_allowContent 5 = .ok (.invokestatic 34, 3) := by decide +kernel
theorem dX1_allowContent_8 : decode cX1_allowContent 8 = .ok (.iload_n 2, 1) := by decide +kernel
theorem dX1_allowContent_9 : decode cX1_allowContent 9 = .ok (.if_icmp .le 5, 3) := by decide +kernel
theorem dX1_allowContent_12 : decode cX1_allowContent 12 = .ok (.iconst 0, 1) := by decide +kernel
theorem dX1_allowContent_13 : decode cX1_allowContent 13 = .ok (.ireturn, 1) := by decide +kernel
theorem dX1_allowContent_14 : decode cX1_allowContent 14 = .ok (.iload_n 1, 1) := by decide +kernel
theorem dX1_allowContent_15 : decode cX1_allowContent 15 = .ok (.istore_n 3, 1) := by decide +kernel
theorem dX1_allowContent_16 : decode cX1_allowContent 16 = .ok (.iload_n 2, 1) := by decide +kernel
theorem dX1_allowContent_17 : decode cX1_allowContent 17 = .ok (.istore 4, 2) := by decide +kernel
theorem dX1_allowContent_19 : decode cX1_allowContent 19 = .ok (.iload 4, 2) := by decide +kernel
theorem dX1_allowContent_21 : decode cX1_allowContent 21 = .ok (.iconst 1, 1) := by decide +kernel
theorem dX1_allowContent_22 : decode cX1_allowContent 22 = .ok (.if_icmp .lt 25, 3) := by decide +kernel
theorem dX1_allowContent_25 : decode cX1_allowContent 25 = .ok (.aload_n 0, 1) := by decide +kernel
theorem dX1_allowContent_26 : decode cX1_allowContent 26 = .ok (.getfield 9, 3) := by decide +kernel
theorem dX1_allowContent_29 : decode cX1_allowContent 29 = .ok (.iload 4, 2) := by decide +kernel
theorem dX1_allowContent_31 : decode cX1_allowContent 31 = .ok (.iload_n 3, 1) := by decide +kernel
theorem dX1_allowContent_32 : decode cX1_allowContent 32 = .ok (.bipush 10, 2) := by decide +kernel
theorem dX1_allowContent_34 : decode cX1_allowContent 34 = .ok (.irem, 1) := by decide +kernel
theorem dX1_allowContent_35 : decode cX1_allowContent 35 = .ok (.iastore, 1) := by decide +kernel
theorem dX1_allowContent_36 : decode cX1_allowContent 36 = .ok (.iload_n 3, 1) := by decide +kernel
theorem dX1_allowContent_37 : decode cX1_allowContent 37 = .ok (.bipush 10, 2) := by decide +kernel
theorem dX1_allowContent_39 : decode cX1_allowContent 39 = .ok (.idiv, 1) := by decide +kernel
theorem dX1_allowContent_40 : decode cX1_allowContent 40 = .ok (.istore_n 3, 1) := by decide +kernel
theorem dX1_allowContent_41 : decode cX1_allowContent 41 = .ok (.iinc 4 (-1), 3) := by decide +kernel
theorem dX1_allowContent_44 : decode cX1_allowContent 44 = .ok (.goto (-25), 3) := by decide +kernel
theorem dX1_allowContent_47 : decode cX1_allowContent 47 = .ok (.aload_n 0, 1) := by decide +kernel
theorem dX1_allowContent_48 : decode cX1_allowContent 48 = .ok (.iload_n 2, 1) := by decide +kernel
theorem dX1_allowContent_49 : decode cX1_allowContent 49 = .ok (.invokevirtual 38, 3) := by decide +kernel
theorem dX1_allowContent_52 : decode cX1_allowContent 52 = .ok (.bipush 6, 2) := by decide +kernel
theorem dX1_allowContent_54 : decode cX1_allowContent 54 = .ok (.if_icmp .gt 7, 3) := by decide +kernel
theorem dX1_allowContent_57 : decode cX1_allowContent 57 = .ok (.iconst 1, 1) := by decide +kernel
theorem dX1_allowContent_58 : decode cX1_allowContent 58 = .ok (.goto 4, 3) := by decide +kernel
theorem dX1_allowContent_61 : decode cX1_allowContent 61 = .ok (.iconst 0, 1) := by decide +kernel
theorem dX1_allowContent_62 : decode cX1_allowContent 62 = .ok (.ireturn, 1) := by decide +kernel
theorem dX1_allowDifference_0 : decode cX1_allowDifference 0 = .ok (.iconst 1, 1) := by decide +kernel
theorem dX1_allowDifference_1 : decode cX1_allowDifference 1 = .ok (.istore_n 3, 1) := by decide +kernel
theorem dX1_allowDifference_2 : decode cX1_allowDifference 2 = .ok (.iload_n 3, 1) := by decide +kernel
theorem dX1_allowDifference_3 : decode cX1_allowDifference 3 = .ok (.iconst 5, 1) := by decide +kernel
theorem dX1_allowDifference_4 : decode cX1_allowDifference 4 = .ok (.if_icmp .gt 41, 3) := by decide +kernel
theorem dX1_allowDifference_7 : decode cX1_allowDifference 7 = .ok (.aload_n 0, 1) := by decide +kernel
theorem dX1_allowDifference_8 : decode cX1_allowDifference 8 = .ok (.getfield 9, 3) := by decide +kernel
theorem dX1_allowDifference_11 : decode cX1_allowDifference 11 = .ok (.iload_n 3, 1) := by decide +kernel
theorem dX1_allowDifference_12 : decode cX1_allowDifference 12 = .ok (.aload_n 1, 1) := by decide +kernel
theorem dX1_allowDifference_13 : decode cX1_allowDifference 13 = .ok (.iload_n 3, 1) := by decide +kernel
theorem dX1_allowDifference_14 : decode cX1_allowDifference 14 = .ok (.iconst 1, 1) := by decide +kernel
theorem dX1_allowDifference_15 : decode cX1_allowDifference 15 = .ok (.isub, 1) := by decide +kernel
theorem dX1_allowDifference_16 : decode cX1_allowDifference 16 = .ok (.invokevirtual 41, 3) := by decide +kernel
theorem dX1_allowDifference_19 : decode cX1_allowDifference 19 = .ok (.aload_n 2, 1) := by decide +kernel
theorem dX1_allowDifference_20 : decode cX1_allowDifference 20 = .ok (.iload_n 3, 1) := by decide +kernel
theorem dX1_allowDifference_21 : decode cX1_allowDifference 21 = .ok (.iconst 1, 1) := by decide +kernel
theorem dX1_allowDifference_22 : decode cX1_allowDifference 22 = .ok (.isub, 1) := by decide +kernel
theorem dX1_allowDifference_23 : decode cX1_allowDifference 23 = .ok (.invokevirtual 41, 3) := by decide +kernel
theorem dX1_allowDifference_26 : decode cX1_allowDifference 26 = .ok (.isub, 1) := by decide +kernel
theorem dX1_allowDifference_27 : decode cX1_allowDifference 27 = .ok (.iastore, 1) := by decide +kernel
theorem dX1_allowDifference_28 : decode cX1_allowDifference 28 = .ok (.aload_n 0, 1) := by decide +kernel
theorem dX1_allowDifference_29 : decode cX1_allowDifference 29 = .ok (.getfield 9, 3) := by decide +kernel
theorem dX1_allowDifference_32 : decode cX1_allowDifference 32 = .ok (.iload_n 3, 1) := by decide +kernel
theorem dX1_allowDifference_33 : decode cX1_allowDifference 33 = .ok (.iaload, 1) := by decide +kernel
theorem dX1_allowDifference_34 : decode cX1_allowDifference 34 = .ok (.ifCond .ge 5, 3) := by decide +kernel
theorem dX1_allowDifference_37 : decode cX1_allowDifference 37 = .ok (.iconst 0, 1) := by decide +kernel
theorem dX1_allowDifference_38 : decode cX1_allowDifference 38 = .ok (.ireturn, 1) := by decide +kernel
theorem dX1_allowDifference_39 : decode cX1_allowDifference 39 = .ok (.iinc 3 1, 3) := by decide +kernel
theorem dX1_allowDifference_42 : decode cX1_allowDifference 42 = .ok (.goto (-40), 3) := by decide +kernel
theorem dX1_allowDifference_45 : decode cX1_allowDifference 45 = .ok (.iconst 1, 1) := by decide +kernel
theorem dX1_allowDifference_46 : decode cX1_allowDifference 46 = .ok (.ireturn, 1) := by decide +kernel
theorem dX1_allowedInAll_0 : decode cX1_allowedInAll 0 = .ok (.iconst 0, 1) := by decide +kernel
theorem dX1_allowedInAll_1 : decode cX1_allowedInAll 1 = .ok (.istore_n 2, 1) := by decide +kernel
theorem dX1_allowedInAll_2 : decode cX1_allowedInAll 2 = .ok (.iconst 1, 1) := by decide +kernel
theorem dX1_allowedInAll_3 : decode cX1_allowedInAll 3 = .ok (.istore_n 3, 1) := by decide +kernel
theorem dX1_allowedInAll_4 : decode cX1_allowedInAll 4 = .ok (.iload_n 3, 1) := by decide +kernel
theorem dX1_allowedInAll_5 : decode cX1_allowedInAll 5 = .ok (.iload_n 1, 1) := by decide +kernel
theorem dX1_allowedInAll_6 : decode cX1_allowedInAll 6 = .ok (.if_icmp .gt 18, 3) := by decide +kernel
theorem dX1_allowedInAll_9 : decode cX1_allowedInAll 9 = .ok (.iload_n 2, 1) := by decide +kernel
theorem dX1_allowedInAll_10 : decode cX1_allowedInAll 10 = .ok (.aload_n 0, 1) := by decide +kernel
theorem dX1_allowedInAll_11 : decode cX1_allowedInAll 11 = .ok (.getfield 9, 3) := by decide +kernel
theorem dX1_allowedInAll_14 : decode cX1_allowedInAll 14 = .ok (.iload_n 3, 1) := by decide +kernel
theorem dX1_allowedInAll_15 : decode cX1_allowedInAll 15 = .ok (.iaload, 1) := by decide +kernel
theorem dX1_allowedInAll_16 : decode cX1_allowedInAll 16 = .ok (.iadd, 1) := by decide +kernel
theorem dX1_allowedInAll_17 : decode cX1_allowedInAll 17 = .ok (.istore_n 2, 1) := by decide +kernel
theorem dX1_allowedInAll_18 : decode cX1_allowedInAll 18 = .ok (.iinc 3 1, 3) := by decide +kernel
theorem dX1_allowedInAll_21 : decode cX1_allowedInAll 21 = .ok (.goto (-17), 3) := by decide +kernel
theorem dX1_allowedInAll_24 : decode cX1_allowedInAll 24 = .ok (.iload_n 2, 1) := by decide +kernel
theorem dX1_allowedInAll_25 : decode cX1_allowedInAll 25 = .ok (.ireturn, 1) := by decide +kernel
theorem dX1_worthOneEach_0 : decode cX1_worthOneEach 0 = .ok (.aload_n 0, 1) := by decide +kernel
theorem dX1_worthOneEach_1 : decode cX1_worthOneEach 1 = .ok (.getfield 15, 3) := by decide +kernel
theorem dX1_worthOneEach_4 : decode cX1_worthOneEach 4 = .ok (.iconst 1, 1) := by decide +kernel
theorem dX1_worthOneEach_5 : decode cX1_worthOneEach 5 = .ok (.invokestatic 28, 3) := by decide +kernel
theorem dX1_worthOneEach_8 : decode cX1_worthOneEach 8 = .ok (.return_, 1) := by decide +kernel
theorem dX1_worthAs_0 : decode cX1_worthAs 0 = .ok (.aload_n 1, 1) := by decide +kernel
theorem dX1_worthAs_1 : decode cX1_worthAs 1 = .ok (.iconst 0, 1) := by decide +kernel
theorem dX1_worthAs_2 : decode cX1_worthAs 2 = .ok (.aload_n 0, 1) := by decide +kernel
theorem dX1_worthAs_3 : decode cX1_worthAs 3 = .ok (.getfield 15, 3) := by decide +kernel
theorem dX1_worthAs_6 : decode cX1_worthAs 6 = .ok (.iconst 0, 1) := by decide +kernel
theorem dX1_worthAs_7 : decode cX1_worthAs 7 = .ok (.bipush 6, 2) := by decide +kernel
theorem dX1_worthAs_9 : decode cX1_worthAs 9 = .ok (.invokestatic 46, 3) := by decide +kernel
theorem dX1_worthAs_12 : decode cX1_worthAs 12 = .ok (.return_, 1) := by decide +kernel
theorem dX1_sum_0 : decode cX1_sum 0 = .ok (.aload_n 0, 1) := by decide +kernel
theorem dX1_sum_1 : decode cX1_sum 1 = .ok (.iload_n 2, 1) := by decide +kernel
theorem dX1_sum_2 : decode cX1_sum 2 = .ok (.putfield 52, 3) := by decide +kernel
theorem dX1_sum_5 : decode cX1_sum 5 = .ok (.aload_n 0, 1) := by decide +kernel
theorem dX1_sum_6 : decode cX1_sum 6 = .ok (.aconst_null, 1) := by decide +kernel
theorem dX1_sum_7 : decode cX1_sum 7 = .ok (.putfield 56, 3) := by decide +kernel
theorem dX1_sum_10 : decode cX1_sum 10 = .ok (.aload_n 0, 1) := by decide +kernel
theorem dX1_sum_11 : decode cX1_sum 11 = .ok (.aload_n 1, 1) := by decide +kernel
theorem dX1_sum_12 : decode cX1_sum 12 = .ok (.iconst 0, 1) := by decide +kernel
theorem dX1_sum_13 : decode cX1_sum 13 = .ok (.iconst 0, 1) := by decide +kernel
theorem dX1_sum_14 : decode cX1_sum 14 = .ok (.iconst 0, 1) := by decide +kernel
theorem dX1_sum_15 : decode cX1_sum 15 = .ok (.lconst 1, 1) := by decide +kernel
theorem dX1_sum_16 : decode cX1_sum 16 = .ok (.invokestatic 60, 3) := by decide +kernel
theorem dX1_sum_19 : decode cX1_sum 19 = .ok (.lreturn, 1) := by decide +kernel
theorem dX1_countHighest_0 : decode cX1_countHighest 0 = .ok (.aload_n 0, 1) := by decide +kernel
theorem dX1_countHighest_1 : decode cX1_countHighest 1 = .ok (.iload 4, 2) := by decide +kernel
theorem dX1_countHighest_3 : decode cX1_countHighest 3 = .ok (.putfield 52, 3) := by decide +kernel
theorem dX1_countHighest_6 : decode cX1_countHighest 6 = .ok (.aload_n 0, 1) := by decide +kernel
theorem dX1_countHighest_7 : decode cX1_countHighest 7 = .ok (.aload_n 2, 1) := by decide +kernel
theorem dX1_countHighest_8 : decode cX1_countHighest 8 = .ok (.putfield 56, 3) := by decide +kernel
theorem dX1_countHighest_11 : decode cX1_countHighest 11 = .ok (.aload_n 0, 1) := by decide +kernel
theorem dX1_countHighest_12 : decode cX1_countHighest 12 = .ok (.aload_n 3, 1) := by decide +kernel
theorem dX1_countHighest_13 : decode cX1_countHighest 13 = .ok (.putfield 64, 3) := by decide +kernel
theorem dX1_countHighest_16 : decode cX1_countHighest 16 = .ok (.aload_n 0, 1) := by decide +kernel
theorem dX1_countHighest_17 : decode cX1_countHighest 17 = .ok (.aload_n 1, 1) := by decide +kernel
theorem dX1_countHighest_18 : decode cX1_countHighest 18 = .ok (.iconst 0, 1) := by decide +kernel
theorem dX1_countHighest_19 : decode cX1_countHighest 19 = .ok (.iconst 0, 1) := by decide +kernel
theorem dX1_countHighest_20 : decode cX1_countHighest 20 = .ok (.iconst 0, 1) := by decide +kernel
theorem dX1_countHighest_21 : decode cX1_countHighest 21 = .ok (.lconst 1, 1) := by decide +kernel
theorem dX1_countHighest_22 : decode cX1_countHighest 22 = .ok (.invokestatic 60, 3) := by decide +kernel
theorem dX1_countHighest_25 : decode cX1_countHighest 25 = .ok (.l2i, 1) := by decide +kernel
theorem dX1_countHighest_26 : decode cX1_countHighest 26 = .ok (.ireturn, 1) := by decide +kernel
theorem dX1_sumFrom_0 : decode cX1_sumFrom 0 = .ok (.iload_n 2, 1) := by decide +kernel
theorem dX1_sumFrom_1 : decode cX1_sumFrom 1 = .ok (.aload_n 1, 1) := by decide +kernel
theorem dX1_sumFrom_2 : decode cX1_sumFrom 2 = .ok (.getfield 68, 3) := by decide +kernel
theorem dX1_sumFrom_5 : decode cX1_sumFrom 5 = .ok (.if_icmp .ge 9, 3) := by decide +kernel
theorem dX1_sumFrom_8 : decode cX1_sumFrom 8 = .ok (.iload_n 2, 1) := by decide +kernel
theorem dX1_sumFrom_9 : decode cX1_sumFrom 9 = .ok (.bipush 6, 2) := by decide +kernel
theorem dX1_sumFrom_11 : decode cX1_sumFrom 11 = .ok (.if_icmp .lt 18, 3) := by decide +kernel
theorem dX1_sumFrom_14 : decode cX1_sumFrom 14 = .ok (.aload_n 0, 1) := by decide +kernel
theorem dX1_sumFrom_15 : decode cX1_sumFrom 15 = .ok (.aload_n 1, 1) := by decide +kernel
theorem dX1_sumFrom_16 : decode cX1_sumFrom 16 = .ok (.invokevirtual 71, 3) := by decide +kernel
theorem dX1_sumFrom_19 : decode cX1_sumFrom 19 = .ok (.ifCond .eq 8, 3) := by decide +kernel
theorem dX1_sumFrom_22 : decode cX1_sumFrom 22 = .ok (.lload 5, 2) := by decide +kernel
theorem dX1_sumFrom_24 : decode cX1_sumFrom 24 = .ok (.goto 4, 3) := by decide +kernel
theorem dX1_sumFrom_27 : decode cX1_sumFrom 27 = .ok (.lconst 0, 1) := by decide +kernel
theorem dX1_sumFrom_28 : decode cX1_sumFrom 28 = .ok (.lreturn, 1) := by decide +kernel
theorem dX1_sumFrom_29 : decode cX1_sumFrom 29 = .ok (.iload 4, 2) := by decide +kernel
theorem dX1_sumFrom_31 : decode cX1_sumFrom 31 = .ok (.aload_n 1, 1) := by decide +kernel
theorem dX1_sumFrom_32 : decode cX1_sumFrom 32 = .ok (.iload_n 3, 1) := by decide +kernel
theorem dX1_sumFrom_33 : decode cX1_sumFrom 33 = .ok (.invokevirtual 41, 3) := by decide +kernel
theorem dX1_sumFrom_36 : decode cX1_sumFrom 36 = .ok (.if_icmp .lt 28, 3) := by decide +kernel
theorem dX1_sumFrom_39 : decode cX1_sumFrom 39 = .ok (.iload_n 3, 1) := by decide +kernel
theorem dX1_sumFrom_40 : decode cX1_sumFrom 40 = .ok (.aload_n 1, 1) := by decide +kernel
theorem dX1_sumFrom_41 : decode cX1_sumFrom 41 = .ok (.getfield 75, 3) := by decide +kernel
theorem dX1_sumFrom_44 : decode cX1_sumFrom 44 = .ok (.if_icmp .ge 18, 3) := by decide +kernel
theorem dX1_sumFrom_47 : decode cX1_sumFrom 47 = .ok (.aload_n 0, 1) := by decide +kernel
theorem dX1_sumFrom_48 : decode cX1_sumFrom 48 = .ok (.aload_n 1, 1) := by decide +kernel
theorem dX1_sumFrom_49 : decode cX1_sumFrom 49 = .ok (.iload_n 2, 1) := by decide +kernel
theorem dX1_sumFrom_50 : decode cX1_sumFrom 50 = .ok (.iload_n 3, 1) := by decide +kernel
theorem dX1_sumFrom_51 : decode cX1_sumFrom 51 = .ok (.iconst 1, 1) := by decide +kernel
theorem dX1_sumFrom_52 : decode cX1_sumFrom 52 = .ok (.iadd, 1) := by decide +kernel
theorem dX1_sumFrom_53 : decode cX1_sumFrom 53 = .ok (.iconst 0, 1) := by decide +kernel
theorem dX1_sumFrom_54 : decode cX1_sumFrom 54 = .ok (.lload 5, 2) := by decide +kernel
theorem dX1_sumFrom_56 : decode cX1_sumFrom 56 = .ok (.invokestatic 60, 3) := by decide +kernel
theorem dX1_sumFrom_59 : decode cX1_sumFrom 59 = .ok (.goto 4, 3) := by decide +kernel
theorem dX1_sumFrom_62 : decode cX1_sumFrom 62 = .ok (.lconst 0, 1) := by decide +kernel
theorem dX1_sumFrom_63 : decode cX1_sumFrom 63 = .ok (.lreturn, 1) := by decide +kernel
theorem dX1_sumFrom_64 : decode cX1_sumFrom 64 = .ok (.lconst 0, 1) := by decide +kernel
theorem dX1_sumFrom_65 : decode cX1_sumFrom 65 = .ok (.lstore 7, 2) := by decide +kernel
theorem dX1_sumFrom_67 : decode cX1_sumFrom 67 = .ok (.aload_n 0, 1) := by decide +kernel
theorem dX1_sumFrom_68 : decode cX1_sumFrom 68 = .ok (.aload_n 1, 1) := by decide +kernel
theorem dX1_sumFrom_69 : decode cX1_sumFrom 69 = .ok (.iload_n 2, 1) := by decide +kernel
theorem dX1_sumFrom_70 : decode cX1_sumFrom 70 = .ok (.iload_n 3, 1) := by decide +kernel
theorem dX1_sumFrom_71 : decode cX1_sumFrom 71 = .ok (.iload 4, 2) := by decide +kernel
theorem dX1_sumFrom_73 : decode cX1_sumFrom 73 = .ok (.invokevirtual 78, 3) := by decide +kernel
theorem dX1_sumFrom_76 : decode cX1_sumFrom 76 = .ok (.istore 9, 2) := by decide +kernel
theorem dX1_sumFrom_78 : decode cX1_sumFrom 78 = .ok (.iload 9, 2) := by decide +kernel
theorem dX1_sumFrom_80 : decode cX1_sumFrom 80 = .ok (.aload_n 0, 1) := by decide +kernel
theorem dX1_sumFrom_81 : decode cX1_sumFrom 81 = .ok (.getfield 52, 3) := by decide +kernel
theorem dX1_sumFrom_84 : decode cX1_sumFrom 84 = .ok (.if_icmp .gt 78, 3) := by decide +kernel
theorem dX1_sumFrom_87 : decode cX1_sumFrom 87 = .ok (.aload_n 0, 1) := by decide +kernel
theorem dX1_sumFrom_88 : decode cX1_sumFrom 88 = .ok (.getfield 9, 3) := by decide +kernel
theorem dX1_sumFrom_91 : decode cX1_sumFrom 91 = .ok (.iload 9, 2) := by decide +kernel
theorem dX1_sumFrom_93 : decode cX1_sumFrom 93 = .ok (.iaload, 1) := by decide +kernel
theorem dX1_sumFrom_94 : decode cX1_sumFrom 94 = .ok (.ifCond .le 62, 3) := by decide +kernel
theorem dX1_sumFrom_97 : decode cX1_sumFrom 97 = .ok (.aload_n 0, 1) := by decide +kernel
theorem dX1_sumFrom_98 : decode cX1_sumFrom 98 = .ok (.getfield 9, 3) := by decide +kernel
theorem dX1_sumFrom_101 : decode cX1_sumFrom 101 = .ok (.iload 9, 2) := by decide +kernel
theorem dX1_sumFrom_103 : decode cX1_sumFrom 103 = .ok (.dup2, 1) := by decide +kernel
theorem dX1_sumFrom_104 : decode cX1_sumFrom 104 = .ok (.iaload, 1) := by decide +kernel
theorem dX1_sumFrom_105 : decode cX1_sumFrom 105 = .ok (.iconst 1, 1) := by decide +kernel
theorem dX1_sumFrom_106 : decode cX1_sumFrom 106 = .ok (.isub, 1) := by decide +kernel
theorem dX1_sumFrom_107 : decode cX1_sumFrom 107 = .ok (.iastore, 1) := by decide +kernel
theorem dX1_sumFrom_108 : decode cX1_sumFrom 108 = .ok (.aload_n 0, 1) := by decide +kernel
theorem dX1_sumFrom_109 : decode cX1_sumFrom 109 = .ok (.getfield 18, 3) := by decide +kernel
theorem dX1_sumFrom_112 : decode cX1_sumFrom 112 = .ok (.iload_n 2, 1) := by decide +kernel
theorem dX1_sumFrom_113 : decode cX1_sumFrom 113 = .ok (.iload 9, 2) := by decide +kernel
theorem dX1_sumFrom_115 : decode cX1_sumFrom 115 = .ok (.iastore, 1) := by decide +kernel
theorem dX1_sumFrom_116 : decode cX1_sumFrom 116 = .ok (.lload 7, 2) := by decide +kernel
theorem dX1_sumFrom_118 : decode cX1_sumFrom 118 = .ok (.aload_n 0, 1) := by decide +kernel
theorem dX1_sumFrom_119 : decode cX1_sumFrom 119 = .ok (.aload_n 1, 1) := by decide +kernel
theorem dX1_sumFrom_120 : decode cX1_sumFrom 120 = .ok (.iload_n 2, 1) := by decide +kernel
theorem dX1_sumFrom_121 : decode cX1_sumFrom 121 = .ok (.iconst 1, 1) := by decide +kernel
theorem dX1_sumFrom_122 : decode cX1_sumFrom 122 = .ok (.iadd, 1) := by decide +kernel
theorem dX1_sumFrom_123 : decode cX1_sumFrom 123 = .ok (.iload_n 3, 1) := by decide +kernel
theorem dX1_sumFrom_124 : decode cX1_sumFrom 124 = .ok (.iload 4, 2) := by decide +kernel
theorem dX1_sumFrom_126 : decode cX1_sumFrom 126 = .ok (.iconst 1, 1) := by decide +kernel
theorem dX1_sumFrom_127 : decode cX1_sumFrom 127 = .ok (.iadd, 1) := by decide +kernel
theorem dX1_sumFrom_128 : decode cX1_sumFrom 128 = .ok (.lload 5, 2) := by decide +kernel
theorem dX1_sumFrom_130 : decode cX1_sumFrom 130 = .ok (.aload_n 0, 1) := by decide +kernel
theorem dX1_sumFrom_131 : decode cX1_sumFrom 131 = .ok (.getfield 15, 3) := by decide +kernel
theorem dX1_sumFrom_134 : decode cX1_sumFrom 134 = .ok (.iload 9, 2) := by decide +kernel
theorem dX1_sumFrom_136 : decode cX1_sumFrom 136 = .ok (.iaload, 1) := by decide +kernel
theorem dX1_sumFrom_137 : decode cX1_sumFrom 137 = .ok (.i2l, 1) := by decide +kernel
theorem dX1_sumFrom_138 : decode cX1_sumFrom 138 = .ok (.lmul, 1) := by decide +kernel
theorem dX1_sumFrom_139 : decode cX1_sumFrom 139 = .ok (.invokestatic 60, 3) := by decide +kernel
theorem dX1_sumFrom_142 : decode cX1_sumFrom 142 = .ok (.ladd, 1) := by decide +kernel
theorem dX1_sumFrom_143 : decode cX1_sumFrom 143 = .ok (.lstore 7, 2) := by decide +kernel
theorem dX1_sumFrom_145 : decode cX1_sumFrom 145 = .ok (.aload_n 0, 1) := by decide +kernel
theorem dX1_sumFrom_146 : decode cX1_sumFrom 146 = .ok (.getfield 9, 3) := by decide +kernel
theorem dX1_sumFrom_149 : decode cX1_sumFrom 149 = .ok (.iload 9, 2) := by decide +kernel
theorem dX1_sumFrom_151 : decode cX1_sumFrom 151 = .ok (.dup2, 1) := by decide +kernel
theorem dX1_sumFrom_152 : decode cX1_sumFrom 152 = .ok (.iaload, 1) := by decide +kernel
theorem dX1_sumFrom_153 : decode cX1_sumFrom 153 = .ok (.iconst 1, 1) := by decide +kernel
theorem dX1_sumFrom_154 : decode cX1_sumFrom 154 = .ok (.iadd, 1) := by decide +kernel
theorem dX1_sumFrom_155 : decode cX1_sumFrom 155 = .ok (.iastore, 1) := by decide +kernel
theorem dX1_sumFrom_156 : decode cX1_sumFrom 156 = .ok (.iinc 9 1, 3) := by decide +kernel
theorem dX1_sumFrom_159 : decode cX1_sumFrom 159 = .ok (.goto (-81), 3) := by decide +kernel
theorem dX1_sumFrom_162 : decode cX1_sumFrom 162 = .ok (.lload 7, 2) := by decide +kernel
theorem dX1_sumFrom_164 : decode cX1_sumFrom 164 = .ok (.lreturn, 1) := by decide +kernel
theorem dX1_leastLetter_0 : decode cX1_leastLetter 0 = .ok (.iconst 1, 1) := by decide +kernel
theorem dX1_leastLetter_1 : decode cX1_leastLetter 1 = .ok (.istore 5, 2) := by decide +kernel
theorem dX1_leastLetter_3 : decode cX1_leastLetter 3 = .ok (.iload 4, 2) := by decide +kernel
theorem dX1_leastLetter_5 : decode cX1_leastLetter 5 = .ok (.ifCond .le 13, 3) := by decide +kernel
theorem dX1_leastLetter_8 : decode cX1_leastLetter 8 = .ok (.aload_n 0, 1) := by decide +kernel
theorem dX1_leastLetter_9 : decode cX1_leastLetter 9 = .ok (.getfield 18, 3) := by decide +kernel
theorem dX1_leastLetter_12 : decode cX1_leastLetter 12 = .ok (.iload_n 2, 1) := by decide +kernel
theorem dX1_leastLetter_13 : decode cX1_leastLetter 13 = .ok (.iconst 1, 1) := by decide +kernel
theorem dX1_leastLetter_14 : decode cX1_leastLetter 14 = .ok (.isub, 1) := by decide +kernel
theorem dX1_leastLetter_15 : decode cX1_leastLetter 15 = .ok (.iaload, 1) := by decide +kernel
theorem dX1_leastLetter_16 : decode cX1_leastLetter 16 = .ok (.istore 5, 2) := by decide +kernel
theorem dX1_leastLetter_18 : decode cX1_leastLetter 18 = .ok (.iload_n 3, 1) := by decide +kernel
theorem dX1_leastLetter_19 : decode cX1_leastLetter 19 = .ok (.ifCond .le 26, 3) := by decide +kernel
theorem dX1_leastLetter_22 : decode cX1_leastLetter 22 = .ok (.iload 5, 2) := by decide +kernel
theorem dX1_leastLetter_24 : decode cX1_leastLetter 24 = .ok (.aload_n 0, 1) := by decide +kernel
theorem dX1_leastLetter_25 : decode cX1_leastLetter 25 = .ok (.getfield 18, 3) := by decide +kernel
theorem dX1_leastLetter_28 : decode cX1_leastLetter 28 = .ok (.iload_n 2, 1) := by decide +kernel
theorem dX1_leastLetter_29 : decode cX1_leastLetter 29 = .ok (.aload_n 1, 1) := by decide +kernel
theorem dX1_leastLetter_30 : decode cX1_leastLetter 30 = .ok (.iload_n 3, 1) := by decide +kernel
theorem dX1_leastLetter_31 : decode cX1_leastLetter 31 = .ok (.iconst 1, 1) := by decide +kernel
theorem dX1_leastLetter_32 : decode cX1_leastLetter 32 = .ok (.isub, 1) := by decide +kernel
theorem dX1_leastLetter_33 : decode cX1_leastLetter 33 = .ok (.invokevirtual 41, 3) := by decide +kernel
theorem dX1_leastLetter_36 : decode cX1_leastLetter 36 = .ok (.isub, 1) := by decide +kernel
theorem dX1_leastLetter_37 : decode cX1_leastLetter 37 = .ok (.iaload, 1) := by decide +kernel
theorem dX1_leastLetter_38 : decode cX1_leastLetter 38 = .ok (.iconst 1, 1) := by decide +kernel
theorem dX1_leastLetter_39 : decode cX1_leastLetter 39 = .ok (.iadd, 1) := by decide +kernel
theorem dX1_leastLetter_40 : decode cX1_leastLetter 40 = .ok (.invokestatic 82, 3) := by decide +kernel
theorem dX1_leastLetter_43 : decode cX1_leastLetter 43 = .ok (.istore 5, 2) := by decide +kernel
theorem dX1_leastLetter_45 : decode cX1_leastLetter 45 = .ok (.iload 5, 2) := by decide +kernel
theorem dX1_leastLetter_47 : decode cX1_leastLetter 47 = .ok (.ireturn, 1) := by decide +kernel
theorem dX1_counts_0 : decode cX1_counts 0 = .ok (.aload_n 0, 1) := by decide +kernel
theorem dX1_counts_1 : decode cX1_counts 1 = .ok (.getfield 56, 3) := by decide +kernel
theorem dX1_counts_4 : decode cX1_counts 4 = .ok (.ifnull 10, 3) := by decide +kernel
theorem dX1_counts_7 : decode cX1_counts 7 = .ok (.aload_n 0, 1) := by decide +kernel
theorem dX1_counts_8 : decode cX1_counts 8 = .ok (.getfield 64, 3) := by decide +kernel
theorem dX1_counts_11 : decode cX1_counts 11 = .ok (.ifnonnull 5, 3) := by decide +kernel
theorem dX1_counts_14 : decode cX1_counts 14 = .ok (.iconst 1, 1) := by decide +kernel
theorem dX1_counts_15 : decode cX1_counts 15 = .ok (.ireturn, 1) := by decide +kernel
theorem dX1_counts_16 : decode cX1_counts 16 = .ok (.aload_n 0, 1) := by decide +kernel
theorem dX1_counts_17 : decode cX1_counts 17 = .ok (.aload_n 1, 1) := by decide +kernel
theorem dX1_counts_18 : decode cX1_counts 18 = .ok (.aload_n 0, 1) := by decide +kernel
theorem dX1_counts_19 : decode cX1_counts 19 = .ok (.getfield 56, 3) := by decide +kernel
theorem dX1_counts_22 : decode cX1_counts 22 = .ok (.invokevirtual 88, 3) := by decide +kernel
theorem dX1_counts_25 : decode cX1_counts 25 = .ok (.aload_n 0, 1) := by decide +kernel
theorem dX1_counts_26 : decode cX1_counts 26 = .ok (.getfield 64, 3) := by decide +kernel
theorem dX1_counts_29 : decode cX1_counts 29 = .ok (.aload_n 0, 1) := by decide +kernel
theorem dX1_counts_30 : decode cX1_counts 30 = .ok (.getfield 24, 3) := by decide +kernel
theorem dX1_counts_33 : decode cX1_counts 33 = .ok (.aload_n 0, 1) := by decide +kernel
theorem dX1_counts_34 : decode cX1_counts 34 = .ok (.getfield 52, 3) := by decide +kernel
theorem dX1_counts_37 : decode cX1_counts 37 = .ok (.invokevirtual 92, 3) := by decide +kernel
theorem dX1_counts_40 : decode cX1_counts 40 = .ok (.ireturn, 1) := by decide +kernel
theorem dX1_join_0 : decode cX1_join 0 = .ok (.aload_n 0, 1) := by decide +kernel
theorem dX1_join_1 : decode cX1_join 1 = .ok (.getfield 24, 3) := by decide +kernel
theorem dX1_join_4 : decode cX1_join 4 = .ok (.aload_n 1, 1) := by decide +kernel
theorem dX1_join_5 : decode cX1_join 5 = .ok (.getfield 68, 3) := by decide +kernel
theorem dX1_join_8 : decode cX1_join 8 = .ok (.aload_n 2, 1) := by decide +kernel
theorem dX1_join_9 : decode cX1_join 9 = .ok (.getfield 68, 3) := by decide +kernel
theorem dX1_join_12 : decode cX1_join 12 = .ok (.iadd, 1) := by decide +kernel
theorem dX1_join_13 : decode cX1_join 13 = .ok (.invokevirtual 98, 3) := by decide +kernel
theorem dX1_join_16 : decode cX1_join 16 = .ok (.aload_n 1, 1) := by decide +kernel
theorem dX1_join_17 : decode cX1_join 17 = .ok (.getfield 68, 3) := by decide +kernel
theorem dX1_join_20 : decode cX1_join 20 = .ok (.istore_n 3, 1) := by decide +kernel
theorem dX1_join_21 : decode cX1_join 21 = .ok (.iconst 0, 1) := by decide +kernel
theorem dX1_join_22 : decode cX1_join 22 = .ok (.istore 4, 2) := by decide +kernel
theorem dX1_join_24 : decode cX1_join 24 = .ok (.aload_n 1, 1) := by decide +kernel
theorem dX1_join_25 : decode cX1_join 25 = .ok (.getfield 75, 3) := by decide +kernel
theorem dX1_join_28 : decode cX1_join 28 = .ok (.iconst 1, 1) := by decide +kernel
theorem dX1_join_29 : decode cX1_join 29 = .ok (.isub, 1) := by decide +kernel
theorem dX1_join_30 : decode cX1_join 30 = .ok (.istore 5, 2) := by decide +kernel
theorem dX1_join_32 : decode cX1_join 32 = .ok (.iload 5, 2) := by decide +kernel
theorem dX1_join_34 : decode cX1_join 34 = .ok (.ifCond .lt 55, 3) := by decide +kernel
theorem dX1_join_37 : decode cX1_join 37 = .ok (.iload_n 3, 1) := by decide +kernel
theorem dX1_join_38 : decode cX1_join 38 = .ok (.aload_n 1, 1) := by decide +kernel
theorem dX1_join_39 : decode cX1_join 39 = .ok (.getfield 102, 3) := by decide +kernel
theorem dX1_join_42 : decode cX1_join 42 = .ok (.iload 5, 2) := by decide +kernel
theorem dX1_join_44 : decode cX1_join 44 = .ok (.iaload, 1) := by decide +kernel
theorem dX1_join_45 : decode cX1_join 45 = .ok (.isub, 1) := by decide +kernel
theorem dX1_join_46 : decode cX1_join 46 = .ok (.istore_n 3, 1) := by decide +kernel
theorem dX1_join_47 : decode cX1_join 47 = .ok (.aload_n 0, 1) := by decide +kernel
theorem dX1_join_48 : decode cX1_join 48 = .ok (.getfield 18, 3) := by decide +kernel
theorem dX1_join_51 : decode cX1_join 51 = .ok (.iload_n 3, 1) := by decide +kernel
theorem dX1_join_52 : decode cX1_join 52 = .ok (.aload_n 0, 1) := by decide +kernel
theorem dX1_join_53 : decode cX1_join 53 = .ok (.getfield 24, 3) := by decide +kernel
theorem dX1_join_56 : decode cX1_join 56 = .ok (.getfield 105, 3) := by decide +kernel
theorem dX1_join_59 : decode cX1_join 59 = .ok (.iload 4, 2) := by decide +kernel
theorem dX1_join_61 : decode cX1_join 61 = .ok (.aload_n 1, 1) := by decide +kernel
theorem dX1_join_62 : decode cX1_join 62 = .ok (.getfield 102, 3) := by decide +kernel
theorem dX1_join_65 : decode cX1_join 65 = .ok (.iload 5, 2) := by decide +kernel
theorem dX1_join_67 : decode cX1_join 67 = .ok (.iaload, 1) := by decide +kernel
theorem dX1_join_68 : decode cX1_join 68 = .ok (.invokestatic 46, 3) := by decide +kernel
theorem dX1_join_71 : decode cX1_join 71 = .ok (.iload 4, 2) := by decide +kernel
theorem dX1_join_73 : decode cX1_join 73 = .ok (.aload_n 1, 1) := by decide +kernel
theorem dX1_join_74 : decode cX1_join 74 = .ok (.getfield 102, 3) := by decide +kernel
theorem dX1_join_77 : decode cX1_join 77 = .ok (.iload 5, 2) := by decide +kernel
theorem dX1_join_79 : decode cX1_join 79 = .ok (.iaload, 1) := by decide +kernel
theorem dX1_join_80 : decode cX1_join 80 = .ok (.iadd, 1) := by decide +kernel
theorem dX1_join_81 : decode cX1_join 81 = .ok (.istore 4, 2) := by decide +kernel
theorem dX1_join_83 : decode cX1_join 83 = .ok (.iinc 5 (-1), 3) := by decide +kernel
theorem dX1_join_86 : decode cX1_join 86 = .ok (.goto (-54), 3) := by decide +kernel
theorem dX1_join_89 : decode cX1_join 89 = .ok (.aload_n 2, 1) := by decide +kernel
theorem dX1_join_90 : decode cX1_join 90 = .ok (.getfield 75, 3) := by decide +kernel
theorem dX1_join_93 : decode cX1_join 93 = .ok (.iconst 1, 1) := by decide +kernel
theorem dX1_join_94 : decode cX1_join 94 = .ok (.isub, 1) := by decide +kernel
theorem dX1_join_95 : decode cX1_join 95 = .ok (.istore 5, 2) := by decide +kernel
theorem dX1_join_97 : decode cX1_join 97 = .ok (.iload 5, 2) := by decide +kernel
theorem dX1_join_99 : decode cX1_join 99 = .ok (.ifCond .lt 47, 3) := by decide +kernel
theorem dX1_join_102 : decode cX1_join 102 = .ok (.iconst 0, 1) := by decide +kernel
theorem dX1_join_103 : decode cX1_join 103 = .ok (.istore 6, 2) := by decide +kernel
theorem dX1_join_105 : decode cX1_join 105 = .ok (.iload 6, 2) := by decide +kernel
theorem dX1_join_107 : decode cX1_join 107 = .ok (.aload_n 2, 1) := by decide +kernel
theorem dX1_join_108 : decode cX1_join 108 = .ok (.getfield 102, 3) := by decide +kernel
theorem dX1_join_111 : decode cX1_join 111 = .ok (.iload 5, 2) := by decide +kernel
theorem dX1_join_113 : decode cX1_join 113 = .ok (.iaload, 1) := by decide +kernel
theorem dX1_join_114 : decode cX1_join 114 = .ok (.if_icmp .ge 26, 3) := by decide +kernel
theorem dX1_join_117 : decode cX1_join 117 = .ok (.aload_n 0, 1) := by decide +kernel
theorem dX1_join_118 : decode cX1_join 118 = .ok (.getfield 24, 3) := by decide +kernel
theorem dX1_join_121 : decode cX1_join 121 = .ok (.getfield 105, 3) := by decide +kernel
theorem dX1_join_124 : decode cX1_join 124 = .ok (.iload 4, 2) := by decide +kernel
theorem dX1_join_126 : decode cX1_join 126 = .ok (.iload 5, 2) := by decide +kernel
theorem dX1_join_128 : decode cX1_join 128 = .ok (.iconst 1, 1) := by decide +kernel
theorem dX1_join_129 : decode cX1_join 129 = .ok (.iadd, 1) := by decide +kernel
theorem dX1_join_130 : decode cX1_join 130 = .ok (.iastore, 1) := by decide +kernel
theorem dX1_join_131 : decode cX1_join 131 = .ok (.iinc 4 1, 3) := by decide +kernel
theorem dX1_join_134 : decode cX1_join 134 = .ok (.iinc 6 1, 3) := by decide +kernel
theorem dX1_join_137 : decode cX1_join 137 = .ok (.goto (-32), 3) := by decide +kernel
theorem dX1_join_140 : decode cX1_join 140 = .ok (.iinc 5 (-1), 3) := by decide +kernel
theorem dX1_join_143 : decode cX1_join 143 = .ok (.goto (-46), 3) := by decide +kernel
theorem dX1_join_146 : decode cX1_join 146 = .ok (.return_, 1) := by decide +kernel
theorem dX2_init_0 : decode cX2_init 0 = .ok (.aload_n 0, 1) := by decide +kernel
theorem dX2_init_1 : decode cX2_init 1 = .ok (.invokespecial 3, 3) := by decide +kernel
theorem dX2_init_4 : decode cX2_init 4 = .ok (.aload_n 0, 1) := by decide +kernel
theorem dX2_init_5 : decode cX2_init 5 = .ok (.bipush 6, 2) := by decide +kernel
theorem dX2_init_7 : decode cX2_init 7 = .ok (.newarray .int, 2) := by decide +kernel
theorem dX2_init_9 : decode cX2_init 9 = .ok (.putfield 9, 3) := by decide +kernel
theorem dX2_init_12 : decode cX2_init 12 = .ok (.aload_n 0, 1) := by decide +kernel
theorem dX2_init_13 : decode cX2_init 13 = .ok (.bipush 36, 2) := by decide +kernel
theorem dX2_init_15 : decode cX2_init 15 = .ok (.newarray .int, 2) := by decide +kernel
theorem dX2_init_17 : decode cX2_init 17 = .ok (.putfield 15, 3) := by decide +kernel
theorem dX2_init_20 : decode cX2_init 20 = .ok (.aload_n 0, 1) := by decide +kernel
theorem dX2_init_21 : decode cX2_init 21 = .ok (.bipush 36, 2) := by decide +kernel
theorem dX2_init_23 : decode cX2_init 23 = .ok (.newarray .int, 2) := by decide +kernel
theorem dX2_init_25 : decode cX2_init 25 = .ok (.putfield 18, 3) := by decide +kernel
theorem dX2_init_28 : decode cX2_init 28 = .ok (.return_, 1) := by decide +kernel
theorem dX2_clear_0 : decode cX2_clear 0 = .ok (.aload_n 0, 1) := by decide +kernel
theorem dX2_clear_1 : decode cX2_clear 1 = .ok (.iconst 0, 1) := by decide +kernel
theorem dX2_clear_2 : decode cX2_clear 2 = .ok (.putfield 21, 3) := by decide +kernel
theorem dX2_clear_5 : decode cX2_clear 5 = .ok (.aload_n 0, 1) := by decide +kernel
theorem dX2_clear_6 : decode cX2_clear 6 = .ok (.iconst 0, 1) := by decide +kernel
theorem dX2_clear_7 : decode cX2_clear 7 = .ok (.putfield 25, 3) := by decide +kernel
theorem dX2_clear_10 : decode cX2_clear 10 = .ok (.aload_n 0, 1) := by decide +kernel
theorem dX2_clear_11 : decode cX2_clear 11 = .ok (.getfield 9, 3) := by decide +kernel
theorem dX2_clear_14 : decode cX2_clear 14 = .ok (.iconst 0, 1) := by decide +kernel
theorem dX2_clear_15 : decode cX2_clear 15 = .ok (.invokestatic 28, 3) := by decide +kernel
theorem dX2_clear_18 : decode cX2_clear 18 = .ok (.return_, 1) := by decide +kernel
theorem dX2_hasRow_0 : decode cX2_hasRow 0 = .ok (.iload_n 1, 1) := by decide +kernel
theorem dX2_hasRow_1 : decode cX2_hasRow 1 = .ok (.aload_n 0, 1) := by decide +kernel
theorem dX2_hasRow_2 : decode cX2_hasRow 2 = .ok (.getfield 21, 3) := by decide +kernel
theorem dX2_hasRow_5 : decode cX2_hasRow 5 = .ok (.if_icmp .ge 7, 3) := by decide +kernel
theorem dX2_hasRow_8 : decode cX2_hasRow 8 = .ok (.iconst 1, 1) := by decide +kernel
theorem dX2_hasRow_9 : decode cX2_hasRow 9 = .ok (.goto 4, 3) := by decide +kernel
theorem dX2_hasRow_12 : decode cX2_hasRow 12 = .ok (.iconst 0, 1) := by decide +kernel
theorem dX2_hasRow_13 : decode cX2_hasRow 13 = .ok (.ireturn, 1) := by decide +kernel
theorem dX2_takes_0 : decode cX2_takes 0 = .ok (.aload_n 0, 1) := by decide +kernel
theorem dX2_takes_1 : decode cX2_takes 1 = .ok (.getfield 25, 3) := by decide +kernel
theorem dX2_takes_4 : decode cX2_takes 4 = .ok (.bipush 6, 2) := by decide +kernel
theorem dX2_takes_6 : decode cX2_takes 6 = .ok (.if_icmp .ge 9, 3) := by decide +kernel
theorem dX2_takes_9 : decode cX2_takes 9 = .ok (.iload_n 1, 1) := by decide +kernel
theorem dX2_takes_10 : decode cX2_takes 10 = .ok (.bipush 6, 2) := by decide +kernel
theorem dX2_takes_12 : decode cX2_takes 12 = .ok (.if_icmp .lt 5, 3) := by decide +kernel
theorem dX2_takes_15 : decode cX2_takes 15 = .ok (.iconst 0, 1) := by decide +kernel
theorem dX2_takes_16 : decode cX2_takes 16 = .ok (.ireturn, 1) := by decide +kernel
theorem dX2_takes_17 : decode cX2_takes 17 = .ok (.aload_n 0, 1) := by decide +kernel
theorem dX2_takes_18 : decode cX2_takes 18 = .ok (.getfield 9, 3) := by decide +kernel
theorem dX2_takes_21 : decode cX2_takes 21 = .ok (.iload_n 1, 1) := by decide +kernel
theorem dX2_takes_22 : decode cX2_takes 22 = .ok (.iaload, 1) := by decide +kernel
theorem dX2_takes_23 : decode cX2_takes 23 = .ok (.istore_n 3, 1) := by decide +kernel
theorem dX2_takes_24 : decode cX2_takes 24 = .ok (.iload_n 3, 1) := by decide +kernel
theorem dX2_takes_25 : decode cX2_takes 25 = .ok (.ifCond .le 17, 3) := by decide +kernel
theorem dX2_takes_28 : decode cX2_takes 28 = .ok (.iload_n 2, 1) := by decide +kernel
theorem dX2_takes_29 : decode cX2_takes 29 = .ok (.aload_n 0, 1) := by decide +kernel
theorem dX2_takes_30 : decode cX2_takes 30 = .ok (.iload_n 1, 1) := by decide +kernel
theorem dX2_takes_31 : decode cX2_takes 31 = .ok (.iload_n 3, 1) := by decide +kernel
theorem dX2_takes_32 : decode cX2_takes 32 = .ok (.iconst 1, 1) := by decide +kernel
theorem dX2_takes_33 : decode cX2_takes 33 = .ok (.isub, 1) := by decide +kernel
theorem dX2_takes_34 : decode cX2_takes 34 = .ok (.invokevirtual 34, 3) := by decide +kernel
theorem dX2_takes_37 : decode cX2_takes 37 = .ok (.if_icmp .ge 5, 3) := by decide +kernel
theorem dX2_takes_40 : decode cX2_takes 40 = .ok (.iconst 0, 1) := by decide +kernel
theorem dX2_takes_41 : decode cX2_takes 41 = .ok (.ireturn, 1) := by decide +kernel
theorem dX2_takes_42 : decode cX2_takes 42 = .ok (.iload_n 1, 1) := by decide +kernel
theorem dX2_takes_43 : decode cX2_takes 43 = .ok (.ifCond .eq 27, 3) := by decide +kernel
theorem dX2_takes_46 : decode cX2_takes 46 = .ok (.iload_n 3, 1) := by decide +kernel
theorem dX2_takes_47 : decode cX2_takes 47 = .ok (.aload_n 0, 1) := by decide +kernel
theorem dX2_takes_48 : decode cX2_takes 48 = .ok (.getfield 9, 3) := by decide +kernel
theorem dX2_takes_51 : decode cX2_takes 51 = .ok (.iload_n 1, 1) := by decide +kernel
theorem dX2_takes_52 : decode cX2_takes 52 = .ok (.iconst 1, 1) := by decide +kernel
theorem dX2_takes_53 : decode cX2_takes 53 = .ok (.isub, 1) := by decide +kernel
theorem dX2_takes_54 : decode cX2_takes 54 = .ok (.iaload, 1) := by decide +kernel
theorem dX2_takes_55 : decode cX2_takes 55 = .ok (.if_icmp .ge 19, 3) := by decide +kernel
theorem dX2_takes_58 : decode cX2_takes 58 = .ok (.iload_n 2, 1) := by decide +kernel
theorem dX2_takes_59 : decode cX2_takes 59 = .ok (.aload_n 0, 1) := by decide +kernel
theorem dX2_takes_60 : decode cX2_takes 60 = .ok (.iload_n 1, 1) := by decide +kernel
theorem dX2_takes_61 : decode cX2_takes 61 = .ok (.iconst 1, 1) := by decide +kernel
theorem dX2_takes_62 : decode cX2_takes 62 = .ok (.isub, 1) := by decide +kernel
theorem dX2_takes_63 : decode cX2_takes 63 = .ok (.iload_n 3, 1) := by decide +kernel
theorem dX2_takes_64 : decode cX2_takes 64 = .ok (.invokevirtual 34, 3) := by decide +kernel
theorem dX2_takes_67 : decode cX2_takes 67 = .ok (.if_icmp .le 7, 3) := by decide +kernel
theorem dX2_takes_70 : decode cX2_takes 70 = .ok (.iconst 1, 1) := by decide +kernel
theorem dX2_takes_71 : decode cX2_takes 71 = .ok (.goto 4, 3) := by decide +kernel
theorem dX2_takes_74 : decode cX2_takes 74 = .ok (.iconst 0, 1) := by decide +kernel
theorem dX2_takes_75 : decode cX2_takes 75 = .ok (.ireturn, 1) := by decide +kernel
theorem dX2_append_0 : decode cX2_append 0 = .ok (.iload_n 1, 1) := by decide +kernel
theorem dX2_append_1 : decode cX2_append 1 = .ok (.bipush 6, 2) := by decide +kernel
theorem dX2_append_3 : decode cX2_append 3 = .ok (.imul, 1) := by decide +kernel
theorem dX2_append_4 : decode cX2_append 4 = .ok (.aload_n 0, 1) := by decide +kernel
theorem dX2_append_5 : decode cX2_append 5 = .ok (.getfield 9, 3) := by decide +kernel
theorem dX2_append_8 : decode cX2_append 8 = .ok (.iload_n 1, 1) := by decide +kernel
theorem dX2_append_9 : decode cX2_append 9 = .ok (.iaload, 1) := by decide +kernel
theorem dX2_append_10 : decode cX2_append 10 = .ok (.iadd, 1) := by decide +kernel
theorem dX2_append_11 : decode cX2_append 11 = .ok (.istore_n 3, 1) := by decide +kernel
theorem dX2_append_12 : decode cX2_append 12 = .ok (.aload_n 0, 1) := by decide +kernel
theorem dX2_append_13 : decode cX2_append 13 = .ok (.dup, 1) := by decide +kernel
theorem dX2_append_14 : decode cX2_append 14 = .ok (.getfield 25, 3) := by decide +kernel
theorem dX2_append_17 : decode cX2_append 17 = .ok (.iconst 1, 1) := by decide +kernel
theorem dX2_append_18 : decode cX2_append 18 = .ok (.iadd, 1) := by decide +kernel
theorem dX2_append_19 : decode cX2_append 19 = .ok (.putfield 25, 3) := by decide +kernel
theorem dX2_append_22 : decode cX2_append 22 = .ok (.aload_n 0, 1) := by decide +kernel
theorem dX2_append_23 : decode cX2_append 23 = .ok (.getfield 15, 3) := by decide +kernel
theorem dX2_append_26 : decode cX2_append 26 = .ok (.iload_n 3, 1) := by decide +kernel
theorem dX2_append_27 : decode cX2_append 27 = .ok (.iload_n 2, 1) := by decide +kernel
theorem dX2_append_28 : decode cX2_append 28 = .ok (.iastore, 1) := by decide +kernel
theorem dX2_append_29 : decode cX2_append 29 = .ok (.aload_n 0, 1) := by decide +kernel
theorem dX2_append_30 : decode cX2_append 30 = .ok (.getfield 18, 3) := by decide +kernel
theorem dX2_append_33 : decode cX2_append 33 = .ok (.iload_n 3, 1) := by decide +kernel
theorem dX2_append_34 : decode cX2_append 34 = .ok (.aload_n 0, 1) := by decide +kernel
theorem dX2_append_35 : decode cX2_append 35 = .ok (.getfield 25, 3) := by decide +kernel
theorem dX2_append_38 : decode cX2_append 38 = .ok (.iastore, 1) := by decide +kernel
theorem dX2_append_39 : decode cX2_append 39 = .ok (.aload_n 0, 1) := by decide +kernel
theorem dX2_append_40 : decode cX2_append 40 = .ok (.getfield 9, 3) := by decide +kernel
theorem dX2_append_43 : decode cX2_append 43 = .ok (.iload_n 1, 1) := by decide +kernel
theorem dX2_append_44 : decode cX2_append 44 = .ok (.dup2, 1) := by decide +kernel
theorem dX2_append_45 : decode cX2_append 45 = .ok (.iaload, 1) := by decide +kernel
theorem dX2_append_46 : decode cX2_append 46 = .ok (.iconst 1, 1) := by decide +kernel
theorem dX2_append_47 : decode cX2_append 47 = .ok (.iadd, 1) := by decide +kernel
theorem dX2_append_48 : decode cX2_append 48 = .ok (.iastore, 1) := by decide +kernel
theorem dX2_append_49 : decode cX2_append 49 = .ok (.aload_n 0, 1) := by decide +kernel
theorem dX2_append_50 : decode cX2_append 50 = .ok (.aload_n 0, 1) := by decide +kernel
theorem dX2_append_51 : decode cX2_append 51 = .ok (.getfield 21, 3) := by decide +kernel
theorem dX2_append_54 : decode cX2_append 54 = .ok (.iload_n 1, 1) := by decide +kernel
theorem dX2_append_55 : decode cX2_append 55 = .ok (.iconst 1, 1) := by decide +kernel
theorem dX2_append_56 : decode cX2_append 56 = .ok (.iadd, 1) := by decide +kernel
theorem dX2_append_57 : decode cX2_append 57 = .ok (.invokestatic 38, 3) := by decide +kernel
theorem dX2_append_60 : decode cX2_append 60 = .ok (.putfield 21, 3) := by decide +kernel
theorem dX2_append_63 : decode cX2_append 63 = .ok (.return_, 1) := by decide +kernel
theorem dX2_insertAll_0 : decode cX2_insertAll 0 = .ok (.aload_n 0, 1) := by decide +kernel
theorem dX2_insertAll_1 : decode cX2_insertAll 1 = .ok (.invokevirtual 43, 3) := by decide +kernel
theorem dX2_insertAll_4 : decode cX2_insertAll 4 = .ok (.iconst 0, 1) := by decide +kernel
theorem dX2_insertAll_5 : decode cX2_insertAll 5 = .ok (.istore_n 2, 1) := by decide +kernel
theorem dX2_insertAll_6 : decode cX2_insertAll 6 = .ok (.iload_n 2, 1) := by decide +kernel
theorem dX2_insertAll_7 : decode cX2_insertAll 7 = .ok (.aload_n 1, 1) := by decide +kernel
theorem dX2_insertAll_8 : decode cX2_insertAll 8 = .ok (.getfield 46, 3) := by decide +kernel
theorem dX2_insertAll_11 : decode cX2_insertAll 11 = .ok (.if_icmp .ge 19, 3) := by decide +kernel
theorem dX2_insertAll_14 : decode cX2_insertAll 14 = .ok (.aload_n 0, 1) := by decide +kernel
theorem dX2_insertAll_15 : decode cX2_insertAll 15 = .ok (.aload_n 1, 1) := by decide +kernel
theorem dX2_insertAll_16 : decode cX2_insertAll 16 = .ok (.getfield 49, 3) := by decide +kernel
theorem dX2_insertAll_19 : decode cX2_insertAll 19 = .ok (.iload_n 2, 1) := by decide +kernel
theorem dX2_insertAll_20 : decode cX2_insertAll 20 = .ok (.iaload, 1) := by decide +kernel
theorem dX2_insertAll_21 : decode cX2_insertAll 21 = .ok (.invokevirtual 52, 3) := by decide +kernel
theorem dX2_insertAll_24 : decode cX2_insertAll 24 = .ok (.iinc 2 1, 3) := by decide +kernel
theorem dX2_insertAll_27 : decode cX2_insertAll 27 = .ok (.goto (-21), 3) := by decide +kernel
theorem dX2_insertAll_30 : decode cX2_insertAll 30 = .ok (.return_, 1) := by decide +kernel
theorem dX2_insertLetter_0 : decode cX2_insertLetter 0 = .ok (.iload_n 1, 1) := by decide +kernel
theorem dX2_insertLetter_1 : decode cX2_insertLetter 1 = .ok (.istore_n 2, 1) := by decide +kernel
theorem dX2_insertLetter_2 : decode cX2_insertLetter 2 = .ok (.iconst 0, 1) := by decide +kernel
theorem dX2_insertLetter_3 : decode cX2_insertLetter 3 = .ok (.istore_n 3, 1) := by decide +kernel
theorem dX2_insertLetter_4 : decode cX2_insertLetter 4 = .ok (.iload_n 3, 1) := by decide +kernel
theorem dX2_insertLetter_5 : decode cX2_insertLetter 5 = .ok (.bipush 6, 2) := by decide +kernel
theorem dX2_insertLetter_7 : decode cX2_insertLetter 7 = .ok (.if_icmp .ge 64, 3) := by decide +kernel
theorem dX2_insertLetter_10 : decode cX2_insertLetter 10 = .ok (.aload_n 0, 1) := by decide +kernel
theorem dX2_insertLetter_11 : decode cX2_insertLetter 11 = .ok (.iload_n 3, 1) := by decide +kernel
theorem dX2_insertLetter_12 : decode cX2_insertLetter 12 = .ok (.iload_n 2, 1) := by decide +kernel
theorem dX2_insertLetter_13 : decode cX2_insertLetter 13 = .ok (.invokevirtual 56, 3) := by decide +kernel
theorem dX2_insertLetter_16 : decode cX2_insertLetter 16 = .ok (.istore 4, 2) := by decide +kernel
theorem dX2_insertLetter_18 : decode cX2_insertLetter 18 = .ok (.iload 4, 2) := by decide +kernel
theorem dX2_insertLetter_20 : decode cX2_insertLetter 20 = .ok (.aload_n 0, 1) := by decide +kernel
theorem dX2_insertLetter_21 : decode cX2_insertLetter 21 = .ok (.getfield 9, 3) := by decide +kernel
theorem dX2_insertLetter_24 : decode cX2_insertLetter 24 = .ok (.iload_n 3, 1) := by decide +kernel
theorem dX2_insertLetter_25 : decode cX2_insertLetter 25 = .ok (.iaload, 1) := by decide +kernel
theorem dX2_insertLetter_26 : decode cX2_insertLetter 26 = .ok (.if_icmp .ne 10, 3) := by decide +kernel
theorem dX2_insertLetter_29 : decode cX2_insertLetter 29 = .ok (.aload_n 0, 1) := by decide +kernel
theorem dX2_insertLetter_30 : decode cX2_insertLetter 30 = .ok (.iload_n 3, 1) := by decide +kernel
theorem dX2_insertLetter_31 : decode cX2_insertLetter 31 = .ok (.iload_n 2, 1) := by decide +kernel
theorem dX2_insertLetter_32 : decode cX2_insertLetter 32 = .ok (.invokevirtual 59, 3) := by decide +kernel
theorem dX2_insertLetter_35 : decode cX2_insertLetter 35 = .ok (.return_, 1) := by decide +kernel
theorem dX2_insertLetter_36 : decode cX2_insertLetter 36 = .ok (.iload_n 3, 1) := by decide +kernel
theorem dX2_insertLetter_37 : decode cX2_insertLetter 37 = .ok (.bipush 6, 2) := by decide +kernel
theorem dX2_insertLetter_39 : decode cX2_insertLetter 39 = .ok (.imul, 1) := by decide +kernel
theorem dX2_insertLetter_40 : decode cX2_insertLetter 40 = .ok (.iload 4, 2) := by decide +kernel
theorem dX2_insertLetter_42 : decode cX2_insertLetter 42 = .ok (.iadd, 1) := by decide +kernel
theorem dX2_insertLetter_43 : decode cX2_insertLetter 43 = .ok (.istore 5, 2) := by decide +kernel
theorem dX2_insertLetter_45 : decode cX2_insertLetter 45 = .ok (.aload_n 0, 1) := by decide +kernel
theorem dX2_insertLetter_46 : decode cX2_insertLetter 46 = .ok (.getfield 15, 3) := by decide +kernel
theorem dX2_insertLetter_49 : decode cX2_insertLetter 49 = .ok (.iload 5, 2) := by decide +kernel
theorem dX2_insertLetter_51 : decode cX2_insertLetter 51 = .ok (.iaload, 1) := by decide +kernel
theorem dX2_insertLetter_52 : decode cX2_insertLetter 52 = .ok (.istore 6, 2) := by decide +kernel
theorem dX2_insertLetter_54 : decode cX2_insertLetter 54 = .ok (.aload_n 0, 1) := by decide +kernel
theorem dX2_insertLetter_55 : decode cX2_insertLetter 55 = .ok (.getfield 15, 3) := by decide +kernel
theorem dX2_insertLetter_58 : decode cX2_insertLetter 58 = .ok (.iload 5, 2) := by decide +kernel
theorem dX2_insertLetter_60 : decode cX2_insertLetter 60 = .ok (.iload_n 2, 1) := by decide +kernel
theorem dX2_insertLetter_61 : decode cX2_insertLetter 61 = .ok (.iastore, 1) := by decide +kernel
theorem dX2_insertLetter_62 : decode cX2_insertLetter 62 = .ok (.iload 6, 2) := by decide +kernel
theorem dX2_insertLetter_64 : decode cX2_insertLetter 64 = .ok (.istore_n 2, 1) := by decide +kernel
theorem dX2_insertLetter_65 : decode cX2_insertLetter 65 = .ok (.iinc 3 1, 3) := by decide +kernel
theorem dX2_insertLetter_68 : decode cX2_insertLetter 68 = .ok (.goto (-64), 3) := by decide +kernel
theorem dX2_insertLetter_71 : decode cX2_insertLetter 71 = .ok (.return_, 1) := by decide +kernel
theorem dX2_firstGreater_0 : decode cX2_firstGreater 0 = .ok (.iconst 0, 1) := by decide +kernel
theorem dX2_firstGreater_1 : decode cX2_firstGreater 1 = .ok (.istore_n 3, 1) := by decide +kernel
theorem dX2_firstGreater_2 : decode cX2_firstGreater 2 = .ok (.iload_n 3, 1) := by decide +kernel
theorem dX2_firstGreater_3 : decode cX2_firstGreater 3 = .ok (.aload_n 0, 1) := by decide +kernel
theorem dX2_firstGreater_4 : decode cX2_firstGreater 4 = .ok (.getfield 9, 3) := by decide +kernel
theorem dX2_firstGreater_7 : decode cX2_firstGreater 7 = .ok (.iload_n 1, 1) := by decide +kernel
theorem dX2_firstGreater_8 : decode cX2_firstGreater 8 = .ok (.iaload, 1) := by decide +kernel
theorem dX2_firstGreater_9 : decode cX2_firstGreater 9 = .ok (.if_icmp .ge 21, 3) := by decide +kernel
theorem dX2_firstGreater_12 : decode cX2_firstGreater 12 = .ok (.aload_n 0, 1) := by decide +kernel
theorem dX2_firstGreater_13 : decode cX2_firstGreater 13 = .ok (.iload_n 1, 1) := by decide +kernel
theorem dX2_firstGreater_14 : decode cX2_firstGreater 14 = .ok (.iload_n 3, 1) := by decide +kernel
theorem dX2_firstGreater_15 : decode cX2_firstGreater 15 = .ok (.invokevirtual 34, 3) := by decide +kernel
theorem dX2_firstGreater_18 : decode cX2_firstGreater 18 = .ok (.iload_n 2, 1) := by decide +kernel
theorem dX2_firstGreater_19 : decode cX2_firstGreater 19 = .ok (.if_icmp .le 5, 3) := by decide +kernel
theorem dX2_firstGreater_22 : decode cX2_firstGreater 22 = .ok (.iload_n 3, 1) := by decide +kernel
theorem dX2_firstGreater_23 : decode cX2_firstGreater 23 = .ok (.ireturn, 1) := by decide +kernel
theorem dX2_firstGreater_24 : decode cX2_firstGreater 24 = .ok (.iinc 3 1, 3) := by decide +kernel
theorem dX2_firstGreater_27 : decode cX2_firstGreater 27 = .ok (.goto (-25), 3) := by decide +kernel
theorem dX2_firstGreater_30 : decode cX2_firstGreater 30 = .ok (.aload_n 0, 1) := by decide +kernel
theorem dX2_firstGreater_31 : decode cX2_firstGreater 31 = .ok (.getfield 9, 3) := by decide +kernel
theorem dX2_firstGreater_34 : decode cX2_firstGreater 34 = .ok (.iload_n 1, 1) := by decide +kernel
theorem dX2_firstGreater_35 : decode cX2_firstGreater 35 = .ok (.iaload, 1) := by decide +kernel
theorem dX2_firstGreater_36 : decode cX2_firstGreater 36 = .ok (.ireturn, 1) := by decide +kernel
theorem dX2_cellAt_0 : decode cX2_cellAt 0 = .ok (.aload_n 0, 1) := by decide +kernel
theorem dX2_cellAt_1 : decode cX2_cellAt 1 = .ok (.getfield 15, 3) := by decide +kernel
theorem dX2_cellAt_4 : decode cX2_cellAt 4 = .ok (.iload_n 1, 1) := by decide +kernel
theorem dX2_cellAt_5 : decode cX2_cellAt 5 = .ok (.bipush 6, 2) := by decide +kernel
theorem dX2_cellAt_7 : decode cX2_cellAt 7 = .ok (.imul, 1) := by decide +kernel
theorem dX2_cellAt_8 : decode cX2_cellAt 8 = .ok (.iload_n 2, 1) := by decide +kernel
theorem dX2_cellAt_9 : decode cX2_cellAt 9 = .ok (.iadd, 1) := by decide +kernel
theorem dX2_cellAt_10 : decode cX2_cellAt 10 = .ok (.iaload, 1) := by decide +kernel
theorem dX2_cellAt_11 : decode cX2_cellAt 11 = .ok (.ireturn, 1) := by decide +kernel
theorem dX2_writeTo_0 : decode cX2_writeTo 0 = .ok (.aload_n 1, 1) := by decide +kernel
theorem dX2_writeTo_1 : decode cX2_writeTo 1 = .ok (.iconst 2, 1) := by decide +kernel
theorem dX2_writeTo_2 : decode cX2_writeTo 2 = .ok (.putfield 63, 3) := by decide +kernel
theorem dX2_writeTo_5 : decode cX2_writeTo 5 = .ok (.aload_n 1, 1) := by decide +kernel
theorem dX2_writeTo_6 : decode cX2_writeTo 6 = .ok (.aload_n 0, 1) := by decide +kernel
theorem dX2_writeTo_7 : decode cX2_writeTo 7 = .ok (.getfield 25, 3) := by decide +kernel
theorem dX2_writeTo_10 : decode cX2_writeTo 10 = .ok (.putfield 46, 3) := by decide +kernel
theorem dX2_writeTo_13 : decode cX2_writeTo 13 = .ok (.aload_n 1, 1) := by decide +kernel
theorem dX2_writeTo_14 : decode cX2_writeTo 14 = .ok (.aload_n 0, 1) := by decide +kernel
theorem dX2_writeTo_15 : decode cX2_writeTo 15 = .ok (.getfield 21, 3) := by decide +kernel
theorem dX2_writeTo_18 : decode cX2_writeTo 18 = .ok (.putfield 66, 3) := by decide +kernel
theorem dX2_writeTo_21 : decode cX2_writeTo 21 = .ok (.aload_n 0, 1) := by decide +kernel
theorem dX2_writeTo_22 : decode cX2_writeTo 22 = .ok (.getfield 9, 3) := by decide +kernel
theorem dX2_writeTo_25 : decode cX2_writeTo 25 = .ok (.iconst 0, 1) := by decide +kernel
theorem dX2_writeTo_26 : decode cX2_writeTo 26 = .ok (.aload_n 1, 1) := by decide +kernel
theorem dX2_writeTo_27 : decode cX2_writeTo 27 = .ok (.getfield 67, 3) := by decide +kernel
theorem dX2_writeTo_30 : decode cX2_writeTo 30 = .ok (.iconst 0, 1) := by decide +kernel
theorem dX2_writeTo_31 : decode cX2_writeTo 31 = .ok (.aload_n 0, 1) := by decide +kernel
theorem dX2_writeTo_32 : decode cX2_writeTo 32 = .ok (.getfield 21, 3) := by decide +kernel
theorem dX2_writeTo_35 : decode cX2_writeTo 35 = .ok (.invokestatic 68, 3) := by decide +kernel
theorem dX2_writeTo_38 : decode cX2_writeTo 38 = .ok (.iconst 0, 1) := by decide +kernel
theorem dX2_writeTo_39 : decode cX2_writeTo 39 = .ok (.istore_n 2, 1) := by decide +kernel
theorem dX2_writeTo_40 : decode cX2_writeTo 40 = .ok (.aload_n 0, 1) := by decide +kernel
theorem dX2_writeTo_41 : decode cX2_writeTo 41 = .ok (.getfield 21, 3) := by decide +kernel
theorem dX2_writeTo_44 : decode cX2_writeTo 44 = .ok (.iconst 1, 1) := by decide +kernel
theorem dX2_writeTo_45 : decode cX2_writeTo 45 = .ok (.isub, 1) := by decide +kernel
theorem dX2_writeTo_46 : decode cX2_writeTo 46 = .ok (.istore_n 3, 1) := by decide +kernel
theorem dX2_writeTo_47 : decode cX2_writeTo 47 = .ok (.iload_n 3, 1) := by decide +kernel
theorem dX2_writeTo_48 : decode cX2_writeTo 48 = .ok (.ifCond .lt 40, 3) := by decide +kernel
theorem dX2_writeTo_51 : decode cX2_writeTo 51 = .ok (.aload_n 0, 1) := by decide +kernel
theorem dX2_writeTo_52 : decode cX2_writeTo 52 = .ok (.getfield 15, 3) := by decide +kernel
theorem dX2_writeTo_55 : decode cX2_writeTo 55 = .ok (.iload_n 3, 1) := by decide +kernel
theorem dX2_writeTo_56 : decode cX2_writeTo 56 = .ok (.bipush 6, 2) := by decide +kernel
theorem dX2_writeTo_58 : decode cX2_writeTo 58 = .ok (.imul, 1) := by decide +kernel
theorem dX2_writeTo_59 : decode cX2_writeTo 59 = .ok (.aload_n 1, 1) := by decide +kernel
theorem dX2_writeTo_60 : decode cX2_writeTo 60 = .ok (.getfield 49, 3) := by decide +kernel
theorem dX2_writeTo_63 : decode cX2_writeTo 63 = .ok (.iload_n 2, 1) := by decide +kernel
theorem dX2_writeTo_64 : decode cX2_writeTo 64 = .ok (.aload_n 0, 1) := by decide +kernel
theorem dX2_writeTo_65 : decode cX2_writeTo 65 = .ok (.getfield 9, 3) := by decide +kernel
theorem dX2_writeTo_68 : decode cX2_writeTo 68 = .ok (.iload_n 3, 1) := by decide +kernel
theorem dX2_writeTo_69 : decode cX2_writeTo 69 = .ok (.iaload, 1) := by decide +kernel
theorem dX2_writeTo_70 : decode cX2_writeTo 70 = .ok (.invokestatic 68, 3) := by decide +kernel
theorem dX2_writeTo_73 : decode cX2_writeTo 73 = .ok (.iload_n 2, 1) := by decide +kernel
theorem dX2_writeTo_74 : decode cX2_writeTo 74 = .ok (.aload_n 0, 1) := by decide +kernel
theorem dX2_writeTo_75 : decode cX2_writeTo 75 = .ok (.getfield 9, 3) := by decide +kernel
theorem dX2_writeTo_78 : decode cX2_writeTo 78 = .ok (.iload_n 3, 1) := by decide +kernel
theorem dX2_writeTo_79 : decode cX2_writeTo 79 = .ok (.iaload, 1) := by decide +kernel
theorem dX2_writeTo_80 : decode cX2_writeTo 80 = .ok (.iadd, 1) := by decide +kernel
theorem dX2_writeTo_81 : decode cX2_writeTo 81 = .ok (.istore_n 2, 1) := by decide +kernel
theorem dX2_writeTo_82 : decode cX2_writeTo 82 = .ok (.iinc 3 (-1), 3) := by decide +kernel
theorem dX2_writeTo_85 : decode cX2_writeTo 85 = .ok (.goto (-38), 3) := by decide +kernel
theorem dX2_writeTo_88 : decode cX2_writeTo 88 = .ok (.return_, 1) := by decide +kernel
theorem dX2_turnsOfRow_0 : decode cX2_turnsOfRow 0 = .ok (.iconst 0, 1) := by decide +kernel
theorem dX2_turnsOfRow_1 : decode cX2_turnsOfRow 1 = .ok (.istore_n 2, 1) := by decide +kernel
theorem dX2_turnsOfRow_2 : decode cX2_turnsOfRow 2 = .ok (.iconst 0, 1) := by decide +kernel
theorem dX2_turnsOfRow_3 : decode cX2_turnsOfRow 3 = .ok (.istore_n 3, 1) := by decide +kernel
theorem dX2_turnsOfRow_4 : decode cX2_turnsOfRow 4 = .ok (.iload_n 3, 1) := by decide +kernel
theorem dX2_turnsOfRow_5 : decode cX2_turnsOfRow 5 = .ok (.aload_n 0, 1) := by decide +kernel
theorem dX2_turnsOfRow_6 : decode cX2_turnsOfRow 6 = .ok (.getfield 9, 3) := by decide +kernel
theorem dX2_turnsOfRow_9 : decode cX2_turnsOfRow 9 = .ok (.iload_n 1, 1) := by decide +kernel
theorem dX2_turnsOfRow_10 : decode cX2_turnsOfRow 10 = .ok (.iaload, 1) := by decide +kernel
theorem dX2_turnsOfRow_11 : decode cX2_turnsOfRow 11 = .ok (.if_icmp .ge 26, 3) := by decide +kernel
theorem dX2_turnsOfRow_14 : decode cX2_turnsOfRow 14 = .ok (.iload_n 2, 1) := by decide +kernel
theorem dX2_turnsOfRow_15 : decode cX2_turnsOfRow 15 = .ok (.bipush 10, 2) := by decide +kernel
theorem dX2_turnsOfRow_17 : decode cX2_turnsOfRow 17 = .ok (.imul, 1) := by decide +kernel
theorem dX2_turnsOfRow_18 : decode cX2_turnsOfRow 18 = .ok (.aload_n 0, 1) := by decide +kernel
theorem dX2_turnsOfRow_19 : decode cX2_turnsOfRow 19 = .ok (.getfield 18, 3) := by decide +kernel
theorem dX2_turnsOfRow_22 : decode cX2_turnsOfRow 22 = .ok (.iload_n 1, 1) := by decide +kernel
theorem dX2_turnsOfRow_23 : decode cX2_turnsOfRow 23 = .ok (.bipush 6, 2) := by decide +kernel
theorem dX2_turnsOfRow_25 : decode cX2_turnsOfRow 25 = .ok (.imul, 1) := by decide +kernel
theorem dX2_turnsOfRow_26 : decode cX2_turnsOfRow 26 = .ok (.iload_n 3, 1) := by decide +kernel
theorem dX2_turnsOfRow_27 : decode cX2_turnsOfRow 27 = .ok (.iadd, 1) := by decide +kernel
theorem dX2_turnsOfRow_28 : decode cX2_turnsOfRow 28 = .ok (.iaload, 1) := by decide +kernel
theorem dX2_turnsOfRow_29 : decode cX2_turnsOfRow 29 = .ok (.iadd, 1) := by decide +kernel
theorem dX2_turnsOfRow_30 : decode cX2_turnsOfRow 30 = .ok (.istore_n 2, 1) := by decide +kernel
theorem dX2_turnsOfRow_31 : decode cX2_turnsOfRow 31 = .ok (.iinc 3 1, 3) := by decide +kernel
theorem dX2_turnsOfRow_34 : decode cX2_turnsOfRow 34 = .ok (.goto (-30), 3) := by decide +kernel
theorem dX2_turnsOfRow_37 : decode cX2_turnsOfRow 37 = .ok (.iload_n 2, 1) := by decide +kernel
theorem dX2_turnsOfRow_38 : decode cX2_turnsOfRow 38 = .ok (.ireturn, 1) := by decide +kernel
theorem dX3_init_0 : decode cX3_init 0 = .ok (.aload_n 0, 1) := by decide +kernel
theorem dX3_init_1 : decode cX3_init 1 = .ok (.invokespecial 3, 3) := by decide +kernel
theorem dX3_init_4 : decode cX3_init 4 = .ok (.aload_n 0, 1) := by decide +kernel
theorem dX3_init_5 : decode cX3_init 5 = .ok (.new 9, 3) := by decide +kernel
theorem dX3_init_8 : decode cX3_init 8 = .ok (.dup, 1) := by decide +kernel
theorem dX3_init_9 : decode cX3_init 9 = .ok (.invokespecial 11, 3) := by decide +kernel
theorem dX3_init_12 : decode cX3_init 12 = .ok (.putfield 12, 3) := by decide +kernel
theorem dX3_init_15 : decode cX3_init 15 = .ok (.aload_n 0, 1) := by decide +kernel
theorem dX3_init_16 : decode cX3_init 16 = .ok (.new 18, 3) := by decide +kernel
theorem dX3_init_19 : decode cX3_init 19 = .ok (.dup, 1) := by decide +kernel
theorem dX3_init_20 : decode cX3_init 20 = .ok (.invokespecial 20, 3) := by decide +kernel
theorem dX3_init_23 : decode cX3_init 23 = .ok (.putfield 21, 3) := by decide +kernel
theorem dX3_init_26 : decode cX3_init 26 = .ok (.return_, 1) := by decide +kernel
theorem dX3_look_0 : decode cX3_look 0 = .ok (.aload_n 0, 1) := by decide +kernel
theorem dX3_look_1 : decode cX3_look 1 = .ok (.aload_n 1, 1) := by decide +kernel
theorem dX3_look_2 : decode cX3_look 2 = .ok (.iload_n 2, 1) := by decide +kernel
theorem dX3_look_3 : decode cX3_look 3 = .ok (.invokevirtual 25, 3) := by decide +kernel
theorem dX3_look_6 : decode cX3_look 6 = .ok (.aload_n 0, 1) := by decide +kernel
theorem dX3_look_7 : decode cX3_look 7 = .ok (.aload_n 1, 1) := by decide +kernel
theorem dX3_look_8 : decode cX3_look 8 = .ok (.iload_n 2, 1) := by decide +kernel
theorem dX3_look_9 : decode cX3_look 9 = .ok (.invokevirtual 29, 3) := by decide +kernel
theorem dX3_look_12 : decode cX3_look 12 = .ok (.return_, 1) := by decide +kernel
theorem dX3_lookFromLeft_0 : decode cX3_lookFromLeft 0 = .ok (.aload_n 0, 1) := by decide +kernel
theorem dX3_lookFromLeft_1 : decode cX3_lookFromLeft 1 = .ok (.iconst 0, 1) := by decide +kernel
theorem dX3_lookFromLeft_2 : decode cX3_lookFromLeft 2 = .ok (.putfield 32, 3) := by decide +kernel
theorem dX3_lookFromLeft_5 : decode cX3_lookFromLeft 5 = .ok (.aload_n 0, 1) := by decide +kernel
theorem dX3_lookFromLeft_6 : decode cX3_lookFromLeft 6 = .ok (.iconst (-1), 1) := by decide +kernel
theorem dX3_lookFromLeft_7 : decode cX3_lookFromLeft 7 = .ok (.putfield 36, 3) := by decide +kernel
theorem dX3_lookFromLeft_10 : decode cX3_lookFromLeft 10 = .ok (.iconst 0, 1) := by decide +kernel
theorem dX3_lookFromLeft_11 : decode cX3_lookFromLeft 11 = .ok (.istore_n 3, 1) := by decide +kernel
theorem dX3_lookFromLeft_12 : decode cX3_lookFromLeft 12 = .ok (.iconst 0, 1) := by decide +kernel
theorem dX3_lookFromLeft_13 : decode cX3_lookFromLeft 13 = .ok (.istore 4, 2) := by decide +kernel
theorem dX3_lookFromLeft_15 : decode cX3_lookFromLeft 15 = .ok (.iload 4, 2) := by decide +kernel
theorem dX3_lookFromLeft_17 : decode cX3_lookFromLeft 17 = .ok (.aload_n 1, 1) := by decide +kernel
theorem dX3_lookFromLeft_18 : decode cX3_lookFromLeft 18 = .ok (.getfield 39, 3) := by decide +kernel
theorem dX3_lookFromLeft_21 : decode cX3_lookFromLeft 21 = .ok (.if_icmp .ge 70, 3) := by decide +kernel
theorem dX3_lookFromLeft_24 : decode cX3_lookFromLeft 24 = .ok (.aload_n 1, 1) := by decide +kernel
theorem dX3_lookFromLeft_25 : decode cX3_lookFromLeft 25 = .ok (.getfield 42, 3) := by decide +kernel
theorem dX3_lookFromLeft_28 : decode cX3_lookFromLeft 28 = .ok (.iload 4, 2) := by decide +kernel
theorem dX3_lookFromLeft_30 : decode cX3_lookFromLeft 30 = .ok (.iaload, 1) := by decide +kernel
theorem dX3_lookFromLeft_31 : decode cX3_lookFromLeft 31 = .ok (.istore 5, 2) := by decide +kernel
theorem dX3_lookFromLeft_33 : decode cX3_lookFromLeft 33 = .ok (.iload 5, 2) := by decide +kernel
theorem dX3_lookFromLeft_35 : decode cX3_lookFromLeft 35 = .ok (.iload_n 2, 1) := by decide +kernel
theorem dX3_lookFromLeft_36 : decode cX3_lookFromLeft 36 = .ok (.iconst 1, 1) := by decide +kernel
theorem dX3_lookFromLeft_37 : decode cX3_lookFromLeft 37 = .ok (.iadd, 1) := by decide +kernel
theorem dX3_lookFromLeft_38 : decode cX3_lookFromLeft 38 = .ok (.if_icmp .ne 9, 3) := by decide +kernel
theorem dX3_lookFromLeft_41 : decode cX3_lookFromLeft 41 = .ok (.iinc 3 1, 3) := by decide +kernel
theorem dX3_lookFromLeft_44 : decode cX3_lookFromLeft 44 = .ok (.goto 41, 3) := by decide +kernel
theorem dX3_lookFromLeft_47 : decode cX3_lookFromLeft 47 = .ok (.iload 5, 2) := by decide +kernel
theorem dX3_lookFromLeft_49 : decode cX3_lookFromLeft 49 = .ok (.iload_n 2, 1) := by decide +kernel
theorem dX3_lookFromLeft_50 : decode cX3_lookFromLeft 50 = .ok (.if_icmp .ne 13, 3) := by decide +kernel
theorem dX3_lookFromLeft_53 : decode cX3_lookFromLeft 53 = .ok (.iload_n 3, 1) := by decide +kernel
theorem dX3_lookFromLeft_54 : decode cX3_lookFromLeft 54 = .ok (.ifCond .le 9, 3) := by decide +kernel
theorem dX3_lookFromLeft_57 : decode cX3_lookFromLeft 57 = .ok (.iinc 3 (-1), 3) := by decide +kernel
theorem dX3_lookFromLeft_60 : decode cX3_lookFromLeft 60 = .ok (.goto 25, 3) := by decide +kernel
theorem dX3_lookFromLeft_63 : decode cX3_lookFromLeft 63 = .ok (.iload 5, 2) := by decide +kernel
theorem dX3_lookFromLeft_65 : decode cX3_lookFromLeft 65 = .ok (.iload_n 2, 1) := by decide +kernel
theorem dX3_lookFromLeft_66 : decode cX3_lookFromLeft 66 = .ok (.if_icmp .ne 19, 3) := by decide +kernel
theorem dX3_lookFromLeft_69 : decode cX3_lookFromLeft 69 = .ok (.aload_n 0, 1) := by decide +kernel
theorem dX3_lookFromLeft_70 : decode cX3_lookFromLeft 70 = .ok (.dup, 1) := by decide +kernel
theorem dX3_lookFromLeft_71 : decode cX3_lookFromLeft 71 = .ok (.getfield 32, 3) := by decide +kernel
theorem dX3_lookFromLeft_74 : decode cX3_lookFromLeft 74 = .ok (.iconst 1, 1) := by decide +kernel
theorem dX3_lookFromLeft_75 : decode cX3_lookFromLeft 75 = .ok (.iadd, 1) := by decide +kernel
theorem dX3_lookFromLeft_76 : decode cX3_lookFromLeft 76 = .ok (.putfield 32, 3) := by decide +kernel
theorem dX3_lookFromLeft_79 : decode cX3_lookFromLeft 79 = .ok (.aload_n 0, 1) := by decide +kernel
theorem dX3_lookFromLeft_80 : decode cX3_lookFromLeft 80 = .ok (.iload 4, 2) := by decide +kernel
theorem dX3_lookFromLeft_82 : decode cX3_lookFromLeft 82 = .ok (.putfield 36, 3) := by decide +kernel
theorem dX3_lookFromLeft_85 : decode cX3_lookFromLeft 85 = .ok (.iinc 4 1, 3) := by decide +kernel
theorem dX3_lookFromLeft_88 : decode cX3_lookFromLeft 88 = .ok (.goto (-73), 3) := by decide +kernel
theorem dX3_lookFromLeft_91 : decode cX3_lookFromLeft 91 = .ok (.return_, 1) := by decide +kernel
theorem dX3_lookFromRight_0 : decode cX3_lookFromRight 0 = .ok (.aload_n 0, 1) := by decide +kernel
theorem dX3_lookFromRight_1 : decode cX3_lookFromRight 1 = .ok (.iconst 0, 1) := by decide +kernel
theorem dX3_lookFromRight_2 : decode cX3_lookFromRight 2 = .ok (.putfield 46, 3) := by decide +kernel
theorem dX3_lookFromRight_5 : decode cX3_lookFromRight 5 = .ok (.aload_n 0, 1) := by decide +kernel
theorem dX3_lookFromRight_6 : decode cX3_lookFromRight 6 = .ok (.iconst (-1), 1) := by decide +kernel
theorem dX3_lookFromRight_7 : decode cX3_lookFromRight 7 = .ok (.putfield 49, 3) := by decide +kernel
theorem dX3_lookFromRight_10 : decode cX3_lookFromRight 10 = .ok (.iconst 0, 1) := by decide +kernel
theorem dX3_lookFromRight_11 : decode cX3_lookFromRight 11 = .ok (.istore_n 3, 1) := by decide +kernel
theorem dX3_lookFromRight_12 : decode cX3_lookFromRight 12 = .ok (.aload_n 1, 1) := by decide +kernel
theorem dX3_lookFromRight_13 : decode cX3_lookFromRight 13 = .ok (.getfield 39, 3) := by decide +kernel
theorem dX3_lookFromRight_16 : decode cX3_lookFromRight 16 = .ok (.iconst 1, 1) := by decide +kernel
theorem dX3_lookFromRight_17 : decode cX3_lookFromRight 17 = .ok (.isub, 1) := by decide +kernel
theorem dX3_lookFromRight_18 : decode cX3_lookFromRight 18 = .ok (.istore 4, 2) := by decide +kernel
theorem dX3_lookFromRight_20 : decode cX3_lookFromRight 20 = .ok (.iload 4, 2) := by decide +kernel
theorem dX3_lookFromRight_22 : decode cX3_lookFromRight 22 = .ok (.ifCond .lt 72, 3) := by decide +kernel
theorem dX3_lookFromRight_25 : decode cX3_lookFromRight 25 = .ok (.aload_n 1, 1) := by decide +kernel
theorem dX3_lookFromRight_26 : decode cX3_lookFromRight 26 = .ok (.getfield 42, 3) := by decide +kernel
theorem dX3_lookFromRight_29 : decode cX3_lookFromRight 29 = .ok (.iload 4, 2) := by decide +kernel
theorem dX3_lookFromRight_31 : decode cX3_lookFromRight 31 = .ok (.iaload, 1) := by decide +kernel
theorem dX3_lookFromRight_32 : decode cX3_lookFromRight 32 = .ok (.istore 5, 2) := by decide +kernel
theorem dX3_lookFromRight_34 : decode cX3_lookFromRight 34 = .ok (.iload 5, 2) := by decide +kernel
theorem dX3_lookFromRight_36 : decode cX3_lookFromRight 36 = .ok (.iload_n 2, 1) := by decide +kernel
theorem dX3_lookFromRight_37 : decode cX3_lookFromRight 37 = .ok (.if_icmp .ne 9, 3) := by decide +kernel
theorem dX3_lookFromRight_40 : decode cX3_lookFromRight 40 = .ok (.iinc 3 1, 3) := by decide +kernel
theorem dX3_lookFromRight_43 : decode cX3_lookFromRight 43 = .ok (.goto 45, 3) := by decide +kernel
theorem dX3_lookFromRight_46 : decode cX3_lookFromRight 46 = .ok (.iload 5, 2) := by decide +kernel
theorem dX3_lookFromRight_48 : decode cX3_lookFromRight 48 = .ok (.iload_n 2, 1) := by decide +kernel
theorem dX3_lookFromRight_49 : decode cX3_lookFromRight 49 = .ok (.iconst 1, 1) := by decide +kernel
theorem dX3_lookFromRight_50 : decode cX3_lookFromRight 50 = .ok (.iadd, 1) := by decide +kernel
theorem dX3_lookFromRight_51 : decode cX3_lookFromRight 51 = .ok (.if_icmp .ne 13, 3) := by decide +kernel
theorem dX3_lookFromRight_54 : decode cX3_lookFromRight 54 = .ok (.iload_n 3, 1) := by decide +kernel
theorem dX3_lookFromRight_55 : decode cX3_lookFromRight 55 = .ok (.ifCond .le 9, 3) := by decide +kernel
theorem dX3_lookFromRight_58 : decode cX3_lookFromRight 58 = .ok (.iinc 3 (-1), 3) := by decide +kernel
theorem dX3_lookFromRight_61 : decode cX3_lookFromRight 61 = .ok (.goto 27, 3) := by decide +kernel
theorem dX3_lookFromRight_64 : decode cX3_lookFromRight 64 = .ok (.iload 5, 2) := by decide +kernel
theorem dX3_lookFromRight_66 : decode cX3_lookFromRight 66 = .ok (.iload_n 2, 1) := by decide +kernel
theorem dX3_lookFromRight_67 : decode cX3_lookFromRight 67 = .ok (.iconst 1, 1) := by decide +kernel
theorem dX3_lookFromRight_68 : decode cX3_lookFromRight 68 = .ok (.iadd, 1) := by decide +kernel
theorem dX3_lookFromRight_69 : decode cX3_lookFromRight 69 = .ok (.if_icmp .ne 19, 3) := by decide +kernel
theorem dX3_lookFromRight_72 : decode cX3_lookFromRight 72 = .ok (.aload_n 0, 1) := by decide +kernel
theorem dX3_lookFromRight_73 : decode cX3_lookFromRight 73 = .ok (.dup, 1) := by decide +kernel
theorem dX3_lookFromRight_74 : decode cX3_lookFromRight 74 = .ok (.getfield 46, 3) := by decide +kernel
theorem dX3_lookFromRight_77 : decode cX3_lookFromRight 77 = .ok (.iconst 1, 1) := by decide +kernel
theorem dX3_lookFromRight_78 : decode cX3_lookFromRight 78 = .ok (.iadd, 1) := by decide +kernel
theorem dX3_lookFromRight_79 : decode cX3_lookFromRight 79 = .ok (.putfield 46, 3) := by decide +kernel
theorem dX3_lookFromRight_82 : decode cX3_lookFromRight 82 = .ok (.aload_n 0, 1) := by decide +kernel
theorem dX3_lookFromRight_83 : decode cX3_lookFromRight 83 = .ok (.iload 4, 2) := by decide +kernel
theorem dX3_lookFromRight_85 : decode cX3_lookFromRight 85 = .ok (.putfield 49, 3) := by decide +kernel
theorem dX3_lookFromRight_88 : decode cX3_lookFromRight 88 = .ok (.iinc 4 (-1), 3) := by decide +kernel
theorem dX3_lookFromRight_91 : decode cX3_lookFromRight 91 = .ok (.goto (-71), 3) := by decide +kernel
theorem dX3_lookFromRight_94 : decode cX3_lookFromRight 94 = .ok (.return_, 1) := by decide +kernel
theorem dX3_canRaise_0 : decode cX3_canRaise 0 = .ok (.aload_n 0, 1) := by decide +kernel
theorem dX3_canRaise_1 : decode cX3_canRaise 1 = .ok (.aload_n 1, 1) := by decide +kernel
theorem dX3_canRaise_2 : decode cX3_canRaise 2 = .ok (.iload_n 2, 1) := by decide +kernel
theorem dX3_canRaise_3 : decode cX3_canRaise 3 = .ok (.invokevirtual 29, 3) := by decide +kernel
theorem dX3_canRaise_6 : decode cX3_canRaise 6 = .ok (.aload_n 0, 1) := by decide +kernel
theorem dX3_canRaise_7 : decode cX3_canRaise 7 = .ok (.getfield 46, 3) := by decide +kernel
theorem dX3_canRaise_10 : decode cX3_canRaise 10 = .ok (.ifCond .le 7, 3) := by decide +kernel
theorem dX3_canRaise_13 : decode cX3_canRaise 13 = .ok (.iconst 1, 1) := by decide +kernel
theorem dX3_canRaise_14 : decode cX3_canRaise 14 = .ok (.goto 4, 3) := by decide +kernel
theorem dX3_canRaise_17 : decode cX3_canRaise 17 = .ok (.iconst 0, 1) := by decide +kernel
theorem dX3_canRaise_18 : decode cX3_canRaise 18 = .ok (.ireturn, 1) := by decide +kernel
theorem dX3_raiseOnce_0 : decode cX3_raiseOnce 0 = .ok (.aload_n 0, 1) := by decide +kernel
theorem dX3_raiseOnce_1 : decode cX3_raiseOnce 1 = .ok (.aload_n 1, 1) := by decide +kernel
theorem dX3_raiseOnce_2 : decode cX3_raiseOnce 2 = .ok (.iload_n 2, 1) := by decide +kernel
theorem dX3_raiseOnce_3 : decode cX3_raiseOnce 3 = .ok (.invokevirtual 29, 3) := by decide +kernel
theorem dX3_raiseOnce_6 : decode cX3_raiseOnce 6 = .ok (.aload_n 0, 1) := by decide +kernel
theorem dX3_raiseOnce_7 : decode cX3_raiseOnce 7 = .ok (.getfield 49, 3) := by decide +kernel
theorem dX3_raiseOnce_10 : decode cX3_raiseOnce 10 = .ok (.ifCond .ge 5, 3) := by decide +kernel
theorem dX3_raiseOnce_13 : decode cX3_raiseOnce 13 = .ok (.iconst 0, 1) := by decide +kernel
theorem dX3_raiseOnce_14 : decode cX3_raiseOnce 14 = .ok (.ireturn, 1) := by decide +kernel
theorem dX3_raiseOnce_15 : decode cX3_raiseOnce 15 = .ok (.aload_n 1, 1) := by decide +kernel
theorem dX3_raiseOnce_16 : decode cX3_raiseOnce 16 = .ok (.getfield 42, 3) := by decide +kernel
theorem dX3_raiseOnce_19 : decode cX3_raiseOnce 19 = .ok (.aload_n 0, 1) := by decide +kernel
theorem dX3_raiseOnce_20 : decode cX3_raiseOnce 20 = .ok (.getfield 49, 3) := by decide +kernel
theorem dX3_raiseOnce_23 : decode cX3_raiseOnce 23 = .ok (.iload_n 2, 1) := by decide +kernel
theorem dX3_raiseOnce_24 : decode cX3_raiseOnce 24 = .ok (.iastore, 1) := by decide +kernel
theorem dX3_raiseOnce_25 : decode cX3_raiseOnce 25 = .ok (.iconst 1, 1) := by decide +kernel
theorem dX3_raiseOnce_26 : decode cX3_raiseOnce 26 = .ok (.ireturn, 1) := by decide +kernel
theorem dX3_lowerOnce_0 : decode cX3_lowerOnce 0 = .ok (.aload_n 0, 1) := by decide +kernel
theorem dX3_lowerOnce_1 : decode cX3_lowerOnce 1 = .ok (.aload_n 1, 1) := by decide +kernel
theorem dX3_lowerOnce_2 : decode cX3_lowerOnce 2 = .ok (.iload_n 2, 1) := by decide +kernel
theorem dX3_lowerOnce_3 : decode cX3_lowerOnce 3 = .ok (.invokevirtual 25, 3) := by decide +kernel
theorem dX3_lowerOnce_6 : decode cX3_lowerOnce 6 = .ok (.aload_n 0, 1) := by decide +kernel
theorem dX3_lowerOnce_7 : decode cX3_lowerOnce 7 = .ok (.getfield 36, 3) := by decide +kernel
theorem dX3_lowerOnce_10 : decode cX3_lowerOnce 10 = .ok (.ifCond .ge 5, 3) := by decide +kernel
theorem dX3_lowerOnce_13 : decode cX3_lowerOnce 13 = .ok (.iconst 0, 1) := by decide +kernel
theorem dX3_lowerOnce_14 : decode cX3_lowerOnce 14 = .ok (.ireturn, 1) := by decide +kernel
theorem dX3_lowerOnce_15 : decode cX3_lowerOnce 15 = .ok (.aload_n 1, 1) := by decide +kernel
theorem dX3_lowerOnce_16 : decode cX3_lowerOnce 16 = .ok (.getfield 42, 3) := by decide +kernel
theorem dX3_lowerOnce_19 : decode cX3_lowerOnce 19 = .ok (.aload_n 0, 1) := by decide +kernel
theorem dX3_lowerOnce_20 : decode cX3_lowerOnce 20 = .ok (.getfield 36, 3) := by decide +kernel
theorem dX3_lowerOnce_23 : decode cX3_lowerOnce 23 = .ok (.iload_n 2, 1) := by decide +kernel
theorem dX3_lowerOnce_24 : decode cX3_lowerOnce 24 = .ok (.iconst 1, 1) := by decide +kernel
theorem dX3_lowerOnce_25 : decode cX3_lowerOnce 25 = .ok (.iadd, 1) := by decide +kernel
theorem dX3_lowerOnce_26 : decode cX3_lowerOnce 26 = .ok (.iastore, 1) := by decide +kernel
theorem dX3_lowerOnce_27 : decode cX3_lowerOnce 27 = .ok (.iconst 1, 1) := by decide +kernel
theorem dX3_lowerOnce_28 : decode cX3_lowerOnce 28 = .ok (.ireturn, 1) := by decide +kernel
theorem dX3_perform_0 : decode cX3_perform 0 = .ok (.iload_n 1, 1) := by decide +kernel
theorem dX3_perform_1 : decode cX3_perform 1 = .ok (.ifCond .ne 10, 3) := by decide +kernel
theorem dX3_perform_4 : decode cX3_perform 4 = .ok (.aload_n 0, 1) := by decide +kernel
theorem dX3_perform_5 : decode cX3_perform 5 = .ok (.aload_n 2, 1) := by decide +kernel
theorem dX3_perform_6 : decode cX3_perform 6 = .ok (.iload_n 3, 1) := by decide +kernel
theorem dX3_perform_7 : decode cX3_perform 7 = .ok (.invokevirtual 52, 3) := by decide +kernel
theorem dX3_perform_10 : decode cX3_perform 10 = .ok (.ireturn, 1) := by decide +kernel
theorem dX3_perform_11 : decode cX3_perform 11 = .ok (.iload_n 1, 1) := by decide +kernel
theorem dX3_perform_12 : decode cX3_perform 12 = .ok (.iconst 1, 1) := by decide +kernel
theorem dX3_perform_13 : decode cX3_perform 13 = .ok (.if_icmp .ne 10, 3) := by decide +kernel
theorem dX3_perform_16 : decode cX3_perform 16 = .ok (.aload_n 0, 1) := by decide +kernel
theorem dX3_perform_17 : decode cX3_perform 17 = .ok (.aload_n 2, 1) := by decide +kernel
theorem dX3_perform_18 : decode cX3_perform 18 = .ok (.iload_n 3, 1) := by decide +kernel
theorem dX3_perform_19 : decode cX3_perform 19 = .ok (.invokevirtual 56, 3) := by decide +kernel
theorem dX3_perform_22 : decode cX3_perform 22 = .ok (.ireturn, 1) := by decide +kernel
theorem dX3_perform_23 : decode cX3_perform 23 = .ok (.aload_n 0, 1) := by decide +kernel
theorem dX3_perform_24 : decode cX3_perform 24 = .ok (.getfield 12, 3) := by decide +kernel
theorem dX3_perform_27 : decode cX3_perform 27 = .ok (.aload_n 2, 1) := by decide +kernel
theorem dX3_perform_28 : decode cX3_perform 28 = .ok (.invokevirtual 59, 3) := by decide +kernel
theorem dX3_perform_31 : decode cX3_perform 31 = .ok (.iload_n 1, 1) := by decide +kernel
theorem dX3_perform_32 : decode cX3_perform 32 = .ok (.iconst 5, 1) := by decide +kernel
theorem dX3_perform_33 : decode cX3_perform 33 = .ok (.if_icmp .ne 13, 3) := by decide +kernel
theorem dX3_perform_36 : decode cX3_perform 36 = .ok (.aload_n 0, 1) := by decide +kernel
theorem dX3_perform_37 : decode cX3_perform 37 = .ok (.aload_n 2, 1) := by decide +kernel
theorem dX3_perform_38 : decode cX3_perform 38 = .ok (.iload 4, 2) := by decide +kernel
theorem dX3_perform_40 : decode cX3_perform 40 = .ok (.invokevirtual 63, 3) := by decide +kernel
theorem dX3_perform_43 : decode cX3_perform 43 = .ok (.goto 10, 3) := by decide +kernel
theorem dX3_perform_46 : decode cX3_perform 46 = .ok (.aload_n 0, 1) := by decide +kernel
theorem dX3_perform_47 : decode cX3_perform 47 = .ok (.iload_n 1, 1) := by decide +kernel
theorem dX3_perform_48 : decode cX3_perform 48 = .ok (.aload_n 2, 1) := by decide +kernel
theorem dX3_perform_49 : decode cX3_perform 49 = .ok (.iload_n 3, 1) := by decide +kernel
theorem dX3_perform_50 : decode cX3_perform 50 = .ok (.invokevirtual 66, 3) := by decide +kernel
theorem dX3_perform_53 : decode cX3_perform 53 = .ok (.aload_n 2, 1) := by decide +kernel
theorem dX3_perform_54 : decode cX3_perform 54 = .ok (.aload_n 0, 1) := by decide +kernel
theorem dX3_perform_55 : decode cX3_perform 55 = .ok (.getfield 12, 3) := by decide +kernel
theorem dX3_perform_58 : decode cX3_perform 58 = .ok (.invokevirtual 70, 3) := by decide +kernel
theorem dX3_perform_61 : decode cX3_perform 61 = .ok (.ifCond .ne 7, 3) := by decide +kernel
theorem dX3_perform_64 : decode cX3_perform 64 = .ok (.iconst 1, 1) := by decide +kernel
theorem dX3_perform_65 : decode cX3_perform 65 = .ok (.goto 4, 3) := by decide +kernel
theorem dX3_perform_68 : decode cX3_perform 68 = .ok (.iconst 0, 1) := by decide +kernel
theorem dX3_perform_69 : decode cX3_perform 69 = .ok (.ireturn, 1) := by decide +kernel
theorem dX3_moveAlong_0 : decode cX3_moveAlong 0 = .ok (.aload_n 0, 1) := by decide +kernel
theorem dX3_moveAlong_1 : decode cX3_moveAlong 1 = .ok (.aload_n 2, 1) := by decide +kernel
theorem dX3_moveAlong_2 : decode cX3_moveAlong 2 = .ok (.iload_n 3, 1) := by decide +kernel
theorem dX3_moveAlong_3 : decode cX3_moveAlong 3 = .ok (.invokevirtual 74, 3) := by decide +kernel
theorem dX3_moveAlong_6 : decode cX3_moveAlong 6 = .ok (.aload_n 0, 1) := by decide +kernel
theorem dX3_moveAlong_7 : decode cX3_moveAlong 7 = .ok (.getfield 32, 3) := by decide +kernel
theorem dX3_moveAlong_10 : decode cX3_moveAlong 10 = .ok (.istore 4, 2) := by decide +kernel
theorem dX3_moveAlong_12 : decode cX3_moveAlong 12 = .ok (.aload_n 0, 1) := by decide +kernel
theorem dX3_moveAlong_13 : decode cX3_moveAlong 13 = .ok (.getfield 46, 3) := by decide +kernel
theorem dX3_moveAlong_16 : decode cX3_moveAlong 16 = .ok (.istore 5, 2) := by decide +kernel
theorem dX3_moveAlong_18 : decode cX3_moveAlong 18 = .ok (.iload_n 1, 1) := by decide +kernel
theorem dX3_moveAlong_19 : decode cX3_moveAlong 19 = .ok (.iconst 3, 1) := by decide +kernel
theorem dX3_moveAlong_20 : decode cX3_moveAlong 20 = .ok (.if_icmp .ne 14, 3) := by decide +kernel
theorem dX3_moveAlong_23 : decode cX3_moveAlong 23 = .ok (.aload_n 0, 1) := by decide +kernel
theorem dX3_moveAlong_24 : decode cX3_moveAlong 24 = .ok (.aload_n 2, 1) := by decide +kernel
theorem dX3_moveAlong_25 : decode cX3_moveAlong 25 = .ok (.iload_n 3, 1) := by decide +kernel
theorem dX3_moveAlong_26 : decode cX3_moveAlong 26 = .ok (.iload 5, 2) := by decide +kernel
theorem dX3_moveAlong_28 : decode cX3_moveAlong 28 = .ok (.invokevirtual 77, 3) := by decide +kernel
theorem dX3_moveAlong_31 : decode cX3_moveAlong 31 = .ok (.goto 46, 3) := by decide +kernel
theorem dX3_moveAlong_34 : decode cX3_moveAlong 34 = .ok (.iload_n 1, 1) := by decide +kernel
theorem dX3_moveAlong_35 : decode cX3_moveAlong 35 = .ok (.iconst 4, 1) := by decide +kernel
theorem dX3_moveAlong_36 : decode cX3_moveAlong 36 = .ok (.if_icmp .ne 14, 3) := by decide +kernel
theorem dX3_moveAlong_39 : decode cX3_moveAlong 39 = .ok (.aload_n 0, 1) := by decide +kernel
theorem dX3_moveAlong_40 : decode cX3_moveAlong 40 = .ok (.aload_n 2, 1) := by decide +kernel
theorem dX3_moveAlong_41 : decode cX3_moveAlong 41 = .ok (.iload_n 3, 1) := by decide +kernel
theorem dX3_moveAlong_42 : decode cX3_moveAlong 42 = .ok (.iload 4, 2) := by decide +kernel
theorem dX3_moveAlong_44 : decode cX3_moveAlong 44 = .ok (.invokevirtual 81, 3) := by decide +kernel
theorem dX3_moveAlong_47 : decode cX3_moveAlong 47 = .ok (.goto 30, 3) := by decide +kernel
theorem dX3_moveAlong_50 : decode cX3_moveAlong 50 = .ok (.iload_n 1, 1) := by decide +kernel
theorem dX3_moveAlong_51 : decode cX3_moveAlong 51 = .ok (.iconst 2, 1) := by decide +kernel
theorem dX3_moveAlong_52 : decode cX3_moveAlong 52 = .ok (.if_icmp .ne 25, 3) := by decide +kernel
theorem dX3_moveAlong_55 : decode cX3_moveAlong 55 = .ok (.aload_n 0, 1) := by decide +kernel
theorem dX3_moveAlong_56 : decode cX3_moveAlong 56 = .ok (.aload_n 2, 1) := by decide +kernel
theorem dX3_moveAlong_57 : decode cX3_moveAlong 57 = .ok (.iload_n 3, 1) := by decide +kernel
theorem dX3_moveAlong_58 : decode cX3_moveAlong 58 = .ok (.iload 4, 2) := by decide +kernel
theorem dX3_moveAlong_60 : decode cX3_moveAlong 60 = .ok (.iload 5, 2) := by decide +kernel
theorem dX3_moveAlong_62 : decode cX3_moveAlong 62 = .ok (.isub, 1) := by decide +kernel
theorem dX3_moveAlong_63 : decode cX3_moveAlong 63 = .ok (.invokevirtual 81, 3) := by decide +kernel
theorem dX3_moveAlong_66 : decode cX3_moveAlong 66 = .ok (.aload_n 0, 1) := by decide +kernel
theorem dX3_moveAlong_67 : decode cX3_moveAlong 67 = .ok (.aload_n 2, 1) := by decide +kernel
theorem dX3_moveAlong_68 : decode cX3_moveAlong 68 = .ok (.iload_n 3, 1) := by decide +kernel
theorem dX3_moveAlong_69 : decode cX3_moveAlong 69 = .ok (.iload 5, 2) := by decide +kernel
theorem dX3_moveAlong_71 : decode cX3_moveAlong 71 = .ok (.iload 4, 2) := by decide +kernel
theorem dX3_moveAlong_73 : decode cX3_moveAlong 73 = .ok (.isub, 1) := by decide +kernel
theorem dX3_moveAlong_74 : decode cX3_moveAlong 74 = .ok (.invokevirtual 77, 3) := by decide +kernel
theorem dX3_moveAlong_77 : decode cX3_moveAlong 77 = .ok (.return_, 1) := by decide +kernel
theorem dX3_raiseTimes_0 : decode cX3_raiseTimes 0 = .ok (.iconst 0, 1) := by decide +kernel
theorem dX3_raiseTimes_1 : decode cX3_raiseTimes 1 = .ok (.istore 4, 2) := by decide +kernel
theorem dX3_raiseTimes_3 : decode cX3_raiseTimes 3 = .ok (.iload 4, 2) := by decide +kernel
theorem dX3_raiseTimes_5 : decode cX3_raiseTimes 5 = .ok (.iload_n 3, 1) := by decide +kernel
theorem dX3_raiseTimes_6 : decode cX3_raiseTimes 6 = .ok (.if_icmp .ge 16, 3) := by decide +kernel
theorem dX3_raiseTimes_9 : decode cX3_raiseTimes 9 = .ok (.aload_n 0, 1) := by decide +kernel
theorem dX3_raiseTimes_10 : decode cX3_raiseTimes 10 = .ok (.aload_n 1, 1) := by decide +kernel
theorem dX3_raiseTimes_11 : decode cX3_raiseTimes 11 = .ok (.iload_n 2, 1) := by decide +kernel
theorem dX3_raiseTimes_12 : decode cX3_raiseTimes 12 = .ok (.invokevirtual 52, 3) := by decide +kernel
theorem dX3_raiseTimes_15 : decode cX3_raiseTimes 15 = .ok (.pop, 1) := by decide +kernel
theorem dX3_raiseTimes_16 : decode cX3_raiseTimes 16 = .ok (.iinc 4 1, 3) := by decide +kernel
theorem dX3_raiseTimes_19 : decode cX3_raiseTimes 19 = .ok (.goto (-16), 3) := by decide +kernel
theorem dX3_raiseTimes_22 : decode cX3_raiseTimes 22 = .ok (.return_, 1) := by decide +kernel
theorem dX3_lowerTimes_0 : decode cX3_lowerTimes 0 = .ok (.iconst 0, 1) := by decide +kernel
theorem dX3_lowerTimes_1 : decode cX3_lowerTimes 1 = .ok (.istore 4, 2) := by decide +kernel
theorem dX3_lowerTimes_3 : decode cX3_lowerTimes 3 = .ok (.iload 4, 2) := by decide +kernel
theorem dX3_lowerTimes_5 : decode cX3_lowerTimes 5 = .ok (.iload_n 3, 1) := by decide +kernel
theorem dX3_lowerTimes_6 : decode cX3_lowerTimes 6 = .ok (.if_icmp .ge 16, 3) := by decide +kernel
theorem dX3_lowerTimes_9 : decode cX3_lowerTimes 9 = .ok (.aload_n 0, 1) := by decide +kernel
theorem dX3_lowerTimes_10 : decode cX3_lowerTimes 10 = .ok (.aload_n 1, 1) := by decide +kernel
theorem dX3_lowerTimes_11 : decode cX3_lowerTimes 11 = .ok (.iload_n 2, 1) := by decide +kernel
theorem dX3_lowerTimes_12 : decode cX3_lowerTimes 12 = .ok (.invokevirtual 56, 3) := by decide +kernel
theorem dX3_lowerTimes_15 : decode cX3_lowerTimes 15 = .ok (.pop, 1) := by decide +kernel
theorem dX3_lowerTimes_16 : decode cX3_lowerTimes 16 = .ok (.iinc 4 1, 3) := by decide +kernel
theorem dX3_lowerTimes_19 : decode cX3_lowerTimes 19 = .ok (.goto (-16), 3) := by decide +kernel
theorem dX3_lowerTimes_22 : decode cX3_lowerTimes 22 = .ok (.return_, 1) := by decide +kernel
theorem dX3_turn_0 : decode cX3_turn 0 = .ok (.iconst 0, 1) := by decide +kernel
theorem dX3_turn_1 : decode cX3_turn 1 = .ok (.istore_n 3, 1) := by decide +kernel
theorem dX3_turn_2 : decode cX3_turn 2 = .ok (.iload_n 3, 1) := by decide +kernel
theorem dX3_turn_3 : decode cX3_turn 3 = .ok (.aload_n 1, 1) := by decide +kernel
theorem dX3_turn_4 : decode cX3_turn 4 = .ok (.getfield 39, 3) := by decide +kernel
theorem dX3_turn_7 : decode cX3_turn 7 = .ok (.if_icmp .ge 35, 3) := by decide +kernel
theorem dX3_turn_10 : decode cX3_turn 10 = .ok (.aload_n 1, 1) := by decide +kernel
theorem dX3_turn_11 : decode cX3_turn 11 = .ok (.getfield 42, 3) := by decide +kernel
theorem dX3_turn_14 : decode cX3_turn 14 = .ok (.iload_n 3, 1) := by decide +kernel
theorem dX3_turn_15 : decode cX3_turn 15 = .ok (.iload_n 2, 1) := by decide +kernel
theorem dX3_turn_16 : decode cX3_turn 16 = .ok (.iconst 1, 1) := by decide +kernel
theorem dX3_turn_17 : decode cX3_turn 17 = .ok (.iadd, 1) := by decide +kernel
theorem dX3_turn_18 : decode cX3_turn 18 = .ok (.aload_n 0, 1) := by decide +kernel
theorem dX3_turn_19 : decode cX3_turn 19 = .ok (.getfield 12, 3) := by decide +kernel
theorem dX3_turn_22 : decode cX3_turn 22 = .ok (.getfield 42, 3) := by decide +kernel
theorem dX3_turn_25 : decode cX3_turn 25 = .ok (.aload_n 1, 1) := by decide +kernel
theorem dX3_turn_26 : decode cX3_turn 26 = .ok (.getfield 39, 3) := by decide +kernel
theorem dX3_turn_29 : decode cX3_turn 29 = .ok (.iconst 1, 1) := by decide +kernel
theorem dX3_turn_30 : decode cX3_turn 30 = .ok (.isub, 1) := by decide +kernel
theorem dX3_turn_31 : decode cX3_turn 31 = .ok (.iload_n 3, 1) := by decide +kernel
theorem dX3_turn_32 : decode cX3_turn 32 = .ok (.isub, 1) := by decide +kernel
theorem dX3_turn_33 : decode cX3_turn 33 = .ok (.iaload, 1) := by decide +kernel
theorem dX3_turn_34 : decode cX3_turn 34 = .ok (.isub, 1) := by decide +kernel
theorem dX3_turn_35 : decode cX3_turn 35 = .ok (.iastore, 1) := by decide +kernel
theorem dX3_turn_36 : decode cX3_turn 36 = .ok (.iinc 3 1, 3) := by decide +kernel
theorem dX3_turn_39 : decode cX3_turn 39 = .ok (.goto (-37), 3) := by decide +kernel
theorem dX3_turn_42 : decode cX3_turn 42 = .ok (.aload_n 1, 1) := by decide +kernel
theorem dX3_turn_43 : decode cX3_turn 43 = .ok (.getfield 84, 3) := by decide +kernel
theorem dX3_turn_46 : decode cX3_turn 46 = .ok (.iconst 2, 1) := by decide +kernel
theorem dX3_turn_47 : decode cX3_turn 47 = .ok (.if_icmp .ne 19, 3) := by decide +kernel
theorem dX3_turn_50 : decode cX3_turn 50 = .ok (.aload_n 0, 1) := by decide +kernel
theorem dX3_turn_51 : decode cX3_turn 51 = .ok (.getfield 21, 3) := by decide +kernel
theorem dX3_turn_54 : decode cX3_turn 54 = .ok (.aload_n 1, 1) := by decide +kernel
theorem dX3_turn_55 : decode cX3_turn 55 = .ok (.invokevirtual 87, 3) := by decide +kernel
theorem dX3_turn_58 : decode cX3_turn 58 = .ok (.aload_n 0, 1) := by decide +kernel
theorem dX3_turn_59 : decode cX3_turn 59 = .ok (.getfield 21, 3) := by decide +kernel
theorem dX3_turn_62 : decode cX3_turn 62 = .ok (.aload_n 1, 1) := by decide +kernel
theorem dX3_turn_63 : decode cX3_turn 63 = .ok (.invokevirtual 90, 3) := by decide +kernel
theorem dX3_turn_66 : decode cX3_turn 66 = .ok (.return_, 1) := by decide +kernel
theorem dX3_raiseToHighest_0 : decode cX3_raiseToHighest 0 = .ok (.iconst 0, 1) := by decide +kernel
theorem dX3_raiseToHighest_1 : decode cX3_raiseToHighest 1 = .ok (.istore_n 3, 1) := by decide +kernel
theorem dX3_raiseToHighest_2 : decode cX3_raiseToHighest 2 = .ok (.iload_n 3, 1) := by decide +kernel
theorem dX3_raiseToHighest_3 : decode cX3_raiseToHighest 3 = .ok (.bipush 30, 2) := by decide +kernel
theorem dX3_raiseToHighest_5 : decode cX3_raiseToHighest 5 = .ok (.if_icmp .ge 20, 3) := by decide +kernel
theorem dX3_raiseToHighest_8 : decode cX3_raiseToHighest 8 = .ok (.aload_n 0, 1) := by decide +kernel
theorem dX3_raiseToHighest_9 : decode cX3_raiseToHighest 9 = .ok (.aload_n 1, 1) := by decide +kernel
theorem dX3_raiseToHighest_10 : decode cX3_raiseToHighest 10 = .ok (.iload_n 2, 1) := by decide +kernel
theorem dX3_raiseToHighest_11 : decode cX3_raiseToHighest 11 = .ok (.invokevirtual 93, 3) := by decide +kernel
theorem dX3_raiseToHighest_14 : decode cX3_raiseToHighest 14 = .ok (.ifCond .ne 5, 3) := by decide +kernel
theorem dX3_raiseToHighest_17 : decode cX3_raiseToHighest 17 = .ok (.iload_n 3, 1) := by decide +kernel
theorem dX3_raiseToHighest_18 : decode cX3_raiseToHighest 18 = .ok (.ireturn, 1) := by decide +kernel
theorem dX3_raiseToHighest_19 : decode cX3_raiseToHighest 19 = .ok (.iinc 3 1, 3) := by decide +kernel
theorem dX3_raiseToHighest_22 : decode cX3_raiseToHighest 22 = .ok (.goto (-20), 3) := by decide +kernel
theorem dX3_raiseToHighest_25 : decode cX3_raiseToHighest 25 = .ok (.bipush 30, 2) := by decide +kernel
theorem dX3_raiseToHighest_27 : decode cX3_raiseToHighest 27 = .ok (.ireturn, 1) := by decide +kernel
theorem dX3_raisesForLeast_0 : decode cX3_raisesForLeast 0 = .ok (.iconst 1, 1) := by decide +kernel
theorem dX3_raisesForLeast_1 : decode cX3_raisesForLeast 1 = .ok (.istore_n 3, 1) := by decide +kernel
theorem dX3_raisesForLeast_2 : decode cX3_raisesForLeast 2 = .ok (.iload_n 3, 1) := by decide +kernel
theorem dX3_raisesForLeast_3 : decode cX3_raisesForLeast 3 = .ok (.iload_n 2, 1) := by decide +kernel
theorem dX3_raisesForLeast_4 : decode cX3_raisesForLeast 4 = .ok (.if_icmp .ge 20, 3) := by decide +kernel
theorem dX3_raisesForLeast_7 : decode cX3_raisesForLeast 7 = .ok (.aload_n 0, 1) := by decide +kernel
theorem dX3_raisesForLeast_8 : decode cX3_raisesForLeast 8 = .ok (.aload_n 1, 1) := by decide +kernel
theorem dX3_raisesForLeast_9 : decode cX3_raisesForLeast 9 = .ok (.iload_n 3, 1) := by decide +kernel
theorem dX3_raisesForLeast_10 : decode cX3_raisesForLeast 10 = .ok (.invokevirtual 52, 3) := by decide +kernel
theorem dX3_raisesForLeast_13 : decode cX3_raisesForLeast 13 = .ok (.ifCond .eq 5, 3) := by decide +kernel
theorem dX3_raisesForLeast_16 : decode cX3_raisesForLeast 16 = .ok (.iconst 1, 1) := by decide +kernel
theorem dX3_raisesForLeast_17 : decode cX3_raisesForLeast 17 = .ok (.ireturn, 1) := by decide +kernel
theorem dX3_raisesForLeast_18 : decode cX3_raisesForLeast 18 = .ok (.iinc 3 1, 3) := by decide +kernel
theorem dX3_raisesForLeast_21 : decode cX3_raisesForLeast 21 = .ok (.goto (-19), 3) := by decide +kernel
theorem dX3_raisesForLeast_24 : decode cX3_raisesForLeast 24 = .ok (.iconst 0, 1) := by decide +kernel
theorem dX3_raisesForLeast_25 : decode cX3_raisesForLeast 25 = .ok (.ireturn, 1) := by decide +kernel
theorem dX3_lowerToLowest_0 : decode cX3_lowerToLowest 0 = .ok (.iconst 0, 1) := by decide +kernel
theorem dX3_lowerToLowest_1 : decode cX3_lowerToLowest 1 = .ok (.istore_n 3, 1) := by decide +kernel
theorem dX3_lowerToLowest_2 : decode cX3_lowerToLowest 2 = .ok (.iload_n 3, 1) := by decide +kernel
theorem dX3_lowerToLowest_3 : decode cX3_lowerToLowest 3 = .ok (.bipush 30, 2) := by decide +kernel
theorem dX3_lowerToLowest_5 : decode cX3_lowerToLowest 5 = .ok (.if_icmp .ge 20, 3) := by decide +kernel
theorem dX3_lowerToLowest_8 : decode cX3_lowerToLowest 8 = .ok (.aload_n 0, 1) := by decide +kernel
theorem dX3_lowerToLowest_9 : decode cX3_lowerToLowest 9 = .ok (.aload_n 1, 1) := by decide +kernel
theorem dX3_lowerToLowest_10 : decode cX3_lowerToLowest 10 = .ok (.iload_n 2, 1) := by decide +kernel
theorem dX3_lowerToLowest_11 : decode cX3_lowerToLowest 11 = .ok (.invokevirtual 96, 3) := by decide +kernel
theorem dX3_lowerToLowest_14 : decode cX3_lowerToLowest 14 = .ok (.ifCond .ne 5, 3) := by decide +kernel
theorem dX3_lowerToLowest_17 : decode cX3_lowerToLowest 17 = .ok (.iload_n 3, 1) := by decide +kernel
theorem dX3_lowerToLowest_18 : decode cX3_lowerToLowest 18 = .ok (.ireturn, 1) := by decide +kernel
theorem dX3_lowerToLowest_19 : decode cX3_lowerToLowest 19 = .ok (.iinc 3 1, 3) := by decide +kernel
theorem dX3_lowerToLowest_22 : decode cX3_lowerToLowest 22 = .ok (.goto (-20), 3) := by decide +kernel
theorem dX3_lowerToLowest_25 : decode cX3_lowerToLowest 25 = .ok (.bipush 30, 2) := by decide +kernel
theorem dX3_lowerToLowest_27 : decode cX3_lowerToLowest 27 = .ok (.ireturn, 1) := by decide +kernel
theorem dX3_lowersForLeast_0 : decode cX3_lowersForLeast 0 = .ok (.iconst 1, 1) := by decide +kernel
theorem dX3_lowersForLeast_1 : decode cX3_lowersForLeast 1 = .ok (.istore_n 3, 1) := by decide +kernel
theorem dX3_lowersForLeast_2 : decode cX3_lowersForLeast 2 = .ok (.iload_n 3, 1) := by decide +kernel
theorem dX3_lowersForLeast_3 : decode cX3_lowersForLeast 3 = .ok (.iload_n 2, 1) := by decide +kernel
theorem dX3_lowersForLeast_4 : decode cX3_lowersForLeast 4 = .ok (.if_icmp .ge 20, 3) := by decide +kernel
theorem dX3_lowersForLeast_7 : decode cX3_lowersForLeast 7 = .ok (.aload_n 0, 1) := by decide +kernel
theorem dX3_lowersForLeast_8 : decode cX3_lowersForLeast 8 = .ok (.aload_n 1, 1) := by decide +kernel
theorem dX3_lowersForLeast_9 : decode cX3_lowersForLeast 9 = .ok (.iload_n 3, 1) := by decide +kernel
theorem dX3_lowersForLeast_10 : decode cX3_lowersForLeast 10 = .ok (.invokevirtual 56, 3) := by decide +kernel
theorem dX3_lowersForLeast_13 : decode cX3_lowersForLeast 13 = .ok (.ifCond .eq 5, 3) := by decide +kernel
theorem dX3_lowersForLeast_16 : decode cX3_lowersForLeast 16 = .ok (.iconst 1, 1) := by decide +kernel
theorem dX3_lowersForLeast_17 : decode cX3_lowersForLeast 17 = .ok (.ireturn, 1) := by decide +kernel
theorem dX3_lowersForLeast_18 : decode cX3_lowersForLeast 18 = .ok (.iinc 3 1, 3) := by decide +kernel
theorem dX3_lowersForLeast_21 : decode cX3_lowersForLeast 21 = .ok (.goto (-19), 3) := by decide +kernel
theorem dX3_lowersForLeast_24 : decode cX3_lowersForLeast 24 = .ok (.iconst 0, 1) := by decide +kernel
theorem dX3_lowersForLeast_25 : decode cX3_lowersForLeast 25 = .ok (.ireturn, 1) := by decide +kernel
theorem dX3_isHighest_0 : decode cX3_isHighest 0 = .ok (.iconst 1, 1) := by decide +kernel
theorem dX3_isHighest_1 : decode cX3_isHighest 1 = .ok (.istore_n 3, 1) := by decide +kernel
theorem dX3_isHighest_2 : decode cX3_isHighest 2 = .ok (.iload_n 3, 1) := by decide +kernel
theorem dX3_isHighest_3 : decode cX3_isHighest 3 = .ok (.iload_n 2, 1) := by decide +kernel
theorem dX3_isHighest_4 : decode cX3_isHighest 4 = .ok (.if_icmp .ge 20, 3) := by decide +kernel
theorem dX3_isHighest_7 : decode cX3_isHighest 7 = .ok (.aload_n 0, 1) := by decide +kernel
theorem dX3_isHighest_8 : decode cX3_isHighest 8 = .ok (.aload_n 1, 1) := by decide +kernel
theorem dX3_isHighest_9 : decode cX3_isHighest 9 = .ok (.iload_n 3, 1) := by decide +kernel
theorem dX3_isHighest_10 : decode cX3_isHighest 10 = .ok (.invokevirtual 99, 3) := by decide +kernel
theorem dX3_isHighest_13 : decode cX3_isHighest 13 = .ok (.ifCond .eq 5, 3) := by decide +kernel
theorem dX3_isHighest_16 : decode cX3_isHighest 16 = .ok (.iconst 0, 1) := by decide +kernel
theorem dX3_isHighest_17 : decode cX3_isHighest 17 = .ok (.ireturn, 1) := by decide +kernel
theorem dX3_isHighest_18 : decode cX3_isHighest 18 = .ok (.iinc 3 1, 3) := by decide +kernel
theorem dX3_isHighest_21 : decode cX3_isHighest 21 = .ok (.goto (-19), 3) := by decide +kernel
theorem dX3_isHighest_24 : decode cX3_isHighest 24 = .ok (.iconst 1, 1) := by decide +kernel
theorem dX3_isHighest_25 : decode cX3_isHighest 25 = .ok (.ireturn, 1) := by decide +kernel
theorem dX4_init_0 : decode cX4_init 0 = .ok (.aload_n 0, 1) := by decide +kernel
theorem dX4_init_1 : decode cX4_init 1 = .ok (.invokespecial 3, 3) := by decide +kernel
theorem dX4_init_4 : decode cX4_init 4 = .ok (.aload_n 0, 1) := by decide +kernel
theorem dX4_init_5 : decode cX4_init 5 = .ok (.bipush 6, 2) := by decide +kernel
theorem dX4_init_7 : decode cX4_init 7 = .ok (.newarray .int, 2) := by decide +kernel
theorem dX4_init_9 : decode cX4_init 9 = .ok (.putfield 9, 3) := by decide +kernel
theorem dX4_init_12 : decode cX4_init 12 = .ok (.return_, 1) := by decide +kernel
theorem dX4_isTold_0 : decode cX4_isTold 0 = .ok (.aload_n 0, 1) := by decide +kernel
theorem dX4_isTold_1 : decode cX4_isTold 1 = .ok (.iload_n 1, 1) := by decide +kernel
theorem dX4_isTold_2 : decode cX4_isTold 2 = .ok (.invokestatic 15, 3) := by decide +kernel
theorem dX4_isTold_5 : decode cX4_isTold 5 = .ok (.putfield 19, 3) := by decide +kernel
theorem dX4_isTold_8 : decode cX4_isTold 8 = .ok (.iload_n 1, 1) := by decide +kernel
theorem dX4_isTold_9 : decode cX4_isTold 9 = .ok (.ifCond .lt 11, 3) := by decide +kernel
theorem dX4_isTold_12 : decode cX4_isTold 12 = .ok (.aload_n 0, 1) := by decide +kernel
theorem dX4_isTold_13 : decode cX4_isTold 13 = .ok (.getfield 19, 3) := by decide +kernel
theorem dX4_isTold_16 : decode cX4_isTold 16 = .ok (.iload_n 2, 1) := by decide +kernel
theorem dX4_isTold_17 : decode cX4_isTold 17 = .ok (.if_icmp .le 5, 3) := by decide +kernel
theorem dX4_isTold_20 : decode cX4_isTold 20 = .ok (.iconst 0, 1) := by decide +kernel
theorem dX4_isTold_21 : decode cX4_isTold 21 = .ok (.ireturn, 1) := by decide +kernel
theorem dX4_isTold_22 : decode cX4_isTold 22 = .ok (.aload_n 0, 1) := by decide +kernel
theorem dX4_isTold_23 : decode cX4_isTold 23 = .ok (.iconst 0, 1) := by decide +kernel
theorem dX4_isTold_24 : decode cX4_isTold 24 = .ok (.putfield 23, 3) := by decide +kernel
theorem dX4_isTold_27 : decode cX4_isTold 27 = .ok (.iload_n 1, 1) := by decide +kernel
theorem dX4_isTold_28 : decode cX4_isTold 28 = .ok (.istore_n 3, 1) := by decide +kernel
theorem dX4_isTold_29 : decode cX4_isTold 29 = .ok (.iconst 1, 1) := by decide +kernel
theorem dX4_isTold_30 : decode cX4_isTold 30 = .ok (.istore 4, 2) := by decide +kernel
theorem dX4_isTold_32 : decode cX4_isTold 32 = .ok (.aload_n 0, 1) := by decide +kernel
theorem dX4_isTold_33 : decode cX4_isTold 33 = .ok (.getfield 19, 3) := by decide +kernel
theorem dX4_isTold_36 : decode cX4_isTold 36 = .ok (.iconst 1, 1) := by decide +kernel
theorem dX4_isTold_37 : decode cX4_isTold 37 = .ok (.isub, 1) := by decide +kernel
theorem dX4_isTold_38 : decode cX4_isTold 38 = .ok (.istore 5, 2) := by decide +kernel
theorem dX4_isTold_40 : decode cX4_isTold 40 = .ok (.iload 5, 2) := by decide +kernel
theorem dX4_isTold_42 : decode cX4_isTold 42 = .ok (.ifCond .lt 64, 3) := by decide +kernel
