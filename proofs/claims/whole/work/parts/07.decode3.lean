theorem dX9_all_8 : decode cX9_all 8 = .ok (.iconst (-1), 1) := by decide +kernel
theorem dX9_all_9 : decode cX9_all 9 = .ok (.if_icmp .ge 5, 3) := by decide +kernel
theorem dX9_all_12 : decode cX9_all 12 = .ok (.iconst (-1), 1) := by decide +kernel
theorem dX9_all_13 : decode cX9_all 13 = .ok (.ireturn, 1) := by decide +kernel
theorem dX9_all_14 : decode cX9_all 14 = .ok (.aload_n 0, 1) := by decide +kernel
theorem dX9_all_15 : decode cX9_all 15 = .ok (.iload_n 1, 1) := by decide +kernel
theorem dX9_all_16 : decode cX9_all 16 = .ok (.invokevirtual 130, 3) := by decide +kernel
theorem dX9_all_19 : decode cX9_all 19 = .ok (.ifCond .ne 6, 3) := by decide +kernel
theorem dX9_all_22 : decode cX9_all 22 = .ok (.bipush (-11), 2) := by decide +kernel
theorem dX9_all_24 : decode cX9_all 24 = .ok (.ireturn, 1) := by decide +kernel
theorem dX9_all_25 : decode cX9_all 25 = .ok (.aload_n 0, 1) := by decide +kernel
theorem dX9_all_26 : decode cX9_all 26 = .ok (.getfield 49, 3) := by decide +kernel
theorem dX9_all_29 : decode cX9_all 29 = .ok (.aload_n 0, 1) := by decide +kernel
theorem dX9_all_30 : decode cX9_all 30 = .ok (.getfield 10, 3) := by decide +kernel
theorem dX9_all_33 : decode cX9_all 33 = .ok (.getfield 99, 3) := by decide +kernel
theorem dX9_all_36 : decode cX9_all 36 = .ok (.iload_n 1, 1) := by decide +kernel
theorem dX9_all_37 : decode cX9_all 37 = .ok (.aaload, 1) := by decide +kernel
theorem dX9_all_38 : decode cX9_all 38 = .ok (.aload_n 0, 1) := by decide +kernel
theorem dX9_all_39 : decode cX9_all 39 = .ok (.getfield 10, 3) := by decide +kernel
theorem dX9_all_42 : decode cX9_all 42 = .ok (.getfield 84, 3) := by decide +kernel
theorem dX9_all_45 : decode cX9_all 45 = .ok (.aload_n 0, 1) := by decide +kernel
theorem dX9_all_46 : decode cX9_all 46 = .ok (.getfield 35, 3) := by decide +kernel
theorem dX9_all_49 : decode cX9_all 49 = .ok (.invokevirtual 190, 3) := by decide +kernel
theorem dX9_all_52 : decode cX9_all 52 = .ok (.iload_n 2, 1) := by decide +kernel
theorem dX9_all_53 : decode cX9_all 53 = .ok (.iconst (-1), 1) := by decide +kernel
theorem dX9_all_54 : decode cX9_all 54 = .ok (.if_icmp .ne 11, 3) := by decide +kernel
theorem dX9_all_57 : decode cX9_all 57 = .ok (.aload_n 0, 1) := by decide +kernel
theorem dX9_all_58 : decode cX9_all 58 = .ok (.getfield 49, 3) := by decide +kernel
theorem dX9_all_61 : decode cX9_all 61 = .ok (.getfield 194, 3) := by decide +kernel
theorem dX9_all_64 : decode cX9_all 64 = .ok (.ireturn, 1) := by decide +kernel
theorem dX9_all_65 : decode cX9_all 65 = .ok (.iload_n 2, 1) := by decide +kernel
theorem dX9_all_66 : decode cX9_all 66 = .ok (.aload_n 0, 1) := by decide +kernel
theorem dX9_all_67 : decode cX9_all 67 = .ok (.getfield 49, 3) := by decide +kernel
theorem dX9_all_70 : decode cX9_all 70 = .ok (.getfield 194, 3) := by decide +kernel
theorem dX9_all_73 : decode cX9_all 73 = .ok (.if_icmp .ge 14, 3) := by decide +kernel
theorem dX9_all_76 : decode cX9_all 76 = .ok (.aload_n 0, 1) := by decide +kernel
theorem dX9_all_77 : decode cX9_all 77 = .ok (.getfield 49, 3) := by decide +kernel
theorem dX9_all_80 : decode cX9_all 80 = .ok (.iload_n 2, 1) := by decide +kernel
theorem dX9_all_81 : decode cX9_all 81 = .ok (.invokevirtual 197, 3) := by decide +kernel
theorem dX9_all_84 : decode cX9_all 84 = .ok (.goto 5, 3) := by decide +kernel
theorem dX9_all_87 : decode cX9_all 87 = .ok (.bipush (-3), 2) := by decide +kernel
theorem dX9_all_89 : decode cX9_all 89 = .ok (.ireturn, 1) := by decide +kernel
theorem dX9_stands_0 : decode cX9_stands 0 = .ok (.iload_n 1, 1) := by decide +kernel
theorem dX9_stands_1 : decode cX9_stands 1 = .ok (.invokestatic 91, 3) := by decide +kernel
theorem dX9_stands_4 : decode cX9_stands 4 = .ok (.ifCond .ne 5, 3) := by decide +kernel
theorem dX9_stands_7 : decode cX9_stands 7 = .ok (.iconst (-1), 1) := by decide +kernel
theorem dX9_stands_8 : decode cX9_stands 8 = .ok (.ireturn, 1) := by decide +kernel
theorem dX9_stands_9 : decode cX9_stands 9 = .ok (.aload_n 0, 1) := by decide +kernel
theorem dX9_stands_10 : decode cX9_stands 10 = .ok (.iload_n 1, 1) := by decide +kernel
theorem dX9_stands_11 : decode cX9_stands 11 = .ok (.invokevirtual 130, 3) := by decide +kernel
theorem dX9_stands_14 : decode cX9_stands 14 = .ok (.ifCond .ne 6, 3) := by decide +kernel
theorem dX9_stands_17 : decode cX9_stands 17 = .ok (.bipush (-11), 2) := by decide +kernel
theorem dX9_stands_19 : decode cX9_stands 19 = .ok (.ireturn, 1) := by decide +kernel
theorem dX9_stands_20 : decode cX9_stands 20 = .ok (.aload_n 0, 1) := by decide +kernel
theorem dX9_stands_21 : decode cX9_stands 21 = .ok (.getfield 49, 3) := by decide +kernel
theorem dX9_stands_24 : decode cX9_stands 24 = .ok (.aload_n 0, 1) := by decide +kernel
theorem dX9_stands_25 : decode cX9_stands 25 = .ok (.getfield 10, 3) := by decide +kernel
theorem dX9_stands_28 : decode cX9_stands 28 = .ok (.getfield 99, 3) := by decide +kernel
theorem dX9_stands_31 : decode cX9_stands 31 = .ok (.iload_n 1, 1) := by decide +kernel
theorem dX9_stands_32 : decode cX9_stands 32 = .ok (.aaload, 1) := by decide +kernel
theorem dX9_stands_33 : decode cX9_stands 33 = .ok (.aload_n 0, 1) := by decide +kernel
theorem dX9_stands_34 : decode cX9_stands 34 = .ok (.getfield 10, 3) := by decide +kernel
theorem dX9_stands_37 : decode cX9_stands 37 = .ok (.getfield 84, 3) := by decide +kernel
theorem dX9_stands_40 : decode cX9_stands 40 = .ok (.aload_n 0, 1) := by decide +kernel
theorem dX9_stands_41 : decode cX9_stands 41 = .ok (.getfield 35, 3) := by decide +kernel
theorem dX9_stands_44 : decode cX9_stands 44 = .ok (.invokevirtual 190, 3) := by decide +kernel
theorem dX9_stands_47 : decode cX9_stands 47 = .ok (.aload_n 0, 1) := by decide +kernel
theorem dX9_stands_48 : decode cX9_stands 48 = .ok (.getfield 49, 3) := by decide +kernel
theorem dX9_stands_51 : decode cX9_stands 51 = .ok (.aload_n 0, 1) := by decide +kernel
theorem dX9_stands_52 : decode cX9_stands 52 = .ok (.getfield 10, 3) := by decide +kernel
theorem dX9_stands_55 : decode cX9_stands 55 = .ok (.getfield 99, 3) := by decide +kernel
theorem dX9_stands_58 : decode cX9_stands 58 = .ok (.iload_n 1, 1) := by decide +kernel
theorem dX9_stands_59 : decode cX9_stands 59 = .ok (.aaload, 1) := by decide +kernel
theorem dX9_stands_60 : decode cX9_stands 60 = .ok (.invokevirtual 200, 3) := by decide +kernel
theorem dX9_stands_63 : decode cX9_stands 63 = .ok (.ireturn, 1) := by decide +kernel
theorem dX9_way_0 : decode cX9_way 0 = .ok (.iload_n 1, 1) := by decide +kernel
theorem dX9_way_1 : decode cX9_way 1 = .ok (.invokestatic 91, 3) := by decide +kernel
theorem dX9_way_4 : decode cX9_way 4 = .ok (.ifCond .ne 5, 3) := by decide +kernel
theorem dX9_way_7 : decode cX9_way 7 = .ok (.iconst (-1), 1) := by decide +kernel
theorem dX9_way_8 : decode cX9_way 8 = .ok (.ireturn, 1) := by decide +kernel
theorem dX9_way_9 : decode cX9_way 9 = .ok (.aload_n 0, 1) := by decide +kernel
theorem dX9_way_10 : decode cX9_way 10 = .ok (.iload_n 1, 1) := by decide +kernel
theorem dX9_way_11 : decode cX9_way 11 = .ok (.invokevirtual 130, 3) := by decide +kernel
theorem dX9_way_14 : decode cX9_way 14 = .ok (.ifCond .ne 6, 3) := by decide +kernel
theorem dX9_way_17 : decode cX9_way 17 = .ok (.bipush (-11), 2) := by decide +kernel
theorem dX9_way_19 : decode cX9_way 19 = .ok (.ireturn, 1) := by decide +kernel
theorem dX9_way_20 : decode cX9_way 20 = .ok (.aload_n 0, 1) := by decide +kernel
theorem dX9_way_21 : decode cX9_way 21 = .ok (.getfield 76, 3) := by decide +kernel
theorem dX9_way_24 : decode cX9_way 24 = .ok (.aload_n 0, 1) := by decide +kernel
theorem dX9_way_25 : decode cX9_way 25 = .ok (.getfield 10, 3) := by decide +kernel
theorem dX9_way_28 : decode cX9_way 28 = .ok (.getfield 99, 3) := by decide +kernel
theorem dX9_way_31 : decode cX9_way 31 = .ok (.iload_n 1, 1) := by decide +kernel
theorem dX9_way_32 : decode cX9_way 32 = .ok (.aaload, 1) := by decide +kernel
theorem dX9_way_33 : decode cX9_way 33 = .ok (.invokevirtual 103, 3) := by decide +kernel
theorem dX9_way_36 : decode cX9_way 36 = .ok (.aload_n 0, 1) := by decide +kernel
theorem dX9_way_37 : decode cX9_way 37 = .ok (.getfield 35, 3) := by decide +kernel
theorem dX9_way_40 : decode cX9_way 40 = .ok (.aload_n 0, 1) := by decide +kernel
theorem dX9_way_41 : decode cX9_way 41 = .ok (.getfield 76, 3) := by decide +kernel
theorem dX9_way_44 : decode cX9_way 44 = .ok (.aload_n 0, 1) := by decide +kernel
theorem dX9_way_45 : decode cX9_way 45 = .ok (.getfield 10, 3) := by decide +kernel
theorem dX9_way_48 : decode cX9_way 48 = .ok (.getfield 84, 3) := by decide +kernel
theorem dX9_way_51 : decode cX9_way 51 = .ok (.invokevirtual 186, 3) := by decide +kernel
theorem dX9_way_54 : decode cX9_way 54 = .ok (.pop, 1) := by decide +kernel
theorem dX9_way_55 : decode cX9_way 55 = .ok (.aload_n 0, 1) := by decide +kernel
theorem dX9_way_56 : decode cX9_way 56 = .ok (.getfield 35, 3) := by decide +kernel
theorem dX9_way_59 : decode cX9_way 59 = .ok (.aload_n 0, 1) := by decide +kernel
theorem dX9_way_60 : decode cX9_way 60 = .ok (.getfield 76, 3) := by decide +kernel
theorem dX9_way_63 : decode cX9_way 63 = .ok (.aload_n 0, 1) := by decide +kernel
theorem dX9_way_64 : decode cX9_way 64 = .ok (.getfield 10, 3) := by decide +kernel
theorem dX9_way_67 : decode cX9_way 67 = .ok (.getfield 84, 3) := by decide +kernel
theorem dX9_way_70 : decode cX9_way 70 = .ok (.invokevirtual 204, 3) := by decide +kernel
theorem dX9_way_73 : decode cX9_way 73 = .ok (.ireturn, 1) := by decide +kernel
theorem dX9_pair_0 : decode cX9_pair 0 = .ok (.iload_n 1, 1) := by decide +kernel
theorem dX9_pair_1 : decode cX9_pair 1 = .ok (.invokestatic 91, 3) := by decide +kernel
theorem dX9_pair_4 : decode cX9_pair 4 = .ok (.ifCond .eq 24, 3) := by decide +kernel
theorem dX9_pair_7 : decode cX9_pair 7 = .ok (.aload_n 0, 1) := by decide +kernel
theorem dX9_pair_8 : decode cX9_pair 8 = .ok (.iload_n 2, 1) := by decide +kernel
theorem dX9_pair_9 : decode cX9_pair 9 = .ok (.invokevirtual 153, 3) := by decide +kernel
theorem dX9_pair_12 : decode cX9_pair 12 = .ok (.ifCond .eq 16, 3) := by decide +kernel
theorem dX9_pair_15 : decode cX9_pair 15 = .ok (.aload_n 0, 1) := by decide +kernel
theorem dX9_pair_16 : decode cX9_pair 16 = .ok (.iload_n 3, 1) := by decide +kernel
theorem dX9_pair_17 : decode cX9_pair 17 = .ok (.invokevirtual 153, 3) := by decide +kernel
theorem dX9_pair_20 : decode cX9_pair 20 = .ok (.ifCond .eq 8, 3) := by decide +kernel
theorem dX9_pair_23 : decode cX9_pair 23 = .ok (.iload_n 2, 1) := by decide +kernel
theorem dX9_pair_24 : decode cX9_pair 24 = .ok (.iload_n 3, 1) := by decide +kernel
theorem dX9_pair_25 : decode cX9_pair 25 = .ok (.if_icmp .ne 5, 3) := by decide +kernel
theorem dX9_pair_28 : decode cX9_pair 28 = .ok (.iconst (-1), 1) := by decide +kernel
theorem dX9_pair_29 : decode cX9_pair 29 = .ok (.ireturn, 1) := by decide +kernel
theorem dX9_pair_30 : decode cX9_pair 30 = .ok (.aload_n 0, 1) := by decide +kernel
theorem dX9_pair_31 : decode cX9_pair 31 = .ok (.iload_n 1, 1) := by decide +kernel
theorem dX9_pair_32 : decode cX9_pair 32 = .ok (.invokevirtual 130, 3) := by decide +kernel
theorem dX9_pair_35 : decode cX9_pair 35 = .ok (.ifCond .ne 6, 3) := by decide +kernel
theorem dX9_pair_38 : decode cX9_pair 38 = .ok (.bipush (-11), 2) := by decide +kernel
theorem dX9_pair_40 : decode cX9_pair 40 = .ok (.ireturn, 1) := by decide +kernel
theorem dX9_pair_41 : decode cX9_pair 41 = .ok (.aload_n 0, 1) := by decide +kernel
theorem dX9_pair_42 : decode cX9_pair 42 = .ok (.getfield 10, 3) := by decide +kernel
theorem dX9_pair_45 : decode cX9_pair 45 = .ok (.getfield 99, 3) := by decide +kernel
theorem dX9_pair_48 : decode cX9_pair 48 = .ok (.iload_n 1, 1) := by decide +kernel
theorem dX9_pair_49 : decode cX9_pair 49 = .ok (.aaload, 1) := by decide +kernel
theorem dX9_pair_50 : decode cX9_pair 50 = .ok (.astore 4, 2) := by decide +kernel
theorem dX9_pair_52 : decode cX9_pair 52 = .ok (.aload_n 0, 1) := by decide +kernel
theorem dX9_pair_53 : decode cX9_pair 53 = .ok (.getfield 35, 3) := by decide +kernel
theorem dX9_pair_56 : decode cX9_pair 56 = .ok (.aload 4, 2) := by decide +kernel
theorem dX9_pair_58 : decode cX9_pair 58 = .ok (.iload_n 2, 1) := by decide +kernel
theorem dX9_pair_59 : decode cX9_pair 59 = .ok (.invokevirtual 207, 3) := by decide +kernel
theorem dX9_pair_62 : decode cX9_pair 62 = .ok (.ifCond .eq 16, 3) := by decide +kernel
theorem dX9_pair_65 : decode cX9_pair 65 = .ok (.aload_n 0, 1) := by decide +kernel
theorem dX9_pair_66 : decode cX9_pair 66 = .ok (.getfield 35, 3) := by decide +kernel
theorem dX9_pair_69 : decode cX9_pair 69 = .ok (.aload 4, 2) := by decide +kernel
theorem dX9_pair_71 : decode cX9_pair 71 = .ok (.iload_n 3, 1) := by decide +kernel
theorem dX9_pair_72 : decode cX9_pair 72 = .ok (.invokevirtual 207, 3) := by decide +kernel
theorem dX9_pair_75 : decode cX9_pair 75 = .ok (.ifCond .ne 6, 3) := by decide +kernel
theorem dX9_pair_78 : decode cX9_pair 78 = .ok (.bipush (-3), 2) := by decide +kernel
theorem dX9_pair_80 : decode cX9_pair 80 = .ok (.ireturn, 1) := by decide +kernel
theorem dX9_pair_81 : decode cX9_pair 81 = .ok (.aload_n 0, 1) := by decide +kernel
theorem dX9_pair_82 : decode cX9_pair 82 = .ok (.aload 4, 2) := by decide +kernel
theorem dX9_pair_84 : decode cX9_pair 84 = .ok (.iload_n 2, 1) := by decide +kernel
theorem dX9_pair_85 : decode cX9_pair 85 = .ok (.iload_n 3, 1) := by decide +kernel
theorem dX9_pair_86 : decode cX9_pair 86 = .ok (.invokevirtual 211, 3) := by decide +kernel
theorem dX9_pair_89 : decode cX9_pair 89 = .ok (.ifCond .eq 5, 3) := by decide +kernel
theorem dX9_pair_92 : decode cX9_pair 92 = .ok (.iconst 1, 1) := by decide +kernel
theorem dX9_pair_93 : decode cX9_pair 93 = .ok (.ireturn, 1) := by decide +kernel
theorem dX9_pair_94 : decode cX9_pair 94 = .ok (.aload_n 0, 1) := by decide +kernel
theorem dX9_pair_95 : decode cX9_pair 95 = .ok (.aload 4, 2) := by decide +kernel
theorem dX9_pair_97 : decode cX9_pair 97 = .ok (.iload_n 2, 1) := by decide +kernel
theorem dX9_pair_98 : decode cX9_pair 98 = .ok (.iload_n 3, 1) := by decide +kernel
theorem dX9_pair_99 : decode cX9_pair 99 = .ok (.invokevirtual 215, 3) := by decide +kernel
theorem dX9_pair_102 : decode cX9_pair 102 = .ok (.ifCond .eq 7, 3) := by decide +kernel
theorem dX9_pair_105 : decode cX9_pair 105 = .ok (.iconst 2, 1) := by decide +kernel
theorem dX9_pair_106 : decode cX9_pair 106 = .ok (.goto 4, 3) := by decide +kernel
theorem dX9_pair_109 : decode cX9_pair 109 = .ok (.iconst 0, 1) := by decide +kernel
theorem dX9_pair_110 : decode cX9_pair 110 = .ok (.ireturn, 1) := by decide +kernel
theorem dX9_insert_0 : decode cX9_insert 0 = .ok (.iload_n 1, 1) := by decide +kernel
theorem dX9_insert_1 : decode cX9_insert 1 = .ok (.invokestatic 91, 3) := by decide +kernel
theorem dX9_insert_4 : decode cX9_insert 4 = .ok (.ifCond .eq 10, 3) := by decide +kernel
theorem dX9_insert_7 : decode cX9_insert 7 = .ok (.iload_n 2, 1) := by decide +kernel
theorem dX9_insert_8 : decode cX9_insert 8 = .ok (.invokestatic 91, 3) := by decide +kernel
theorem dX9_insert_11 : decode cX9_insert 11 = .ok (.ifCond .ne 5, 3) := by decide +kernel
theorem dX9_insert_14 : decode cX9_insert 14 = .ok (.iconst (-1), 1) := by decide +kernel
theorem dX9_insert_15 : decode cX9_insert 15 = .ok (.ireturn, 1) := by decide +kernel
theorem dX9_insert_16 : decode cX9_insert 16 = .ok (.aload_n 0, 1) := by decide +kernel
theorem dX9_insert_17 : decode cX9_insert 17 = .ok (.iload_n 1, 1) := by decide +kernel
theorem dX9_insert_18 : decode cX9_insert 18 = .ok (.invokevirtual 130, 3) := by decide +kernel
theorem dX9_insert_21 : decode cX9_insert 21 = .ok (.ifCond .ne 6, 3) := by decide +kernel
theorem dX9_insert_24 : decode cX9_insert 24 = .ok (.bipush (-11), 2) := by decide +kernel
theorem dX9_insert_26 : decode cX9_insert 26 = .ok (.ireturn, 1) := by decide +kernel
theorem dX9_insert_27 : decode cX9_insert 27 = .ok (.aload_n 0, 1) := by decide +kernel
theorem dX9_insert_28 : decode cX9_insert 28 = .ok (.getfield 42, 3) := by decide +kernel
theorem dX9_insert_31 : decode cX9_insert 31 = .ok (.aload_n 0, 1) := by decide +kernel
theorem dX9_insert_32 : decode cX9_insert 32 = .ok (.getfield 10, 3) := by decide +kernel
theorem dX9_insert_35 : decode cX9_insert 35 = .ok (.getfield 99, 3) := by decide +kernel
theorem dX9_insert_38 : decode cX9_insert 38 = .ok (.iload_n 1, 1) := by decide +kernel
theorem dX9_insert_39 : decode cX9_insert 39 = .ok (.aaload, 1) := by decide +kernel
theorem dX9_insert_40 : decode cX9_insert 40 = .ok (.invokevirtual 218, 3) := by decide +kernel
theorem dX9_insert_43 : decode cX9_insert 43 = .ok (.aload_n 0, 1) := by decide +kernel
theorem dX9_insert_44 : decode cX9_insert 44 = .ok (.getfield 42, 3) := by decide +kernel
theorem dX9_insert_47 : decode cX9_insert 47 = .ok (.aload_n 0, 1) := by decide +kernel
theorem dX9_insert_48 : decode cX9_insert 48 = .ok (.getfield 10, 3) := by decide +kernel
theorem dX9_insert_51 : decode cX9_insert 51 = .ok (.getfield 99, 3) := by decide +kernel
theorem dX9_insert_54 : decode cX9_insert 54 = .ok (.iload_n 2, 1) := by decide +kernel
theorem dX9_insert_55 : decode cX9_insert 55 = .ok (.aaload, 1) := by decide +kernel
theorem dX9_insert_56 : decode cX9_insert 56 = .ok (.invokevirtual 127, 3) := by decide +kernel
theorem dX9_insert_59 : decode cX9_insert 59 = .ok (.aload_n 0, 1) := by decide +kernel
theorem dX9_insert_60 : decode cX9_insert 60 = .ok (.getfield 42, 3) := by decide +kernel
theorem dX9_insert_63 : decode cX9_insert 63 = .ok (.getfield 221, 3) := by decide +kernel
theorem dX9_insert_66 : decode cX9_insert 66 = .ok (.ireturn, 1) := by decide +kernel
theorem dX9_record_0 : decode cX9_record 0 = .ok (.iload_n 1, 1) := by decide +kernel
theorem dX9_record_1 : decode cX9_record 1 = .ok (.invokestatic 91, 3) := by decide +kernel
theorem dX9_record_4 : decode cX9_record 4 = .ok (.ifCond .ne 5, 3) := by decide +kernel
theorem dX9_record_7 : decode cX9_record 7 = .ok (.iconst (-1), 1) := by decide +kernel
theorem dX9_record_8 : decode cX9_record 8 = .ok (.ireturn, 1) := by decide +kernel
theorem dX9_record_9 : decode cX9_record 9 = .ok (.aload_n 0, 1) := by decide +kernel
theorem dX9_record_10 : decode cX9_record 10 = .ok (.iload_n 1, 1) := by decide +kernel
theorem dX9_record_11 : decode cX9_record 11 = .ok (.invokevirtual 130, 3) := by decide +kernel
theorem dX9_record_14 : decode cX9_record 14 = .ok (.ifCond .ne 6, 3) := by decide +kernel
theorem dX9_record_17 : decode cX9_record 17 = .ok (.bipush (-11), 2) := by decide +kernel
theorem dX9_record_19 : decode cX9_record 19 = .ok (.ireturn, 1) := by decide +kernel
theorem dX9_record_20 : decode cX9_record 20 = .ok (.aload_n 0, 1) := by decide +kernel
theorem dX9_record_21 : decode cX9_record 21 = .ok (.getfield 42, 3) := by decide +kernel
theorem dX9_record_24 : decode cX9_record 24 = .ok (.aload_n 0, 1) := by decide +kernel
theorem dX9_record_25 : decode cX9_record 25 = .ok (.getfield 10, 3) := by decide +kernel
theorem dX9_record_28 : decode cX9_record 28 = .ok (.getfield 99, 3) := by decide +kernel
theorem dX9_record_31 : decode cX9_record 31 = .ok (.iload_n 1, 1) := by decide +kernel
theorem dX9_record_32 : decode cX9_record 32 = .ok (.aaload, 1) := by decide +kernel
theorem dX9_record_33 : decode cX9_record 33 = .ok (.invokevirtual 218, 3) := by decide +kernel
theorem dX9_record_36 : decode cX9_record 36 = .ok (.iload_n 2, 1) := by decide +kernel
theorem dX9_record_37 : decode cX9_record 37 = .ok (.ifCond .lt 14, 3) := by decide +kernel
theorem dX9_record_40 : decode cX9_record 40 = .ok (.iload_n 2, 1) := by decide +kernel
theorem dX9_record_41 : decode cX9_record 41 = .ok (.aload_n 0, 1) := by decide +kernel
theorem dX9_record_42 : decode cX9_record 42 = .ok (.getfield 42, 3) := by decide +kernel
theorem dX9_record_45 : decode cX9_record 45 = .ok (.getfield 221, 3) := by decide +kernel
theorem dX9_record_48 : decode cX9_record 48 = .ok (.if_icmp .lt 6, 3) := by decide +kernel
theorem dX9_record_51 : decode cX9_record 51 = .ok (.bipush (-12), 2) := by decide +kernel
theorem dX9_record_53 : decode cX9_record 53 = .ok (.ireturn, 1) := by decide +kernel
theorem dX9_record_54 : decode cX9_record 54 = .ok (.aload_n 0, 1) := by decide +kernel
theorem dX9_record_55 : decode cX9_record 55 = .ok (.getfield 42, 3) := by decide +kernel
theorem dX9_record_58 : decode cX9_record 58 = .ok (.iload_n 2, 1) := by decide +kernel
theorem dX9_record_59 : decode cX9_record 59 = .ok (.invokevirtual 222, 3) := by decide +kernel
theorem dX9_record_62 : decode cX9_record 62 = .ok (.ireturn, 1) := by decide +kernel
theorem dX9_alike_0 : decode cX9_alike 0 = .ok (.iload_n 1, 1) := by decide +kernel
theorem dX9_alike_1 : decode cX9_alike 1 = .ok (.invokestatic 91, 3) := by decide +kernel
theorem dX9_alike_4 : decode cX9_alike 4 = .ok (.ifCond .eq 10, 3) := by decide +kernel
theorem dX9_alike_7 : decode cX9_alike 7 = .ok (.iload_n 2, 1) := by decide +kernel
theorem dX9_alike_8 : decode cX9_alike 8 = .ok (.invokestatic 91, 3) := by decide +kernel
theorem dX9_alike_11 : decode cX9_alike 11 = .ok (.ifCond .ne 5, 3) := by decide +kernel
theorem dX9_alike_14 : decode cX9_alike 14 = .ok (.iconst (-1), 1) := by decide +kernel
theorem dX9_alike_15 : decode cX9_alike 15 = .ok (.ireturn, 1) := by decide +kernel
theorem dX9_alike_16 : decode cX9_alike 16 = .ok (.aload_n 0, 1) := by decide +kernel
theorem dX9_alike_17 : decode cX9_alike 17 = .ok (.iload_n 1, 1) := by decide +kernel
theorem dX9_alike_18 : decode cX9_alike 18 = .ok (.invokevirtual 130, 3) := by decide +kernel
theorem dX9_alike_21 : decode cX9_alike 21 = .ok (.ifCond .eq 11, 3) := by decide +kernel
theorem dX9_alike_24 : decode cX9_alike 24 = .ok (.aload_n 0, 1) := by decide +kernel
theorem dX9_alike_25 : decode cX9_alike 25 = .ok (.iload_n 2, 1) := by decide +kernel
theorem dX9_alike_26 : decode cX9_alike 26 = .ok (.invokevirtual 130, 3) := by decide +kernel
theorem dX9_alike_29 : decode cX9_alike 29 = .ok (.ifCond .ne 6, 3) := by decide +kernel
theorem dX9_alike_32 : decode cX9_alike 32 = .ok (.bipush (-11), 2) := by decide +kernel
theorem dX9_alike_34 : decode cX9_alike 34 = .ok (.ireturn, 1) := by decide +kernel
theorem dX9_alike_35 : decode cX9_alike 35 = .ok (.aload_n 0, 1) := by decide +kernel
theorem dX9_alike_36 : decode cX9_alike 36 = .ok (.getfield 42, 3) := by decide +kernel
theorem dX9_alike_39 : decode cX9_alike 39 = .ok (.aload_n 0, 1) := by decide +kernel
theorem dX9_alike_40 : decode cX9_alike 40 = .ok (.getfield 10, 3) := by decide +kernel
theorem dX9_alike_43 : decode cX9_alike 43 = .ok (.getfield 99, 3) := by decide +kernel
theorem dX9_alike_46 : decode cX9_alike 46 = .ok (.iload_n 1, 1) := by decide +kernel
theorem dX9_alike_47 : decode cX9_alike 47 = .ok (.aaload, 1) := by decide +kernel
theorem dX9_alike_48 : decode cX9_alike 48 = .ok (.invokevirtual 218, 3) := by decide +kernel
theorem dX9_alike_51 : decode cX9_alike 51 = .ok (.aload_n 0, 1) := by decide +kernel
theorem dX9_alike_52 : decode cX9_alike 52 = .ok (.getfield 42, 3) := by decide +kernel
theorem dX9_alike_55 : decode cX9_alike 55 = .ok (.aload_n 0, 1) := by decide +kernel
theorem dX9_alike_56 : decode cX9_alike 56 = .ok (.getfield 76, 3) := by decide +kernel
theorem dX9_alike_59 : decode cX9_alike 59 = .ok (.invokevirtual 127, 3) := by decide +kernel
theorem dX9_alike_62 : decode cX9_alike 62 = .ok (.aload_n 0, 1) := by decide +kernel
theorem dX9_alike_63 : decode cX9_alike 63 = .ok (.getfield 42, 3) := by decide +kernel
theorem dX9_alike_66 : decode cX9_alike 66 = .ok (.aload_n 0, 1) := by decide +kernel
theorem dX9_alike_67 : decode cX9_alike 67 = .ok (.getfield 10, 3) := by decide +kernel
theorem dX9_alike_70 : decode cX9_alike 70 = .ok (.getfield 99, 3) := by decide +kernel
theorem dX9_alike_73 : decode cX9_alike 73 = .ok (.iload_n 2, 1) := by decide +kernel
theorem dX9_alike_74 : decode cX9_alike 74 = .ok (.aaload, 1) := by decide +kernel
theorem dX9_alike_75 : decode cX9_alike 75 = .ok (.invokevirtual 218, 3) := by decide +kernel
theorem dX9_alike_78 : decode cX9_alike 78 = .ok (.aload_n 0, 1) := by decide +kernel
theorem dX9_alike_79 : decode cX9_alike 79 = .ok (.getfield 42, 3) := by decide +kernel
theorem dX9_alike_82 : decode cX9_alike 82 = .ok (.aload_n 0, 1) := by decide +kernel
theorem dX9_alike_83 : decode cX9_alike 83 = .ok (.getfield 80, 3) := by decide +kernel
theorem dX9_alike_86 : decode cX9_alike 86 = .ok (.invokevirtual 127, 3) := by decide +kernel
theorem dX9_alike_89 : decode cX9_alike 89 = .ok (.aload_n 0, 1) := by decide +kernel
theorem dX9_alike_90 : decode cX9_alike 90 = .ok (.getfield 76, 3) := by decide +kernel
theorem dX9_alike_93 : decode cX9_alike 93 = .ok (.aload_n 0, 1) := by decide +kernel
theorem dX9_alike_94 : decode cX9_alike 94 = .ok (.getfield 80, 3) := by decide +kernel
theorem dX9_alike_97 : decode cX9_alike 97 = .ok (.invokevirtual 225, 3) := by decide +kernel
theorem dX9_alike_100 : decode cX9_alike 100 = .ok (.ifCond .eq 7, 3) := by decide +kernel
theorem dX9_alike_103 : decode cX9_alike 103 = .ok (.iconst 1, 1) := by decide +kernel
theorem dX9_alike_104 : decode cX9_alike 104 = .ok (.goto 4, 3) := by decide +kernel
theorem dX9_alike_107 : decode cX9_alike 107 = .ok (.iconst 0, 1) := by decide +kernel
theorem dX9_alike_108 : decode cX9_alike 108 = .ok (.ireturn, 1) := by decide +kernel
theorem dX9_count_0 : decode cX9_count 0 = .ok (.aload_n 0, 1) := by decide +kernel
theorem dX9_count_1 : decode cX9_count 1 = .ok (.getfield 63, 3) := by decide +kernel
theorem dX9_count_4 : decode cX9_count 4 = .ok (.iload_n 1, 1) := by decide +kernel
theorem dX9_count_5 : decode cX9_count 5 = .ok (.aload_n 0, 1) := by decide +kernel
theorem dX9_count_6 : decode cX9_count 6 = .ok (.getfield 10, 3) := by decide +kernel
theorem dX9_count_9 : decode cX9_count 9 = .ok (.getfield 84, 3) := by decide +kernel
theorem dX9_count_12 : decode cX9_count 12 = .ok (.invokevirtual 229, 3) := by decide +kernel
theorem dX9_count_15 : decode cX9_count 15 = .ok (.ifCond .eq 21, 3) := by decide +kernel
theorem dX9_count_18 : decode cX9_count 18 = .ok (.aload_n 0, 1) := by decide +kernel
theorem dX9_count_19 : decode cX9_count 19 = .ok (.getfield 56, 3) := by decide +kernel
theorem dX9_count_22 : decode cX9_count 22 = .ok (.iload_n 2, 1) := by decide +kernel
theorem dX9_count_23 : decode cX9_count 23 = .ok (.aload_n 0, 1) := by decide +kernel
theorem dX9_count_24 : decode cX9_count 24 = .ok (.getfield 10, 3) := by decide +kernel
theorem dX9_count_27 : decode cX9_count 27 = .ok (.getfield 84, 3) := by decide +kernel
theorem dX9_count_30 : decode cX9_count 30 = .ok (.invokevirtual 232, 3) := by decide +kernel
theorem dX9_count_33 : decode cX9_count 33 = .ok (.ifCond .ne 5, 3) := by decide +kernel
theorem dX9_count_36 : decode cX9_count 36 = .ok (.iconst (-1), 1) := by decide +kernel
theorem dX9_count_37 : decode cX9_count 37 = .ok (.ireturn, 1) := by decide +kernel
theorem dX9_count_38 : decode cX9_count 38 = .ok (.aload_n 0, 1) := by decide +kernel
theorem dX9_count_39 : decode cX9_count 39 = .ok (.getfield 56, 3) := by decide +kernel
theorem dX9_count_42 : decode cX9_count 42 = .ok (.aload_n 0, 1) := by decide +kernel
theorem dX9_count_43 : decode cX9_count 43 = .ok (.getfield 10, 3) := by decide +kernel
theorem dX9_count_46 : decode cX9_count 46 = .ok (.getfield 84, 3) := by decide +kernel
theorem dX9_count_49 : decode cX9_count 49 = .ok (.invokevirtual 235, 3) := by decide +kernel
theorem dX9_count_52 : decode cX9_count 52 = .ok (.aload_n 0, 1) := by decide +kernel
theorem dX9_count_53 : decode cX9_count 53 = .ok (.getfield 63, 3) := by decide +kernel
theorem dX9_count_56 : decode cX9_count 56 = .ok (.getfield 238, 3) := by decide +kernel
theorem dX9_count_59 : decode cX9_count 59 = .ok (.if_icmp .eq 5, 3) := by decide +kernel
theorem dX9_count_62 : decode cX9_count 62 = .ok (.iconst 0, 1) := by decide +kernel
theorem dX9_count_63 : decode cX9_count 63 = .ok (.ireturn, 1) := by decide +kernel
theorem dX9_count_64 : decode cX9_count 64 = .ok (.aload_n 0, 1) := by decide +kernel
theorem dX9_count_65 : decode cX9_count 65 = .ok (.getfield 56, 3) := by decide +kernel
theorem dX9_count_68 : decode cX9_count 68 = .ok (.invokevirtual 239, 3) := by decide +kernel
theorem dX9_count_71 : decode cX9_count 71 = .ok (.aload_n 0, 1) := by decide +kernel
theorem dX9_count_72 : decode cX9_count 72 = .ok (.getfield 56, 3) := by decide +kernel
theorem dX9_count_75 : decode cX9_count 75 = .ok (.aload_n 0, 1) := by decide +kernel
theorem dX9_count_76 : decode cX9_count 76 = .ok (.getfield 63, 3) := by decide +kernel
theorem dX9_count_79 : decode cX9_count 79 = .ok (.aload_n 0, 1) := by decide +kernel
theorem dX9_count_80 : decode cX9_count 80 = .ok (.getfield 10, 3) := by decide +kernel
theorem dX9_count_83 : decode cX9_count 83 = .ok (.getfield 84, 3) := by decide +kernel
theorem dX9_count_86 : decode cX9_count 86 = .ok (.invokevirtual 242, 3) := by decide +kernel
theorem dX9_count_89 : decode cX9_count 89 = .ok (.l2i, 1) := by decide +kernel
theorem dX9_count_90 : decode cX9_count 90 = .ok (.ireturn, 1) := by decide +kernel
theorem dX9_together_0 : decode cX9_together 0 = .ok (.aload_n 0, 1) := by decide +kernel
theorem dX9_together_1 : decode cX9_together 1 = .ok (.getfield 63, 3) := by decide +kernel
theorem dX9_together_4 : decode cX9_together 4 = .ok (.iload_n 1, 1) := by decide +kernel
theorem dX9_together_5 : decode cX9_together 5 = .ok (.aload_n 0, 1) := by decide +kernel
theorem dX9_together_6 : decode cX9_together 6 = .ok (.getfield 10, 3) := by decide +kernel
theorem dX9_together_9 : decode cX9_together 9 = .ok (.getfield 84, 3) := by decide +kernel
theorem dX9_together_12 : decode cX9_together 12 = .ok (.invokevirtual 229, 3) := by decide +kernel
theorem dX9_together_15 : decode cX9_together 15 = .ok (.ifCond .eq 39, 3) := by decide +kernel
theorem dX9_together_18 : decode cX9_together 18 = .ok (.aload_n 0, 1) := by decide +kernel
theorem dX9_together_19 : decode cX9_together 19 = .ok (.getfield 67, 3) := by decide +kernel
theorem dX9_together_22 : decode cX9_together 22 = .ok (.iload_n 2, 1) := by decide +kernel
theorem dX9_together_23 : decode cX9_together 23 = .ok (.aload_n 0, 1) := by decide +kernel
theorem dX9_together_24 : decode cX9_together 24 = .ok (.getfield 10, 3) := by decide +kernel
theorem dX9_together_27 : decode cX9_together 27 = .ok (.getfield 84, 3) := by decide +kernel
theorem dX9_together_30 : decode cX9_together 30 = .ok (.invokevirtual 229, 3) := by decide +kernel
theorem dX9_together_33 : decode cX9_together 33 = .ok (.ifCond .eq 21, 3) := by decide +kernel
theorem dX9_together_36 : decode cX9_together 36 = .ok (.aload_n 0, 1) := by decide +kernel
theorem dX9_together_37 : decode cX9_together 37 = .ok (.getfield 70, 3) := by decide +kernel
theorem dX9_together_40 : decode cX9_together 40 = .ok (.iload_n 3, 1) := by decide +kernel
theorem dX9_together_41 : decode cX9_together 41 = .ok (.aload_n 0, 1) := by decide +kernel
theorem dX9_together_42 : decode cX9_together 42 = .ok (.getfield 10, 3) := by decide +kernel
theorem dX9_together_45 : decode cX9_together 45 = .ok (.getfield 84, 3) := by decide +kernel
theorem dX9_together_48 : decode cX9_together 48 = .ok (.invokevirtual 229, 3) := by decide +kernel
theorem dX9_together_51 : decode cX9_together 51 = .ok (.ifCond .ne 5, 3) := by decide +kernel
theorem dX9_together_54 : decode cX9_together 54 = .ok (.iconst (-1), 1) := by decide +kernel
theorem dX9_together_55 : decode cX9_together 55 = .ok (.ireturn, 1) := by decide +kernel
theorem dX9_together_56 : decode cX9_together 56 = .ok (.aload_n 0, 1) := by decide +kernel
theorem dX9_together_57 : decode cX9_together 57 = .ok (.getfield 63, 3) := by decide +kernel
theorem dX9_together_60 : decode cX9_together 60 = .ok (.getfield 238, 3) := by decide +kernel
theorem dX9_together_63 : decode cX9_together 63 = .ok (.aload_n 0, 1) := by decide +kernel
theorem dX9_together_64 : decode cX9_together 64 = .ok (.getfield 67, 3) := by decide +kernel
theorem dX9_together_67 : decode cX9_together 67 = .ok (.getfield 238, 3) := by decide +kernel
theorem dX9_together_70 : decode cX9_together 70 = .ok (.iadd, 1) := by decide +kernel
theorem dX9_together_71 : decode cX9_together 71 = .ok (.istore 4, 2) := by decide +kernel
theorem dX9_together_73 : decode cX9_together 73 = .ok (.iload 4, 2) := by decide +kernel
theorem dX9_together_75 : decode cX9_together 75 = .ok (.bipush 6, 2) := by decide +kernel
theorem dX9_together_77 : decode cX9_together 77 = .ok (.if_icmp .le 5, 3) := by decide +kernel
theorem dX9_together_80 : decode cX9_together 80 = .ok (.iconst (-1), 1) := by decide +kernel
theorem dX9_together_81 : decode cX9_together 81 = .ok (.ireturn, 1) := by decide +kernel
theorem dX9_together_82 : decode cX9_together 82 = .ok (.iload 4, 2) := by decide +kernel
theorem dX9_together_84 : decode cX9_together 84 = .ok (.aload_n 0, 1) := by decide +kernel
theorem dX9_together_85 : decode cX9_together 85 = .ok (.getfield 70, 3) := by decide +kernel
theorem dX9_together_88 : decode cX9_together 88 = .ok (.getfield 238, 3) := by decide +kernel
theorem dX9_together_91 : decode cX9_together 91 = .ok (.if_icmp .ne 21, 3) := by decide +kernel
theorem dX9_together_94 : decode cX9_together 94 = .ok (.aload_n 0, 1) := by decide +kernel
theorem dX9_together_95 : decode cX9_together 95 = .ok (.getfield 56, 3) := by decide +kernel
theorem dX9_together_98 : decode cX9_together 98 = .ok (.aload_n 0, 1) := by decide +kernel
theorem dX9_together_99 : decode cX9_together 99 = .ok (.getfield 70, 3) := by decide +kernel
theorem dX9_together_102 : decode cX9_together 102 = .ok (.aload_n 0, 1) := by decide +kernel
theorem dX9_together_103 : decode cX9_together 103 = .ok (.getfield 63, 3) := by decide +kernel
theorem dX9_together_106 : decode cX9_together 106 = .ok (.invokevirtual 246, 3) := by decide +kernel
theorem dX9_together_109 : decode cX9_together 109 = .ok (.ifCond .ne 5, 3) := by decide +kernel
theorem dX9_together_112 : decode cX9_together 112 = .ok (.iconst 0, 1) := by decide +kernel
theorem dX9_together_113 : decode cX9_together 113 = .ok (.ireturn, 1) := by decide +kernel
theorem dX9_together_114 : decode cX9_together 114 = .ok (.aload_n 0, 1) := by decide +kernel
theorem dX9_together_115 : decode cX9_together 115 = .ok (.getfield 56, 3) := by decide +kernel
theorem dX9_together_118 : decode cX9_together 118 = .ok (.invokevirtual 239, 3) := by decide +kernel
theorem dX9_together_121 : decode cX9_together 121 = .ok (.aload_n 0, 1) := by decide +kernel
theorem dX9_together_122 : decode cX9_together 122 = .ok (.getfield 56, 3) := by decide +kernel
theorem dX9_together_125 : decode cX9_together 125 = .ok (.aload_n 0, 1) := by decide +kernel
theorem dX9_together_126 : decode cX9_together 126 = .ok (.getfield 67, 3) := by decide +kernel
theorem dX9_together_129 : decode cX9_together 129 = .ok (.aload_n 0, 1) := by decide +kernel
theorem dX9_together_130 : decode cX9_together 130 = .ok (.getfield 63, 3) := by decide +kernel
theorem dX9_together_133 : decode cX9_together 133 = .ok (.aload_n 0, 1) := by decide +kernel
theorem dX9_together_134 : decode cX9_together 134 = .ok (.getfield 35, 3) := by decide +kernel
theorem dX9_together_137 : decode cX9_together 137 = .ok (.aload_n 0, 1) := by decide +kernel
theorem dX9_together_138 : decode cX9_together 138 = .ok (.getfield 10, 3) := by decide +kernel
theorem dX9_together_141 : decode cX9_together 141 = .ok (.getfield 84, 3) := by decide +kernel
theorem dX9_together_144 : decode cX9_together 144 = .ok (.invokevirtual 250, 3) := by decide +kernel
theorem dX9_together_147 : decode cX9_together 147 = .ok (.ireturn, 1) := by decide +kernel
theorem dX9_worth_0 : decode cX9_worth 0 = .ok (.aload_n 0, 1) := by decide +kernel
theorem dX9_worth_1 : decode cX9_worth 1 = .ok (.iload_n 1, 1) := by decide +kernel
theorem dX9_worth_2 : decode cX9_worth 2 = .ok (.invokevirtual 254, 3) := by decide +kernel
theorem dX9_worth_5 : decode cX9_worth 5 = .ok (.ifCond .eq 13, 3) := by decide +kernel
theorem dX9_worth_8 : decode cX9_worth 8 = .ok (.iload_n 2, 1) := by decide +kernel
theorem dX9_worth_9 : decode cX9_worth 9 = .ok (.ifCond .lt 9, 3) := by decide +kernel
theorem dX9_worth_12 : decode cX9_worth 12 = .ok (.iload_n 2, 1) := by decide +kernel
theorem dX9_worth_13 : decode cX9_worth 13 = .ok (.bipush 99, 2) := by decide +kernel
theorem dX9_worth_15 : decode cX9_worth 15 = .ok (.if_icmp .le 5, 3) := by decide +kernel
theorem dX9_worth_18 : decode cX9_worth 18 = .ok (.iconst (-1), 1) := by decide +kernel
theorem dX9_worth_19 : decode cX9_worth 19 = .ok (.ireturn, 1) := by decide +kernel
theorem dX9_worth_20 : decode cX9_worth 20 = .ok (.aload_n 0, 1) := by decide +kernel
theorem dX9_worth_21 : decode cX9_worth 21 = .ok (.getfield 10, 3) := by decide +kernel
theorem dX9_worth_24 : decode cX9_worth 24 = .ok (.getfield 257, 3) := by decide +kernel
theorem dX9_worth_27 : decode cX9_worth 27 = .ok (.iload_n 1, 1) := by decide +kernel
theorem dX9_worth_28 : decode cX9_worth 28 = .ok (.iaload, 1) := by decide +kernel
theorem dX9_worth_29 : decode cX9_worth 29 = .ok (.istore_n 3, 1) := by decide +kernel
theorem dX9_worth_30 : decode cX9_worth 30 = .ok (.aload_n 0, 1) := by decide +kernel
theorem dX9_worth_31 : decode cX9_worth 31 = .ok (.getfield 10, 3) := by decide +kernel
theorem dX9_worth_34 : decode cX9_worth 34 = .ok (.getfield 257, 3) := by decide +kernel
theorem dX9_worth_37 : decode cX9_worth 37 = .ok (.iload_n 1, 1) := by decide +kernel
theorem dX9_worth_38 : decode cX9_worth 38 = .ok (.iload_n 2, 1) := by decide +kernel
theorem dX9_worth_39 : decode cX9_worth 39 = .ok (.iastore, 1) := by decide +kernel
theorem dX9_worth_40 : decode cX9_worth 40 = .ok (.iload_n 3, 1) := by decide +kernel
theorem dX9_worth_41 : decode cX9_worth 41 = .ok (.ireturn, 1) := by decide +kernel
theorem dX9_worthOf_0 : decode cX9_worthOf 0 = .ok (.aload_n 0, 1) := by decide +kernel
theorem dX9_worthOf_1 : decode cX9_worthOf 1 = .ok (.getfield 63, 3) := by decide +kernel
theorem dX9_worthOf_4 : decode cX9_worthOf 4 = .ok (.iload_n 1, 1) := by decide +kernel
theorem dX9_worthOf_5 : decode cX9_worthOf 5 = .ok (.aload_n 0, 1) := by decide +kernel
theorem dX9_worthOf_6 : decode cX9_worthOf 6 = .ok (.getfield 10, 3) := by decide +kernel
theorem dX9_worthOf_9 : decode cX9_worthOf 9 = .ok (.getfield 84, 3) := by decide +kernel
theorem dX9_worthOf_12 : decode cX9_worthOf 12 = .ok (.invokevirtual 229, 3) := by decide +kernel
theorem dX9_worthOf_15 : decode cX9_worthOf 15 = .ok (.ifCond .ne 5, 3) := by decide +kernel
theorem dX9_worthOf_18 : decode cX9_worthOf 18 = .ok (.iconst (-1), 1) := by decide +kernel
theorem dX9_worthOf_19 : decode cX9_worthOf 19 = .ok (.ireturn, 1) := by decide +kernel
theorem dX9_worthOf_20 : decode cX9_worthOf 20 = .ok (.aload_n 0, 1) := by decide +kernel
theorem dX9_worthOf_21 : decode cX9_worthOf 21 = .ok (.getfield 56, 3) := by decide +kernel
theorem dX9_worthOf_24 : decode cX9_worthOf 24 = .ok (.invokevirtual 261, 3) := by decide +kernel
theorem dX9_worthOf_27 : decode cX9_worthOf 27 = .ok (.aload_n 0, 1) := by decide +kernel
theorem dX9_worthOf_28 : decode cX9_worthOf 28 = .ok (.getfield 56, 3) := by decide +kernel
theorem dX9_worthOf_31 : decode cX9_worthOf 31 = .ok (.aload_n 0, 1) := by decide +kernel
theorem dX9_worthOf_32 : decode cX9_worthOf 32 = .ok (.getfield 10, 3) := by decide +kernel
theorem dX9_worthOf_35 : decode cX9_worthOf 35 = .ok (.getfield 257, 3) := by decide +kernel
theorem dX9_worthOf_38 : decode cX9_worthOf 38 = .ok (.invokevirtual 264, 3) := by decide +kernel
theorem dX9_worthOf_41 : decode cX9_worthOf 41 = .ok (.aload_n 0, 1) := by decide +kernel
theorem dX9_worthOf_42 : decode cX9_worthOf 42 = .ok (.getfield 56, 3) := by decide +kernel
theorem dX9_worthOf_45 : decode cX9_worthOf 45 = .ok (.aload_n 0, 1) := by decide +kernel
theorem dX9_worthOf_46 : decode cX9_worthOf 46 = .ok (.getfield 63, 3) := by decide +kernel
theorem dX9_worthOf_49 : decode cX9_worthOf 49 = .ok (.aload_n 0, 1) := by decide +kernel
theorem dX9_worthOf_50 : decode cX9_worthOf 50 = .ok (.getfield 10, 3) := by decide +kernel
theorem dX9_worthOf_53 : decode cX9_worthOf 53 = .ok (.getfield 84, 3) := by decide +kernel
theorem dX9_worthOf_56 : decode cX9_worthOf 56 = .ok (.invokevirtual 242, 3) := by decide +kernel
theorem dX9_worthOf_59 : decode cX9_worthOf 59 = .ok (.lstore_n 2, 1) := by decide +kernel
theorem dX9_worthOf_60 : decode cX9_worthOf 60 = .ok (.lload_n 2, 1) := by decide +kernel
theorem dX9_worthOf_61 : decode cX9_worthOf 61 = .ok (.ldc2_w 268, 3) := by decide +kernel
theorem dX9_worthOf_64 : decode cX9_worthOf 64 = .ok (.lcmp, 1) := by decide +kernel
theorem dX9_worthOf_65 : decode cX9_worthOf 65 = .ok (.ifCond .le 8, 3) := by decide +kernel
theorem dX9_worthOf_68 : decode cX9_worthOf 68 = .ok (.bipush (-16), 2) := by decide +kernel
theorem dX9_worthOf_70 : decode cX9_worthOf 70 = .ok (.goto 5, 3) := by decide +kernel
theorem dX9_worthOf_73 : decode cX9_worthOf 73 = .ok (.lload_n 2, 1) := by decide +kernel
theorem dX9_worthOf_74 : decode cX9_worthOf 74 = .ok (.l2i, 1) := by decide +kernel
theorem dX9_worthOf_75 : decode cX9_worthOf 75 = .ok (.ireturn, 1) := by decide +kernel
theorem dX9_seed_0 : decode cX9_seed 0 = .ok (.aload_n 0, 1) := by decide +kernel
theorem dX9_seed_1 : decode cX9_seed 1 = .ok (.getfield 10, 3) := by decide +kernel
theorem dX9_seed_4 : decode cX9_seed 4 = .ok (.getfield 270, 3) := by decide +kernel
theorem dX9_seed_7 : decode cX9_seed 7 = .ok (.istore_n 2, 1) := by decide +kernel
theorem dX9_seed_8 : decode cX9_seed 8 = .ok (.aload_n 0, 1) := by decide +kernel
theorem dX9_seed_9 : decode cX9_seed 9 = .ok (.getfield 10, 3) := by decide +kernel
theorem dX9_seed_12 : decode cX9_seed 12 = .ok (.iload_n 1, 1) := by decide +kernel
theorem dX9_seed_13 : decode cX9_seed 13 = .ok (.putfield 270, 3) := by decide +kernel
theorem dX9_seed_16 : decode cX9_seed 16 = .ok (.iload_n 2, 1) := by decide +kernel
theorem dX9_seed_17 : decode cX9_seed 17 = .ok (.ireturn, 1) := by decide +kernel
theorem dX9_lot_0 : decode cX9_lot 0 = .ok (.iload_n 1, 1) := by decide +kernel
theorem dX9_lot_1 : decode cX9_lot 1 = .ok (.invokestatic 91, 3) := by decide +kernel
theorem dX9_lot_4 : decode cX9_lot 4 = .ok (.ifCond .eq 13, 3) := by decide +kernel
theorem dX9_lot_7 : decode cX9_lot 7 = .ok (.iload_n 2, 1) := by decide +kernel
theorem dX9_lot_8 : decode cX9_lot 8 = .ok (.ifCond .lt 9, 3) := by decide +kernel
theorem dX9_lot_11 : decode cX9_lot 11 = .ok (.iload_n 2, 1) := by decide +kernel
theorem dX9_lot_12 : decode cX9_lot 12 = .ok (.bipush 6, 2) := by decide +kernel
theorem dX9_lot_14 : decode cX9_lot 14 = .ok (.if_icmp .le 5, 3) := by decide +kernel
theorem dX9_lot_17 : decode cX9_lot 17 = .ok (.iconst (-1), 1) := by decide +kernel
theorem dX9_lot_18 : decode cX9_lot 18 = .ok (.ireturn, 1) := by decide +kernel
theorem dX9_lot_19 : decode cX9_lot 19 = .ok (.aload_n 0, 1) := by decide +kernel
theorem dX9_lot_20 : decode cX9_lot 20 = .ok (.getfield 10, 3) := by decide +kernel
theorem dX9_lot_23 : decode cX9_lot 23 = .ok (.getfield 99, 3) := by decide +kernel
theorem dX9_lot_26 : decode cX9_lot 26 = .ok (.iload_n 1, 1) := by decide +kernel
theorem dX9_lot_27 : decode cX9_lot 27 = .ok (.aaload, 1) := by decide +kernel
theorem dX9_lot_28 : decode cX9_lot 28 = .ok (.astore_n 3, 1) := by decide +kernel
theorem dX9_lot_29 : decode cX9_lot 29 = .ok (.aload_n 3, 1) := by decide +kernel
theorem dX9_lot_30 : decode cX9_lot 30 = .ok (.iload_n 2, 1) := by decide +kernel
theorem dX9_lot_31 : decode cX9_lot 31 = .ok (.invokevirtual 273, 3) := by decide +kernel
theorem dX9_lot_34 : decode cX9_lot 34 = .ok (.iconst 0, 1) := by decide +kernel
theorem dX9_lot_35 : decode cX9_lot 35 = .ok (.istore 4, 2) := by decide +kernel
theorem dX9_lot_37 : decode cX9_lot 37 = .ok (.iload 4, 2) := by decide +kernel
theorem dX9_lot_39 : decode cX9_lot 39 = .ok (.iload_n 2, 1) := by decide +kernel
theorem dX9_lot_40 : decode cX9_lot 40 = .ok (.if_icmp .ge 33, 3) := by decide +kernel
theorem dX9_lot_43 : decode cX9_lot 43 = .ok (.aload_n 3, 1) := by decide +kernel
theorem dX9_lot_44 : decode cX9_lot 44 = .ok (.getfield 277, 3) := by decide +kernel
theorem dX9_lot_47 : decode cX9_lot 47 = .ok (.iload 4, 2) := by decide +kernel
theorem dX9_lot_49 : decode cX9_lot 49 = .ok (.iconst 1, 1) := by decide +kernel
theorem dX9_lot_50 : decode cX9_lot 50 = .ok (.aload_n 0, 1) := by decide +kernel
theorem dX9_lot_51 : decode cX9_lot 51 = .ok (.getfield 10, 3) := by decide +kernel
theorem dX9_lot_54 : decode cX9_lot 54 = .ok (.invokevirtual 280, 3) := by decide +kernel
theorem dX9_lot_57 : decode cX9_lot 57 = .ok (.aload_n 0, 1) := by decide +kernel
theorem dX9_lot_58 : decode cX9_lot 58 = .ok (.getfield 10, 3) := by decide +kernel
theorem dX9_lot_61 : decode cX9_lot 61 = .ok (.getfield 84, 3) := by decide +kernel
theorem dX9_lot_64 : decode cX9_lot 64 = .ok (.irem, 1) := by decide +kernel
theorem dX9_lot_65 : decode cX9_lot 65 = .ok (.iadd, 1) := by decide +kernel
theorem dX9_lot_66 : decode cX9_lot 66 = .ok (.iastore, 1) := by decide +kernel
theorem dX9_lot_67 : decode cX9_lot 67 = .ok (.iinc 4 1, 3) := by decide +kernel
theorem dX9_lot_70 : decode cX9_lot 70 = .ok (.goto (-33), 3) := by decide +kernel
theorem dX9_lot_73 : decode cX9_lot 73 = .ok (.aload_n 3, 1) := by decide +kernel
theorem dX9_lot_74 : decode cX9_lot 74 = .ok (.invokevirtual 139, 3) := by decide +kernel
theorem dX9_lot_77 : decode cX9_lot 77 = .ok (.ireturn, 1) := by decide +kernel
theorem dX9_sheet_0 : decode cX9_sheet 0 = .ok (.iload_n 1, 1) := by decide +kernel
theorem dX9_sheet_1 : decode cX9_sheet 1 = .ok (.invokestatic 283, 3) := by decide +kernel
theorem dX9_sheet_4 : decode cX9_sheet 4 = .ok (.ifCond .eq 13, 3) := by decide +kernel
theorem dX9_sheet_7 : decode cX9_sheet 7 = .ok (.iload_n 2, 1) := by decide +kernel
theorem dX9_sheet_8 : decode cX9_sheet 8 = .ok (.iconst (-1), 1) := by decide +kernel
theorem dX9_sheet_9 : decode cX9_sheet 9 = .ok (.if_icmp .lt 8, 3) := by decide +kernel
theorem dX9_sheet_12 : decode cX9_sheet 12 = .ok (.iload_n 2, 1) := by decide +kernel
theorem dX9_sheet_13 : decode cX9_sheet 13 = .ok (.iconst 2, 1) := by decide +kernel
theorem dX9_sheet_14 : decode cX9_sheet 14 = .ok (.if_icmp .le 5, 3) := by decide +kernel
theorem dX9_sheet_17 : decode cX9_sheet 17 = .ok (.iconst (-1), 1) := by decide +kernel
theorem dX9_sheet_18 : decode cX9_sheet 18 = .ok (.ireturn, 1) := by decide +kernel
theorem dX9_sheet_19 : decode cX9_sheet 19 = .ok (.iload_n 2, 1) := by decide +kernel
theorem dX9_sheet_20 : decode cX9_sheet 20 = .ok (.iconst (-1), 1) := by decide +kernel
theorem dX9_sheet_21 : decode cX9_sheet 21 = .ok (.if_icmp .ne 14, 3) := by decide +kernel
theorem dX9_sheet_24 : decode cX9_sheet 24 = .ok (.aload_n 0, 1) := by decide +kernel
theorem dX9_sheet_25 : decode cX9_sheet 25 = .ok (.getfield 28, 3) := by decide +kernel
theorem dX9_sheet_28 : decode cX9_sheet 28 = .ok (.iload_n 1, 1) := by decide +kernel
theorem dX9_sheet_29 : decode cX9_sheet 29 = .ok (.aaload, 1) := by decide +kernel
theorem dX9_sheet_30 : decode cX9_sheet 30 = .ok (.invokevirtual 286, 3) := by decide +kernel
theorem dX9_sheet_33 : decode cX9_sheet 33 = .ok (.iconst 1, 1) := by decide +kernel
theorem dX9_sheet_34 : decode cX9_sheet 34 = .ok (.ireturn, 1) := by decide +kernel
theorem dX9_sheet_35 : decode cX9_sheet 35 = .ok (.iload_n 3, 1) := by decide +kernel
theorem dX9_sheet_36 : decode cX9_sheet 36 = .ok (.bipush 40, 2) := by decide +kernel
theorem dX9_sheet_38 : decode cX9_sheet 38 = .ok (.if_icmp .le 5, 3) := by decide +kernel
theorem dX9_sheet_41 : decode cX9_sheet 41 = .ok (.iconst (-1), 1) := by decide +kernel
theorem dX9_sheet_42 : decode cX9_sheet 42 = .ok (.ireturn, 1) := by decide +kernel
theorem dX9_sheet_43 : decode cX9_sheet 43 = .ok (.iload_n 3, 1) := by decide +kernel
theorem dX9_sheet_44 : decode cX9_sheet 44 = .ok (.ifCond .ge 6, 3) := by decide +kernel
theorem dX9_sheet_47 : decode cX9_sheet 47 = .ok (.bipush (-14), 2) := by decide +kernel
theorem dX9_sheet_49 : decode cX9_sheet 49 = .ok (.ireturn, 1) := by decide +kernel
theorem dX9_sheet_50 : decode cX9_sheet 50 = .ok (.aload_n 0, 1) := by decide +kernel
theorem dX9_sheet_51 : decode cX9_sheet 51 = .ok (.getfield 28, 3) := by decide +kernel
theorem dX9_sheet_54 : decode cX9_sheet 54 = .ok (.iload_n 1, 1) := by decide +kernel
theorem dX9_sheet_55 : decode cX9_sheet 55 = .ok (.aaload, 1) := by decide +kernel
theorem dX9_sheet_56 : decode cX9_sheet 56 = .ok (.iload_n 2, 1) := by decide +kernel
theorem dX9_sheet_57 : decode cX9_sheet 57 = .ok (.iload_n 3, 1) := by decide +kernel
theorem dX9_sheet_58 : decode cX9_sheet 58 = .ok (.invokevirtual 289, 3) := by decide +kernel
theorem dX9_sheet_61 : decode cX9_sheet 61 = .ok (.iconst 1, 1) := by decide +kernel
theorem dX9_sheet_62 : decode cX9_sheet 62 = .ok (.ireturn, 1) := by decide +kernel
theorem dX9_put_0 : decode cX9_put 0 = .ok (.iload_n 1, 1) := by decide +kernel
theorem dX9_put_1 : decode cX9_put 1 = .ok (.invokestatic 283, 3) := by decide +kernel
theorem dX9_put_4 : decode cX9_put 4 = .ok (.ifCond .ne 5, 3) := by decide +kernel
theorem dX9_put_7 : decode cX9_put 7 = .ok (.iconst (-1), 1) := by decide +kernel
theorem dX9_put_8 : decode cX9_put 8 = .ok (.ireturn, 1) := by decide +kernel
theorem dX9_put_9 : decode cX9_put 9 = .ok (.aload_n 0, 1) := by decide +kernel
theorem dX9_put_10 : decode cX9_put 10 = .ok (.getfield 28, 3) := by decide +kernel
theorem dX9_put_13 : decode cX9_put 13 = .ok (.iload_n 1, 1) := by decide +kernel
theorem dX9_put_14 : decode cX9_put 14 = .ok (.aaload, 1) := by decide +kernel
theorem dX9_put_15 : decode cX9_put 15 = .ok (.astore 4, 2) := by decide +kernel
theorem dX9_put_17 : decode cX9_put 17 = .ok (.aload 4, 2) := by decide +kernel
theorem dX9_put_19 : decode cX9_put 19 = .ok (.invokevirtual 293, 3) := by decide +kernel
theorem dX9_put_22 : decode cX9_put 22 = .ok (.ifCond .eq 6, 3) := by decide +kernel
theorem dX9_put_25 : decode cX9_put 25 = .ok (.bipush (-11), 2) := by decide +kernel
theorem dX9_put_27 : decode cX9_put 27 = .ok (.ireturn, 1) := by decide +kernel
theorem dX9_put_28 : decode cX9_put 28 = .ok (.aload 4, 2) := by decide +kernel
theorem dX9_put_30 : decode cX9_put 30 = .ok (.iload_n 2, 1) := by decide +kernel
theorem dX9_put_31 : decode cX9_put 31 = .ok (.iconst 1, 1) := by decide +kernel
theorem dX9_put_32 : decode cX9_put 32 = .ok (.invokevirtual 296, 3) := by decide +kernel
theorem dX9_put_35 : decode cX9_put 35 = .ok (.ifCond .ne 6, 3) := by decide +kernel
theorem dX9_put_38 : decode cX9_put 38 = .ok (.bipush (-12), 2) := by decide +kernel
theorem dX9_put_40 : decode cX9_put 40 = .ok (.ireturn, 1) := by decide +kernel
theorem dX9_put_41 : decode cX9_put 41 = .ok (.aload 4, 2) := by decide +kernel
theorem dX9_put_43 : decode cX9_put 43 = .ok (.iload_n 2, 1) := by decide +kernel
theorem dX9_put_44 : decode cX9_put 44 = .ok (.iload_n 3, 1) := by decide +kernel
theorem dX9_put_45 : decode cX9_put 45 = .ok (.invokevirtual 299, 3) := by decide +kernel
theorem dX9_put_48 : decode cX9_put 48 = .ok (.iconst 1, 1) := by decide +kernel
theorem dX9_put_49 : decode cX9_put 49 = .ok (.ireturn, 1) := by decide +kernel
theorem dX9_item_0 : decode cX9_item 0 = .ok (.iload_n 1, 1) := by decide +kernel
theorem dX9_item_1 : decode cX9_item 1 = .ok (.invokestatic 283, 3) := by decide +kernel
theorem dX9_item_4 : decode cX9_item 4 = .ok (.ifCond .eq 12, 3) := by decide +kernel
theorem dX9_item_7 : decode cX9_item 7 = .ok (.iload_n 2, 1) := by decide +kernel
theorem dX9_item_8 : decode cX9_item 8 = .ok (.ifCond .lt 8, 3) := by decide +kernel
theorem dX9_item_11 : decode cX9_item 11 = .ok (.iload_n 2, 1) := by decide +kernel
theorem dX9_item_12 : decode cX9_item 12 = .ok (.iconst 2, 1) := by decide +kernel
theorem dX9_item_13 : decode cX9_item 13 = .ok (.if_icmp .le 5, 3) := by decide +kernel
theorem dX9_item_16 : decode cX9_item 16 = .ok (.iconst (-1), 1) := by decide +kernel
theorem dX9_item_17 : decode cX9_item 17 = .ok (.ireturn, 1) := by decide +kernel
theorem dX9_item_18 : decode cX9_item 18 = .ok (.aload_n 0, 1) := by decide +kernel
theorem dX9_item_19 : decode cX9_item 19 = .ok (.getfield 28, 3) := by decide +kernel
theorem dX9_item_22 : decode cX9_item 22 = .ok (.iload_n 1, 1) := by decide +kernel
theorem dX9_item_23 : decode cX9_item 23 = .ok (.aaload, 1) := by decide +kernel
theorem dX9_item_24 : decode cX9_item 24 = .ok (.astore 4, 2) := by decide +kernel
theorem dX9_item_26 : decode cX9_item 26 = .ok (.aload 4, 2) := by decide +kernel
theorem dX9_item_28 : decode cX9_item 28 = .ok (.invokevirtual 293, 3) := by decide +kernel
theorem dX9_item_31 : decode cX9_item 31 = .ok (.ifCond .eq 6, 3) := by decide +kernel
theorem dX9_item_34 : decode cX9_item 34 = .ok (.bipush (-11), 2) := by decide +kernel
theorem dX9_item_36 : decode cX9_item 36 = .ok (.ireturn, 1) := by decide +kernel
theorem dX9_item_37 : decode cX9_item 37 = .ok (.aload 4, 2) := by decide +kernel
theorem dX9_item_39 : decode cX9_item 39 = .ok (.getfield 302, 3) := by decide +kernel
theorem dX9_item_42 : decode cX9_item 42 = .ok (.iload_n 2, 1) := by decide +kernel
theorem dX9_item_43 : decode cX9_item 43 = .ok (.if_icmp .eq 6, 3) := by decide +kernel
theorem dX9_item_46 : decode cX9_item 46 = .ok (.bipush (-13), 2) := by decide +kernel
theorem dX9_item_48 : decode cX9_item 48 = .ok (.ireturn, 1) := by decide +kernel
theorem dX9_item_49 : decode cX9_item 49 = .ok (.aload 4, 2) := by decide +kernel
theorem dX9_item_51 : decode cX9_item 51 = .ok (.iload_n 3, 1) := by decide +kernel
theorem dX9_item_52 : decode cX9_item 52 = .ok (.iconst 1, 1) := by decide +kernel
theorem dX9_item_53 : decode cX9_item 53 = .ok (.invokevirtual 296, 3) := by decide +kernel
theorem dX9_item_56 : decode cX9_item 56 = .ok (.ifCond .ne 6, 3) := by decide +kernel
theorem dX9_item_59 : decode cX9_item 59 = .ok (.bipush (-12), 2) := by decide +kernel
theorem dX9_item_61 : decode cX9_item 61 = .ok (.ireturn, 1) := by decide +kernel
theorem dX9_item_62 : decode cX9_item 62 = .ok (.aload 4, 2) := by decide +kernel
theorem dX9_item_64 : decode cX9_item 64 = .ok (.getfield 305, 3) := by decide +kernel
theorem dX9_item_67 : decode cX9_item 67 = .ok (.iload_n 3, 1) := by decide +kernel
theorem dX9_item_68 : decode cX9_item 68 = .ok (.laload, 1) := by decide +kernel
theorem dX9_item_69 : decode cX9_item 69 = .ok (.l2i, 1) := by decide +kernel
theorem dX9_item_70 : decode cX9_item 70 = .ok (.ireturn, 1) := by decide +kernel
theorem dX9_copy_0 : decode cX9_copy 0 = .ok (.iload_n 1, 1) := by decide +kernel
theorem dX9_copy_1 : decode cX9_copy 1 = .ok (.invokestatic 283, 3) := by decide +kernel
theorem dX9_copy_4 : decode cX9_copy 4 = .ok (.ifCond .eq 10, 3) := by decide +kernel
theorem dX9_copy_7 : decode cX9_copy 7 = .ok (.iload_n 3, 1) := by decide +kernel
theorem dX9_copy_8 : decode cX9_copy 8 = .ok (.invokestatic 283, 3) := by decide +kernel
theorem dX9_copy_11 : decode cX9_copy 11 = .ok (.ifCond .ne 5, 3) := by decide +kernel
theorem dX9_copy_14 : decode cX9_copy 14 = .ok (.iconst (-1), 1) := by decide +kernel
theorem dX9_copy_15 : decode cX9_copy 15 = .ok (.ireturn, 1) := by decide +kernel
theorem dX9_copy_16 : decode cX9_copy 16 = .ok (.aload_n 0, 1) := by decide +kernel
theorem dX9_copy_17 : decode cX9_copy 17 = .ok (.getfield 28, 3) := by decide +kernel
theorem dX9_copy_20 : decode cX9_copy 20 = .ok (.iload_n 1, 1) := by decide +kernel
theorem dX9_copy_21 : decode cX9_copy 21 = .ok (.aaload, 1) := by decide +kernel
theorem dX9_copy_22 : decode cX9_copy 22 = .ok (.astore 6, 2) := by decide +kernel
theorem dX9_copy_24 : decode cX9_copy 24 = .ok (.aload_n 0, 1) := by decide +kernel
theorem dX9_copy_25 : decode cX9_copy 25 = .ok (.getfield 28, 3) := by decide +kernel
theorem dX9_copy_28 : decode cX9_copy 28 = .ok (.iload_n 3, 1) := by decide +kernel
theorem dX9_copy_29 : decode cX9_copy 29 = .ok (.aaload, 1) := by decide +kernel
theorem dX9_copy_30 : decode cX9_copy 30 = .ok (.astore 7, 2) := by decide +kernel
theorem dX9_copy_32 : decode cX9_copy 32 = .ok (.aload 6, 2) := by decide +kernel
theorem dX9_copy_34 : decode cX9_copy 34 = .ok (.invokevirtual 293, 3) := by decide +kernel
theorem dX9_copy_37 : decode cX9_copy 37 = .ok (.ifCond .ne 11, 3) := by decide +kernel
theorem dX9_copy_40 : decode cX9_copy 40 = .ok (.aload 7, 2) := by decide +kernel
theorem dX9_copy_42 : decode cX9_copy 42 = .ok (.invokevirtual 293, 3) := by decide +kernel
theorem dX9_copy_45 : decode cX9_copy 45 = .ok (.ifCond .eq 6, 3) := by decide +kernel
theorem dX9_copy_48 : decode cX9_copy 48 = .ok (.bipush (-11), 2) := by decide +kernel
theorem dX9_copy_50 : decode cX9_copy 50 = .ok (.ireturn, 1) := by decide +kernel
theorem dX9_copy_51 : decode cX9_copy 51 = .ok (.aload 6, 2) := by decide +kernel
theorem dX9_copy_53 : decode cX9_copy 53 = .ok (.getfield 302, 3) := by decide +kernel
theorem dX9_copy_56 : decode cX9_copy 56 = .ok (.aload 7, 2) := by decide +kernel
theorem dX9_copy_58 : decode cX9_copy 58 = .ok (.getfield 302, 3) := by decide +kernel
theorem dX9_copy_61 : decode cX9_copy 61 = .ok (.if_icmp .eq 6, 3) := by decide +kernel
theorem dX9_copy_64 : decode cX9_copy 64 = .ok (.bipush (-13), 2) := by decide +kernel
theorem dX9_copy_66 : decode cX9_copy 66 = .ok (.ireturn, 1) := by decide +kernel
theorem dX9_copy_67 : decode cX9_copy 67 = .ok (.aload 6, 2) := by decide +kernel
theorem dX9_copy_69 : decode cX9_copy 69 = .ok (.iload_n 2, 1) := by decide +kernel
theorem dX9_copy_70 : decode cX9_copy 70 = .ok (.iload 5, 2) := by decide +kernel
theorem dX9_copy_72 : decode cX9_copy 72 = .ok (.invokevirtual 296, 3) := by decide +kernel
theorem dX9_copy_75 : decode cX9_copy 75 = .ok (.ifCond .eq 15, 3) := by decide +kernel
theorem dX9_copy_78 : decode cX9_copy 78 = .ok (.aload 7, 2) := by decide +kernel
theorem dX9_copy_80 : decode cX9_copy 80 = .ok (.iload 4, 2) := by decide +kernel
theorem dX9_copy_82 : decode cX9_copy 82 = .ok (.iload 5, 2) := by decide +kernel
theorem dX9_copy_84 : decode cX9_copy 84 = .ok (.invokevirtual 296, 3) := by decide +kernel
theorem dX9_copy_87 : decode cX9_copy 87 = .ok (.ifCond .ne 6, 3) := by decide +kernel
theorem dX9_copy_90 : decode cX9_copy 90 = .ok (.bipush (-12), 2) := by decide +kernel
theorem dX9_copy_92 : decode cX9_copy 92 = .ok (.ireturn, 1) := by decide +kernel
theorem dX9_copy_93 : decode cX9_copy 93 = .ok (.aload 6, 2) := by decide +kernel
theorem dX9_copy_95 : decode cX9_copy 95 = .ok (.getfield 305, 3) := by decide +kernel
theorem dX9_copy_98 : decode cX9_copy 98 = .ok (.iload_n 2, 1) := by decide +kernel
theorem dX9_copy_99 : decode cX9_copy 99 = .ok (.aload 7, 2) := by decide +kernel
theorem dX9_copy_101 : decode cX9_copy 101 = .ok (.getfield 305, 3) := by decide +kernel
theorem dX9_copy_104 : decode cX9_copy 104 = .ok (.iload 4, 2) := by decide +kernel
theorem dX9_copy_106 : decode cX9_copy 106 = .ok (.iload 5, 2) := by decide +kernel
theorem dX9_copy_108 : decode cX9_copy 108 = .ok (.invokestatic 309, 3) := by decide +kernel
theorem dX9_copy_111 : decode cX9_copy 111 = .ok (.iload 5, 2) := by decide +kernel
theorem dX9_copy_113 : decode cX9_copy 113 = .ok (.ireturn, 1) := by decide +kernel
theorem dX9_lay_0 : decode cX9_lay 0 = .ok (.iload_n 1, 1) := by decide +kernel
theorem dX9_lay_1 : decode cX9_lay 1 = .ok (.invokestatic 91, 3) := by decide +kernel
theorem dX9_lay_4 : decode cX9_lay 4 = .ok (.ifCond .eq 10, 3) := by decide +kernel
theorem dX9_lay_7 : decode cX9_lay 7 = .ok (.iload_n 2, 1) := by decide +kernel
theorem dX9_lay_8 : decode cX9_lay 8 = .ok (.invokestatic 283, 3) := by decide +kernel
theorem dX9_lay_11 : decode cX9_lay 11 = .ok (.ifCond .ne 5, 3) := by decide +kernel
theorem dX9_lay_14 : decode cX9_lay 14 = .ok (.iconst (-1), 1) := by decide +kernel
theorem dX9_lay_15 : decode cX9_lay 15 = .ok (.ireturn, 1) := by decide +kernel
theorem dX9_lay_16 : decode cX9_lay 16 = .ok (.aload_n 0, 1) := by decide +kernel
theorem dX9_lay_17 : decode cX9_lay 17 = .ok (.getfield 28, 3) := by decide +kernel
theorem dX9_lay_20 : decode cX9_lay 20 = .ok (.iload_n 2, 1) := by decide +kernel
theorem dX9_lay_21 : decode cX9_lay 21 = .ok (.aaload, 1) := by decide +kernel
theorem dX9_lay_22 : decode cX9_lay 22 = .ok (.astore 4, 2) := by decide +kernel
theorem dX9_lay_24 : decode cX9_lay 24 = .ok (.aload_n 0, 1) := by decide +kernel
theorem dX9_lay_25 : decode cX9_lay 25 = .ok (.iload_n 1, 1) := by decide +kernel
theorem dX9_lay_26 : decode cX9_lay 26 = .ok (.invokevirtual 130, 3) := by decide +kernel
theorem dX9_lay_29 : decode cX9_lay 29 = .ok (.ifCond .eq 11, 3) := by decide +kernel
theorem dX9_lay_32 : decode cX9_lay 32 = .ok (.aload 4, 2) := by decide +kernel
theorem dX9_lay_34 : decode cX9_lay 34 = .ok (.invokevirtual 293, 3) := by decide +kernel
theorem dX9_lay_37 : decode cX9_lay 37 = .ok (.ifCond .eq 6, 3) := by decide +kernel
theorem dX9_lay_40 : decode cX9_lay 40 = .ok (.bipush (-11), 2) := by decide +kernel
theorem dX9_lay_42 : decode cX9_lay 42 = .ok (.ireturn, 1) := by decide +kernel
theorem dX9_lay_43 : decode cX9_lay 43 = .ok (.aload 4, 2) := by decide +kernel
theorem dX9_lay_45 : decode cX9_lay 45 = .ok (.getfield 302, 3) := by decide +kernel
theorem dX9_lay_48 : decode cX9_lay 48 = .ok (.iconst 2, 1) := by decide +kernel
theorem dX9_lay_49 : decode cX9_lay 49 = .ok (.if_icmp .ne 6, 3) := by decide +kernel
theorem dX9_lay_52 : decode cX9_lay 52 = .ok (.bipush (-13), 2) := by decide +kernel
theorem dX9_lay_54 : decode cX9_lay 54 = .ok (.ireturn, 1) := by decide +kernel
theorem dX9_lay_55 : decode cX9_lay 55 = .ok (.aload_n 0, 1) := by decide +kernel
theorem dX9_lay_56 : decode cX9_lay 56 = .ok (.getfield 10, 3) := by decide +kernel
theorem dX9_lay_59 : decode cX9_lay 59 = .ok (.getfield 99, 3) := by decide +kernel
theorem dX9_lay_62 : decode cX9_lay 62 = .ok (.iload_n 1, 1) := by decide +kernel
theorem dX9_lay_63 : decode cX9_lay 63 = .ok (.aaload, 1) := by decide +kernel
theorem dX9_lay_64 : decode cX9_lay 64 = .ok (.astore 5, 2) := by decide +kernel
theorem dX9_lay_66 : decode cX9_lay 66 = .ok (.aload 4, 2) := by decide +kernel
theorem dX9_lay_68 : decode cX9_lay 68 = .ok (.iload_n 3, 1) := by decide +kernel
theorem dX9_lay_69 : decode cX9_lay 69 = .ok (.aload 5, 2) := by decide +kernel
theorem dX9_lay_71 : decode cX9_lay 71 = .ok (.getfield 107, 3) := by decide +kernel
theorem dX9_lay_74 : decode cX9_lay 74 = .ok (.invokevirtual 296, 3) := by decide +kernel
theorem dX9_lay_77 : decode cX9_lay 77 = .ok (.ifCond .ne 6, 3) := by decide +kernel
theorem dX9_lay_80 : decode cX9_lay 80 = .ok (.bipush (-12), 2) := by decide +kernel
theorem dX9_lay_82 : decode cX9_lay 82 = .ok (.ireturn, 1) := by decide +kernel
theorem dX9_lay_83 : decode cX9_lay 83 = .ok (.iconst 0, 1) := by decide +kernel
theorem dX9_lay_84 : decode cX9_lay 84 = .ok (.istore 6, 2) := by decide +kernel
theorem dX9_lay_86 : decode cX9_lay 86 = .ok (.iload 6, 2) := by decide +kernel
theorem dX9_lay_88 : decode cX9_lay 88 = .ok (.aload 5, 2) := by decide +kernel
theorem dX9_lay_90 : decode cX9_lay 90 = .ok (.getfield 107, 3) := by decide +kernel
theorem dX9_lay_93 : decode cX9_lay 93 = .ok (.if_icmp .ge 26, 3) := by decide +kernel
theorem dX9_lay_96 : decode cX9_lay 96 = .ok (.aload 4, 2) := by decide +kernel
theorem dX9_lay_98 : decode cX9_lay 98 = .ok (.iload_n 3, 1) := by decide +kernel
theorem dX9_lay_99 : decode cX9_lay 99 = .ok (.iload 6, 2) := by decide +kernel
theorem dX9_lay_101 : decode cX9_lay 101 = .ok (.iadd, 1) := by decide +kernel
theorem dX9_lay_102 : decode cX9_lay 102 = .ok (.aload 5, 2) := by decide +kernel
theorem dX9_lay_104 : decode cX9_lay 104 = .ok (.getfield 277, 3) := by decide +kernel
theorem dX9_lay_107 : decode cX9_lay 107 = .ok (.iload 6, 2) := by decide +kernel
theorem dX9_lay_109 : decode cX9_lay 109 = .ok (.iaload, 1) := by decide +kernel
theorem dX9_lay_110 : decode cX9_lay 110 = .ok (.invokevirtual 299, 3) := by decide +kernel
theorem dX9_lay_113 : decode cX9_lay 113 = .ok (.iinc 6 1, 3) := by decide +kernel
theorem dX9_lay_116 : decode cX9_lay 116 = .ok (.goto (-30), 3) := by decide +kernel
theorem dX9_lay_119 : decode cX9_lay 119 = .ok (.aload 5, 2) := by decide +kernel
theorem dX9_lay_121 : decode cX9_lay 121 = .ok (.getfield 107, 3) := by decide +kernel
theorem dX9_lay_124 : decode cX9_lay 124 = .ok (.ireturn, 1) := by decide +kernel
theorem dX9_take_0 : decode cX9_take 0 = .ok (.iload_n 1, 1) := by decide +kernel
theorem dX9_take_1 : decode cX9_take 1 = .ok (.invokestatic 283, 3) := by decide +kernel
theorem dX9_take_4 : decode cX9_take 4 = .ok (.ifCond .eq 21, 3) := by decide +kernel
theorem dX9_take_7 : decode cX9_take 7 = .ok (.iload_n 3, 1) := by decide +kernel
theorem dX9_take_8 : decode cX9_take 8 = .ok (.ifCond .lt 17, 3) := by decide +kernel
theorem dX9_take_11 : decode cX9_take 11 = .ok (.iload_n 3, 1) := by decide +kernel
theorem dX9_take_12 : decode cX9_take 12 = .ok (.bipush 6, 2) := by decide +kernel
theorem dX9_take_14 : decode cX9_take 14 = .ok (.if_icmp .gt 11, 3) := by decide +kernel
theorem dX9_take_17 : decode cX9_take 17 = .ok (.iload 4, 2) := by decide +kernel
theorem dX9_take_19 : decode cX9_take 19 = .ok (.invokestatic 91, 3) := by decide +kernel
theorem dX9_take_22 : decode cX9_take 22 = .ok (.ifCond .ne 5, 3) := by decide +kernel
theorem dX9_take_25 : decode cX9_take 25 = .ok (.iconst (-1), 1) := by decide +kernel
theorem dX9_take_26 : decode cX9_take 26 = .ok (.ireturn, 1) := by decide +kernel
theorem dX9_take_27 : decode cX9_take 27 = .ok (.aload_n 0, 1) := by decide +kernel
theorem dX9_take_28 : decode cX9_take 28 = .ok (.getfield 28, 3) := by decide +kernel
theorem dX9_take_31 : decode cX9_take 31 = .ok (.iload_n 1, 1) := by decide +kernel
theorem dX9_take_32 : decode cX9_take 32 = .ok (.aaload, 1) := by decide +kernel
theorem dX9_take_33 : decode cX9_take 33 = .ok (.astore 5, 2) := by decide +kernel
theorem dX9_take_35 : decode cX9_take 35 = .ok (.aload 5, 2) := by decide +kernel
theorem dX9_take_37 : decode cX9_take 37 = .ok (.invokevirtual 293, 3) := by decide +kernel
theorem dX9_take_40 : decode cX9_take 40 = .ok (.ifCond .eq 6, 3) := by decide +kernel
theorem dX9_take_43 : decode cX9_take 43 = .ok (.bipush (-11), 2) := by decide +kernel
theorem dX9_take_45 : decode cX9_take 45 = .ok (.ireturn, 1) := by decide +kernel
theorem dX9_take_46 : decode cX9_take 46 = .ok (.aload 5, 2) := by decide +kernel
theorem dX9_take_48 : decode cX9_take 48 = .ok (.getfield 302, 3) := by decide +kernel
theorem dX9_take_51 : decode cX9_take 51 = .ok (.iconst 2, 1) := by decide +kernel
theorem dX9_take_52 : decode cX9_take 52 = .ok (.if_icmp .ne 6, 3) := by decide +kernel
theorem dX9_take_55 : decode cX9_take 55 = .ok (.bipush (-13), 2) := by decide +kernel
theorem dX9_take_57 : decode cX9_take 57 = .ok (.ireturn, 1) := by decide +kernel
theorem dX9_take_58 : decode cX9_take 58 = .ok (.aload 5, 2) := by decide +kernel
theorem dX9_take_60 : decode cX9_take 60 = .ok (.iload_n 2, 1) := by decide +kernel
theorem dX9_take_61 : decode cX9_take 61 = .ok (.iload_n 3, 1) := by decide +kernel
theorem dX9_take_62 : decode cX9_take 62 = .ok (.invokevirtual 296, 3) := by decide +kernel
theorem dX9_take_65 : decode cX9_take 65 = .ok (.ifCond .ne 6, 3) := by decide +kernel
theorem dX9_take_68 : decode cX9_take 68 = .ok (.bipush (-12), 2) := by decide +kernel
theorem dX9_take_70 : decode cX9_take 70 = .ok (.ireturn, 1) := by decide +kernel
theorem dX9_take_71 : decode cX9_take 71 = .ok (.aload_n 0, 1) := by decide +kernel
theorem dX9_take_72 : decode cX9_take 72 = .ok (.getfield 76, 3) := by decide +kernel
theorem dX9_take_75 : decode cX9_take 75 = .ok (.iload_n 3, 1) := by decide +kernel
theorem dX9_take_76 : decode cX9_take 76 = .ok (.invokevirtual 273, 3) := by decide +kernel
theorem dX9_take_79 : decode cX9_take 79 = .ok (.iconst 0, 1) := by decide +kernel
theorem dX9_take_80 : decode cX9_take 80 = .ok (.istore 6, 2) := by decide +kernel
theorem dX9_take_82 : decode cX9_take 82 = .ok (.iload 6, 2) := by decide +kernel
theorem dX9_take_84 : decode cX9_take 84 = .ok (.iload_n 3, 1) := by decide +kernel
theorem dX9_take_85 : decode cX9_take 85 = .ok (.if_icmp .ge 45, 3) := by decide +kernel
theorem dX9_take_88 : decode cX9_take 88 = .ok (.aload 5, 2) := by decide +kernel
theorem dX9_take_90 : decode cX9_take 90 = .ok (.getfield 305, 3) := by decide +kernel
theorem dX9_take_93 : decode cX9_take 93 = .ok (.iload_n 2, 1) := by decide +kernel
theorem dX9_take_94 : decode cX9_take 94 = .ok (.iload 6, 2) := by decide +kernel
theorem dX9_take_96 : decode cX9_take 96 = .ok (.iadd, 1) := by decide +kernel
theorem dX9_take_97 : decode cX9_take 97 = .ok (.laload, 1) := by decide +kernel
theorem dX9_take_98 : decode cX9_take 98 = .ok (.l2i, 1) := by decide +kernel
theorem dX9_take_99 : decode cX9_take 99 = .ok (.istore 7, 2) := by decide +kernel
theorem dX9_take_101 : decode cX9_take 101 = .ok (.aload_n 0, 1) := by decide +kernel
theorem dX9_take_102 : decode cX9_take 102 = .ok (.iload 7, 2) := by decide +kernel
theorem dX9_take_104 : decode cX9_take 104 = .ok (.invokevirtual 254, 3) := by decide +kernel
theorem dX9_take_107 : decode cX9_take 107 = .ok (.ifCond .ne 5, 3) := by decide +kernel
theorem dX9_take_110 : decode cX9_take 110 = .ok (.iconst (-1), 1) := by decide +kernel
theorem dX9_take_111 : decode cX9_take 111 = .ok (.ireturn, 1) := by decide +kernel
theorem dX9_take_112 : decode cX9_take 112 = .ok (.aload_n 0, 1) := by decide +kernel
theorem dX9_take_113 : decode cX9_take 113 = .ok (.getfield 76, 3) := by decide +kernel
theorem dX9_take_116 : decode cX9_take 116 = .ok (.getfield 277, 3) := by decide +kernel
theorem dX9_take_119 : decode cX9_take 119 = .ok (.iload 6, 2) := by decide +kernel
theorem dX9_take_121 : decode cX9_take 121 = .ok (.iload 7, 2) := by decide +kernel
theorem dX9_take_123 : decode cX9_take 123 = .ok (.iastore, 1) := by decide +kernel
theorem dX9_take_124 : decode cX9_take 124 = .ok (.iinc 6 1, 3) := by decide +kernel
theorem dX9_take_127 : decode cX9_take 127 = .ok (.goto (-45), 3) := by decide +kernel
theorem dX9_take_130 : decode cX9_take 130 = .ok (.aload_n 0, 1) := by decide +kernel
theorem dX9_take_131 : decode cX9_take 131 = .ok (.getfield 10, 3) := by decide +kernel
theorem dX9_take_134 : decode cX9_take 134 = .ok (.getfield 99, 3) := by decide +kernel
theorem dX9_take_137 : decode cX9_take 137 = .ok (.iload 4, 2) := by decide +kernel
theorem dX9_take_139 : decode cX9_take 139 = .ok (.aaload, 1) := by decide +kernel
theorem dX9_take_140 : decode cX9_take 140 = .ok (.aload_n 0, 1) := by decide +kernel
theorem dX9_take_141 : decode cX9_take 141 = .ok (.getfield 76, 3) := by decide +kernel
theorem dX9_take_144 : decode cX9_take 144 = .ok (.invokevirtual 103, 3) := by decide +kernel
theorem dX9_take_147 : decode cX9_take 147 = .ok (.aload_n 0, 1) := by decide +kernel
theorem dX9_take_148 : decode cX9_take 148 = .ok (.getfield 76, 3) := by decide +kernel
theorem dX9_take_151 : decode cX9_take 151 = .ok (.invokevirtual 139, 3) := by decide +kernel
theorem dX9_take_154 : decode cX9_take 154 = .ok (.ireturn, 1) := by decide +kernel
theorem dX9_many_0 : decode cX9_many 0 = .ok (.iload_n 1, 1) := by decide +kernel
theorem dX9_many_1 : decode cX9_many 1 = .ok (.tableswitch 63 0 3 #[31, 39, 47, 55], 31) := by decide +kernel
theorem dX9_many_32 : decode cX9_many 32 = .ok (.aload_n 0, 1) := by decide +kernel
theorem dX9_many_33 : decode cX9_many 33 = .ok (.getfield 10, 3) := by decide +kernel
theorem dX9_many_36 : decode cX9_many 36 = .ok (.getfield 84, 3) := by decide +kernel
theorem dX9_many_39 : decode cX9_many 39 = .ok (.ireturn, 1) := by decide +kernel
theorem dX9_many_40 : decode cX9_many 40 = .ok (.aload_n 0, 1) := by decide +kernel
theorem dX9_many_41 : decode cX9_many 41 = .ok (.getfield 10, 3) := by decide +kernel
theorem dX9_many_44 : decode cX9_many 44 = .ok (.invokevirtual 315, 3) := by decide +kernel
theorem dX9_many_47 : decode cX9_many 47 = .ok (.ireturn, 1) := by decide +kernel
theorem dX9_many_48 : decode cX9_many 48 = .ok (.aload_n 0, 1) := by decide +kernel
theorem dX9_many_49 : decode cX9_many 49 = .ok (.getfield 10, 3) := by decide +kernel
theorem dX9_many_52 : decode cX9_many 52 = .ok (.invokevirtual 318, 3) := by decide +kernel
theorem dX9_many_55 : decode cX9_many 55 = .ok (.ireturn, 1) := by decide +kernel
theorem dX9_many_56 : decode cX9_many 56 = .ok (.aload_n 0, 1) := by decide +kernel
theorem dX9_many_57 : decode cX9_many 57 = .ok (.getfield 22, 3) := by decide +kernel
theorem dX9_many_60 : decode cX9_many 60 = .ok (.getfield 110, 3) := by decide +kernel
theorem dX9_many_63 : decode cX9_many 63 = .ok (.ireturn, 1) := by decide +kernel
theorem dX9_many_64 : decode cX9_many 64 = .ok (.iconst (-1), 1) := by decide +kernel
theorem dX9_many_65 : decode cX9_many 65 = .ok (.ireturn, 1) := by decide +kernel
theorem dX9_keep_0 : decode cX9_keep 0 = .ok (.aload_n 0, 1) := by decide +kernel
theorem dX9_keep_1 : decode cX9_keep 1 = .ok (.getfield 16, 3) := by decide +kernel
theorem dX9_keep_4 : decode cX9_keep 4 = .ok (.aload_n 0, 1) := by decide +kernel
theorem dX9_keep_5 : decode cX9_keep 5 = .ok (.getfield 10, 3) := by decide +kernel
theorem dX9_keep_8 : decode cX9_keep 8 = .ok (.invokevirtual 321, 3) := by decide +kernel
theorem dX9_keep_11 : decode cX9_keep 11 = .ok (.aload_n 0, 1) := by decide +kernel
theorem dX9_keep_12 : decode cX9_keep 12 = .ok (.iconst 1, 1) := by decide +kernel
theorem dX9_keep_13 : decode cX9_keep 13 = .ok (.putfield 324, 3) := by decide +kernel
theorem dX9_keep_16 : decode cX9_keep 16 = .ok (.iconst 1, 1) := by decide +kernel
theorem dX9_keep_17 : decode cX9_keep 17 = .ok (.ireturn, 1) := by decide +kernel
theorem dX9_again_0 : decode cX9_again 0 = .ok (.aload_n 0, 1) := by decide +kernel
theorem dX9_again_1 : decode cX9_again 1 = .ok (.getfield 324, 3) := by decide +kernel
theorem dX9_again_4 : decode cX9_again 4 = .ok (.ifCond .ne 6, 3) := by decide +kernel
theorem dX9_again_7 : decode cX9_again 7 = .ok (.bipush (-3), 2) := by decide +kernel
theorem dX9_again_9 : decode cX9_again 9 = .ok (.ireturn, 1) := by decide +kernel
theorem dX9_again_10 : decode cX9_again 10 = .ok (.aload_n 0, 1) := by decide +kernel
theorem dX9_again_11 : decode cX9_again 11 = .ok (.getfield 10, 3) := by decide +kernel
theorem dX9_again_14 : decode cX9_again 14 = .ok (.aload_n 0, 1) := by decide +kernel
theorem dX9_again_15 : decode cX9_again 15 = .ok (.getfield 16, 3) := by decide +kernel
theorem dX9_again_18 : decode cX9_again 18 = .ok (.invokevirtual 321, 3) := by decide +kernel
theorem dX9_again_21 : decode cX9_again 21 = .ok (.aload_n 0, 1) := by decide +kernel
theorem dX9_again_22 : decode cX9_again 22 = .ok (.getfield 10, 3) := by decide +kernel
theorem dX9_again_25 : decode cX9_again 25 = .ok (.invokevirtual 318, 3) := by decide +kernel
theorem dX9_again_28 : decode cX9_again 28 = .ok (.ireturn, 1) := by decide +kernel
theorem dX9_isSlot_0 : decode cX9_isSlot 0 = .ok (.iload_n 0, 1) := by decide +kernel
theorem dX9_isSlot_1 : decode cX9_isSlot 1 = .ok (.ifCond .lt 13, 3) := by decide +kernel
theorem dX9_isSlot_4 : decode cX9_isSlot 4 = .ok (.iload_n 0, 1) := by decide +kernel
theorem dX9_isSlot_5 : decode cX9_isSlot 5 = .ok (.bipush 6, 2) := by decide +kernel
theorem dX9_isSlot_7 : decode cX9_isSlot 7 = .ok (.if_icmp .ge 7, 3) := by decide +kernel
theorem dX9_isSlot_10 : decode cX9_isSlot 10 = .ok (.iconst 1, 1) := by decide +kernel
theorem dX9_isSlot_11 : decode cX9_isSlot 11 = .ok (.goto 4, 3) := by decide +kernel
theorem dX9_isSlot_14 : decode cX9_isSlot 14 = .ok (.iconst 0, 1) := by decide +kernel
theorem dX9_isSlot_15 : decode cX9_isSlot 15 = .ok (.ireturn, 1) := by decide +kernel
theorem dX9_isSheet_0 : decode cX9_isSheet 0 = .ok (.iload_n 0, 1) := by decide +kernel
theorem dX9_isSheet_1 : decode cX9_isSheet 1 = .ok (.ifCond .lt 12, 3) := by decide +kernel
theorem dX9_isSheet_4 : decode cX9_isSheet 4 = .ok (.iload_n 0, 1) := by decide +kernel
theorem dX9_isSheet_5 : decode cX9_isSheet 5 = .ok (.iconst 4, 1) := by decide +kernel
theorem dX9_isSheet_6 : decode cX9_isSheet 6 = .ok (.if_icmp .ge 7, 3) := by decide +kernel
theorem dX9_isSheet_9 : decode cX9_isSheet 9 = .ok (.iconst 1, 1) := by decide +kernel
theorem dX9_isSheet_10 : decode cX9_isSheet 10 = .ok (.goto 4, 3) := by decide +kernel
theorem dX9_isSheet_13 : decode cX9_isSheet 13 = .ok (.iconst 0, 1) := by decide +kernel
theorem dX9_isSheet_14 : decode cX9_isSheet 14 = .ok (.ireturn, 1) := by decide +kernel
theorem dX9_isHeld_0 : decode cX9_isHeld 0 = .ok (.aload_n 0, 1) := by decide +kernel
theorem dX9_isHeld_1 : decode cX9_isHeld 1 = .ok (.getfield 10, 3) := by decide +kernel
theorem dX9_isHeld_4 : decode cX9_isHeld 4 = .ok (.getfield 99, 3) := by decide +kernel
theorem dX9_isHeld_7 : decode cX9_isHeld 7 = .ok (.iload_n 1, 1) := by decide +kernel
theorem dX9_isHeld_8 : decode cX9_isHeld 8 = .ok (.aaload, 1) := by decide +kernel
theorem dX9_isHeld_9 : decode cX9_isHeld 9 = .ok (.getfield 136, 3) := by decide +kernel
theorem dX9_isHeld_12 : decode cX9_isHeld 12 = .ok (.ifCond .eq 7, 3) := by decide +kernel
theorem dX9_isHeld_15 : decode cX9_isHeld 15 = .ok (.iconst 1, 1) := by decide +kernel
theorem dX9_isHeld_16 : decode cX9_isHeld 16 = .ok (.goto 4, 3) := by decide +kernel
theorem dX9_isHeld_19 : decode cX9_isHeld 19 = .ok (.iconst 0, 1) := by decide +kernel
theorem dX9_isHeld_20 : decode cX9_isHeld 20 = .ok (.ireturn, 1) := by decide +kernel
theorem dX9_isLetter_0 : decode cX9_isLetter 0 = .ok (.iload_n 1, 1) := by decide +kernel
theorem dX9_isLetter_1 : decode cX9_isLetter 1 = .ok (.iconst 1, 1) := by decide +kernel
theorem dX9_isLetter_2 : decode cX9_isLetter 2 = .ok (.if_icmp .lt 18, 3) := by decide +kernel
theorem dX9_isLetter_5 : decode cX9_isLetter 5 = .ok (.iload_n 1, 1) := by decide +kernel
theorem dX9_isLetter_6 : decode cX9_isLetter 6 = .ok (.aload_n 0, 1) := by decide +kernel
theorem dX9_isLetter_7 : decode cX9_isLetter 7 = .ok (.getfield 10, 3) := by decide +kernel
theorem dX9_isLetter_10 : decode cX9_isLetter 10 = .ok (.getfield 84, 3) := by decide +kernel
theorem dX9_isLetter_13 : decode cX9_isLetter 13 = .ok (.if_icmp .gt 7, 3) := by decide +kernel
theorem dX9_isLetter_16 : decode cX9_isLetter 16 = .ok (.iconst 1, 1) := by decide +kernel
theorem dX9_isLetter_17 : decode cX9_isLetter 17 = .ok (.goto 4, 3) := by decide +kernel
theorem dX9_isLetter_20 : decode cX9_isLetter 20 = .ok (.iconst 0, 1) := by decide +kernel
theorem dX9_isLetter_21 : decode cX9_isLetter 21 = .ok (.ireturn, 1) := by decide +kernel
theorem dX9_isStep_0 : decode cX9_isStep 0 = .ok (.iload_n 1, 1) := by decide +kernel
theorem dX9_isStep_1 : decode cX9_isStep 1 = .ok (.iconst 1, 1) := by decide +kernel
theorem dX9_isStep_2 : decode cX9_isStep 2 = .ok (.if_icmp .lt 18, 3) := by decide +kernel
theorem dX9_isStep_5 : decode cX9_isStep 5 = .ok (.iload_n 1, 1) := by decide +kernel
theorem dX9_isStep_6 : decode cX9_isStep 6 = .ok (.aload_n 0, 1) := by decide +kernel
theorem dX9_isStep_7 : decode cX9_isStep 7 = .ok (.getfield 10, 3) := by decide +kernel
theorem dX9_isStep_10 : decode cX9_isStep 10 = .ok (.getfield 84, 3) := by decide +kernel
theorem dX9_isStep_13 : decode cX9_isStep 13 = .ok (.if_icmp .ge 7, 3) := by decide +kernel
theorem dX9_isStep_16 : decode cX9_isStep 16 = .ok (.iconst 1, 1) := by decide +kernel
theorem dX9_isStep_17 : decode cX9_isStep 17 = .ok (.goto 4, 3) := by decide +kernel
theorem dX9_isStep_20 : decode cX9_isStep 20 = .ok (.iconst 0, 1) := by decide +kernel
theorem dX9_isStep_21 : decode cX9_isStep 21 = .ok (.ireturn, 1) := by decide +kernel
theorem dX9_meetInTwo_0 : decode cX9_meetInTwo 0 = .ok (.aload_n 0, 1) := by decide +kernel
theorem dX9_meetInTwo_1 : decode cX9_meetInTwo 1 = .ok (.getfield 76, 3) := by decide +kernel
theorem dX9_meetInTwo_4 : decode cX9_meetInTwo 4 = .ok (.aload_n 1, 1) := by decide +kernel
theorem dX9_meetInTwo_5 : decode cX9_meetInTwo 5 = .ok (.invokevirtual 103, 3) := by decide +kernel
theorem dX9_meetInTwo_8 : decode cX9_meetInTwo 8 = .ok (.aload_n 0, 1) := by decide +kernel
theorem dX9_meetInTwo_9 : decode cX9_meetInTwo 9 = .ok (.getfield 80, 3) := by decide +kernel
theorem dX9_meetInTwo_12 : decode cX9_meetInTwo 12 = .ok (.aload_n 1, 1) := by decide +kernel
theorem dX9_meetInTwo_13 : decode cX9_meetInTwo 13 = .ok (.invokevirtual 103, 3) := by decide +kernel
theorem dX9_meetInTwo_16 : decode cX9_meetInTwo 16 = .ok (.aload_n 0, 1) := by decide +kernel
theorem dX9_meetInTwo_17 : decode cX9_meetInTwo 17 = .ok (.getfield 35, 3) := by decide +kernel
theorem dX9_meetInTwo_20 : decode cX9_meetInTwo 20 = .ok (.aload_n 0, 1) := by decide +kernel
theorem dX9_meetInTwo_21 : decode cX9_meetInTwo 21 = .ok (.getfield 76, 3) := by decide +kernel
theorem dX9_meetInTwo_24 : decode cX9_meetInTwo 24 = .ok (.iload_n 2, 1) := by decide +kernel
theorem dX9_meetInTwo_25 : decode cX9_meetInTwo 25 = .ok (.invokevirtual 328, 3) := by decide +kernel
theorem dX9_meetInTwo_28 : decode cX9_meetInTwo 28 = .ok (.ifCond .eq 66, 3) := by decide +kernel
theorem dX9_meetInTwo_31 : decode cX9_meetInTwo 31 = .ok (.aload_n 0, 1) := by decide +kernel
theorem dX9_meetInTwo_32 : decode cX9_meetInTwo 32 = .ok (.getfield 35, 3) := by decide +kernel
theorem dX9_meetInTwo_35 : decode cX9_meetInTwo 35 = .ok (.aload_n 0, 1) := by decide +kernel
theorem dX9_meetInTwo_36 : decode cX9_meetInTwo 36 = .ok (.getfield 76, 3) := by decide +kernel
theorem dX9_meetInTwo_39 : decode cX9_meetInTwo 39 = .ok (.iload_n 3, 1) := by decide +kernel
theorem dX9_meetInTwo_40 : decode cX9_meetInTwo 40 = .ok (.invokevirtual 328, 3) := by decide +kernel
theorem dX9_meetInTwo_43 : decode cX9_meetInTwo 43 = .ok (.ifCond .eq 51, 3) := by decide +kernel
theorem dX9_meetInTwo_46 : decode cX9_meetInTwo 46 = .ok (.aload_n 0, 1) := by decide +kernel
theorem dX9_meetInTwo_47 : decode cX9_meetInTwo 47 = .ok (.getfield 35, 3) := by decide +kernel
theorem dX9_meetInTwo_50 : decode cX9_meetInTwo 50 = .ok (.aload_n 0, 1) := by decide +kernel
theorem dX9_meetInTwo_51 : decode cX9_meetInTwo 51 = .ok (.getfield 80, 3) := by decide +kernel
theorem dX9_meetInTwo_54 : decode cX9_meetInTwo 54 = .ok (.iload_n 3, 1) := by decide +kernel
theorem dX9_meetInTwo_55 : decode cX9_meetInTwo 55 = .ok (.invokevirtual 328, 3) := by decide +kernel
theorem dX9_meetInTwo_58 : decode cX9_meetInTwo 58 = .ok (.ifCond .eq 36, 3) := by decide +kernel
theorem dX9_meetInTwo_61 : decode cX9_meetInTwo 61 = .ok (.aload_n 0, 1) := by decide +kernel
theorem dX9_meetInTwo_62 : decode cX9_meetInTwo 62 = .ok (.getfield 35, 3) := by decide +kernel
theorem dX9_meetInTwo_65 : decode cX9_meetInTwo 65 = .ok (.aload_n 0, 1) := by decide +kernel
theorem dX9_meetInTwo_66 : decode cX9_meetInTwo 66 = .ok (.getfield 80, 3) := by decide +kernel
theorem dX9_meetInTwo_69 : decode cX9_meetInTwo 69 = .ok (.iload_n 2, 1) := by decide +kernel
theorem dX9_meetInTwo_70 : decode cX9_meetInTwo 70 = .ok (.invokevirtual 328, 3) := by decide +kernel
theorem dX9_meetInTwo_73 : decode cX9_meetInTwo 73 = .ok (.ifCond .eq 21, 3) := by decide +kernel
theorem dX9_meetInTwo_76 : decode cX9_meetInTwo 76 = .ok (.aload_n 0, 1) := by decide +kernel
theorem dX9_meetInTwo_77 : decode cX9_meetInTwo 77 = .ok (.getfield 76, 3) := by decide +kernel
theorem dX9_meetInTwo_80 : decode cX9_meetInTwo 80 = .ok (.aload_n 0, 1) := by decide +kernel
theorem dX9_meetInTwo_81 : decode cX9_meetInTwo 81 = .ok (.getfield 80, 3) := by decide +kernel
theorem dX9_meetInTwo_84 : decode cX9_meetInTwo 84 = .ok (.invokevirtual 225, 3) := by decide +kernel
theorem dX9_meetInTwo_87 : decode cX9_meetInTwo 87 = .ok (.ifCond .eq 7, 3) := by decide +kernel
theorem dX9_meetInTwo_90 : decode cX9_meetInTwo 90 = .ok (.iconst 1, 1) := by decide +kernel
theorem dX9_meetInTwo_91 : decode cX9_meetInTwo 91 = .ok (.goto 4, 3) := by decide +kernel
theorem dX9_meetInTwo_94 : decode cX9_meetInTwo 94 = .ok (.iconst 0, 1) := by decide +kernel
theorem dX9_meetInTwo_95 : decode cX9_meetInTwo 95 = .ok (.ireturn, 1) := by decide +kernel
theorem dX9_meetInFour_0 : decode cX9_meetInFour 0 = .ok (.aload_n 0, 1) := by decide +kernel
theorem dX9_meetInFour_1 : decode cX9_meetInFour 1 = .ok (.getfield 76, 3) := by decide +kernel
theorem dX9_meetInFour_4 : decode cX9_meetInFour 4 = .ok (.aload_n 1, 1) := by decide +kernel
theorem dX9_meetInFour_5 : decode cX9_meetInFour 5 = .ok (.invokevirtual 103, 3) := by decide +kernel
theorem dX9_meetInFour_8 : decode cX9_meetInFour 8 = .ok (.aload_n 0, 1) := by decide +kernel
theorem dX9_meetInFour_9 : decode cX9_meetInFour 9 = .ok (.getfield 80, 3) := by decide +kernel
theorem dX9_meetInFour_12 : decode cX9_meetInFour 12 = .ok (.aload_n 1, 1) := by decide +kernel
theorem dX9_meetInFour_13 : decode cX9_meetInFour 13 = .ok (.invokevirtual 103, 3) := by decide +kernel
theorem dX9_meetInFour_16 : decode cX9_meetInFour 16 = .ok (.aload_n 0, 1) := by decide +kernel
theorem dX9_meetInFour_17 : decode cX9_meetInFour 17 = .ok (.aload_n 0, 1) := by decide +kernel
theorem dX9_meetInFour_18 : decode cX9_meetInFour 18 = .ok (.getfield 76, 3) := by decide +kernel
theorem dX9_meetInFour_21 : decode cX9_meetInFour 21 = .ok (.iload_n 2, 1) := by decide +kernel
theorem dX9_meetInFour_22 : decode cX9_meetInFour 22 = .ok (.iload_n 3, 1) := by decide +kernel
theorem dX9_meetInFour_23 : decode cX9_meetInFour 23 = .ok (.invokevirtual 331, 3) := by decide +kernel
theorem dX9_meetInFour_26 : decode cX9_meetInFour 26 = .ok (.ifCond .eq 34, 3) := by decide +kernel
theorem dX9_meetInFour_29 : decode cX9_meetInFour 29 = .ok (.aload_n 0, 1) := by decide +kernel
theorem dX9_meetInFour_30 : decode cX9_meetInFour 30 = .ok (.aload_n 0, 1) := by decide +kernel
theorem dX9_meetInFour_31 : decode cX9_meetInFour 31 = .ok (.getfield 80, 3) := by decide +kernel
theorem dX9_meetInFour_34 : decode cX9_meetInFour 34 = .ok (.iload_n 3, 1) := by decide +kernel
theorem dX9_meetInFour_35 : decode cX9_meetInFour 35 = .ok (.iload_n 2, 1) := by decide +kernel
theorem dX9_meetInFour_36 : decode cX9_meetInFour 36 = .ok (.invokevirtual 331, 3) := by decide +kernel
theorem dX9_meetInFour_39 : decode cX9_meetInFour 39 = .ok (.ifCond .eq 21, 3) := by decide +kernel
theorem dX9_meetInFour_42 : decode cX9_meetInFour 42 = .ok (.aload_n 0, 1) := by decide +kernel
theorem dX9_meetInFour_43 : decode cX9_meetInFour 43 = .ok (.getfield 76, 3) := by decide +kernel
theorem dX9_meetInFour_46 : decode cX9_meetInFour 46 = .ok (.aload_n 0, 1) := by decide +kernel
theorem dX9_meetInFour_47 : decode cX9_meetInFour 47 = .ok (.getfield 80, 3) := by decide +kernel
theorem dX9_meetInFour_50 : decode cX9_meetInFour 50 = .ok (.invokevirtual 225, 3) := by decide +kernel
theorem dX9_meetInFour_53 : decode cX9_meetInFour 53 = .ok (.ifCond .eq 7, 3) := by decide +kernel
theorem dX9_meetInFour_56 : decode cX9_meetInFour 56 = .ok (.iconst 1, 1) := by decide +kernel
theorem dX9_meetInFour_57 : decode cX9_meetInFour 57 = .ok (.goto 4, 3) := by decide +kernel
theorem dX9_meetInFour_60 : decode cX9_meetInFour 60 = .ok (.iconst 0, 1) := by decide +kernel
theorem dX9_meetInFour_61 : decode cX9_meetInFour 61 = .ok (.ireturn, 1) := by decide +kernel
theorem dX9_raisesOutAndBack_0 : decode cX9_raisesOutAndBack 0 = .ok (.aload_n 0, 1) := by decide +kernel
theorem dX9_raisesOutAndBack_1 : decode cX9_raisesOutAndBack 1 = .ok (.getfield 35, 3) := by decide +kernel
theorem dX9_raisesOutAndBack_4 : decode cX9_raisesOutAndBack 4 = .ok (.aload_n 1, 1) := by decide +kernel
theorem dX9_raisesOutAndBack_5 : decode cX9_raisesOutAndBack 5 = .ok (.iload_n 2, 1) := by decide +kernel
theorem dX9_raisesOutAndBack_6 : decode cX9_raisesOutAndBack 6 = .ok (.invokevirtual 328, 3) := by decide +kernel
theorem dX9_raisesOutAndBack_9 : decode cX9_raisesOutAndBack 9 = .ok (.ifCond .eq 43, 3) := by decide +kernel
theorem dX9_raisesOutAndBack_12 : decode cX9_raisesOutAndBack 12 = .ok (.aload_n 0, 1) := by decide +kernel
theorem dX9_raisesOutAndBack_13 : decode cX9_raisesOutAndBack 13 = .ok (.getfield 35, 3) := by decide +kernel
theorem dX9_raisesOutAndBack_16 : decode cX9_raisesOutAndBack 16 = .ok (.aload_n 1, 1) := by decide +kernel
theorem dX9_raisesOutAndBack_17 : decode cX9_raisesOutAndBack 17 = .ok (.iload_n 3, 1) := by decide +kernel
theorem dX9_raisesOutAndBack_18 : decode cX9_raisesOutAndBack 18 = .ok (.invokevirtual 328, 3) := by decide +kernel
theorem dX9_raisesOutAndBack_21 : decode cX9_raisesOutAndBack 21 = .ok (.ifCond .eq 31, 3) := by decide +kernel
theorem dX9_raisesOutAndBack_24 : decode cX9_raisesOutAndBack 24 = .ok (.aload_n 0, 1) := by decide +kernel
theorem dX9_raisesOutAndBack_25 : decode cX9_raisesOutAndBack 25 = .ok (.getfield 35, 3) := by decide +kernel
theorem dX9_raisesOutAndBack_28 : decode cX9_raisesOutAndBack 28 = .ok (.aload_n 1, 1) := by decide +kernel
theorem dX9_raisesOutAndBack_29 : decode cX9_raisesOutAndBack 29 = .ok (.iload_n 3, 1) := by decide +kernel
theorem dX9_raisesOutAndBack_30 : decode cX9_raisesOutAndBack 30 = .ok (.invokevirtual 328, 3) := by decide +kernel
theorem dX9_raisesOutAndBack_33 : decode cX9_raisesOutAndBack 33 = .ok (.ifCond .eq 19, 3) := by decide +kernel
theorem dX9_raisesOutAndBack_36 : decode cX9_raisesOutAndBack 36 = .ok (.aload_n 0, 1) := by decide +kernel
theorem dX9_raisesOutAndBack_37 : decode cX9_raisesOutAndBack 37 = .ok (.getfield 35, 3) := by decide +kernel
theorem dX9_raisesOutAndBack_40 : decode cX9_raisesOutAndBack 40 = .ok (.aload_n 1, 1) := by decide +kernel
theorem dX9_raisesOutAndBack_41 : decode cX9_raisesOutAndBack 41 = .ok (.iload_n 2, 1) := by decide +kernel
theorem dX9_raisesOutAndBack_42 : decode cX9_raisesOutAndBack 42 = .ok (.invokevirtual 328, 3) := by decide +kernel
theorem dX9_raisesOutAndBack_45 : decode cX9_raisesOutAndBack 45 = .ok (.ifCond .eq 7, 3) := by decide +kernel
theorem dX9_raisesOutAndBack_48 : decode cX9_raisesOutAndBack 48 = .ok (.iconst 1, 1) := by decide +kernel
theorem dX9_raisesOutAndBack_49 : decode cX9_raisesOutAndBack 49 = .ok (.goto 4, 3) := by decide +kernel
theorem dX9_raisesOutAndBack_52 : decode cX9_raisesOutAndBack 52 = .ok (.iconst 0, 1) := by decide +kernel
theorem dX9_raisesOutAndBack_53 : decode cX9_raisesOutAndBack 53 = .ok (.ireturn, 1) := by decide +kernel
theorem dX9_howManyDigits_0 : decode cX9_howManyDigits 0 = .ok (.iload_n 0, 1) := by decide +kernel
theorem dX9_howManyDigits_1 : decode cX9_howManyDigits 1 = .ok (.istore_n 1, 1) := by decide +kernel
theorem dX9_howManyDigits_2 : decode cX9_howManyDigits 2 = .ok (.iconst 0, 1) := by decide +kernel
theorem dX9_howManyDigits_3 : decode cX9_howManyDigits 3 = .ok (.istore_n 2, 1) := by decide +kernel
theorem dX9_howManyDigits_4 : decode cX9_howManyDigits 4 = .ok (.iconst 0, 1) := by decide +kernel
theorem dX9_howManyDigits_5 : decode cX9_howManyDigits 5 = .ok (.istore_n 3, 1) := by decide +kernel
theorem dX9_howManyDigits_6 : decode cX9_howManyDigits 6 = .ok (.iload_n 3, 1) := by decide +kernel
theorem dX9_howManyDigits_7 : decode cX9_howManyDigits 7 = .ok (.bipush 10, 2) := by decide +kernel
theorem dX9_howManyDigits_9 : decode cX9_howManyDigits 9 = .ok (.if_icmp .ge 21, 3) := by decide +kernel
theorem dX9_howManyDigits_12 : decode cX9_howManyDigits 12 = .ok (.iload_n 1, 1) := by decide +kernel
theorem dX9_howManyDigits_13 : decode cX9_howManyDigits 13 = .ok (.ifCond .le 17, 3) := by decide +kernel
theorem dX9_howManyDigits_16 : decode cX9_howManyDigits 16 = .ok (.iload_n 1, 1) := by decide +kernel
theorem dX9_howManyDigits_17 : decode cX9_howManyDigits 17 = .ok (.bipush 10, 2) := by decide +kernel
theorem dX9_howManyDigits_19 : decode cX9_howManyDigits 19 = .ok (.idiv, 1) := by decide +kernel
theorem dX9_howManyDigits_20 : decode cX9_howManyDigits 20 = .ok (.istore_n 1, 1) := by decide +kernel
theorem dX9_howManyDigits_21 : decode cX9_howManyDigits 21 = .ok (.iinc 2 1, 3) := by decide +kernel
theorem dX9_howManyDigits_24 : decode cX9_howManyDigits 24 = .ok (.iinc 3 1, 3) := by decide +kernel
theorem dX9_howManyDigits_27 : decode cX9_howManyDigits 27 = .ok (.goto (-21), 3) := by decide +kernel
theorem dX9_howManyDigits_30 : decode cX9_howManyDigits 30 = .ok (.iload_n 2, 1) := by decide +kernel
theorem dX9_howManyDigits_31 : decode cX9_howManyDigits 31 = .ok (.ireturn, 1) := by decide +kernel
theorem dX10_init_0 : decode cX10_init 0 = .ok (.aload_n 0, 1) := by decide +kernel
theorem dX10_init_1 : decode cX10_init 1 = .ok (.invokespecial 1, 3) := by decide +kernel
theorem dX10_init_4 : decode cX10_init 4 = .ok (.aload_n 0, 1) := by decide +kernel
theorem dX10_init_5 : decode cX10_init 5 = .ok (.iconst 3, 1) := by decide +kernel
theorem dX10_init_6 : decode cX10_init 6 = .ok (.putfield 7, 3) := by decide +kernel
theorem dX10_init_9 : decode cX10_init 9 = .ok (.aload_n 0, 1) := by decide +kernel
theorem dX10_init_10 : decode cX10_init 10 = .ok (.iconst 1, 1) := by decide +kernel
theorem dX10_init_11 : decode cX10_init 11 = .ok (.putfield 13, 3) := by decide +kernel
theorem dX10_init_14 : decode cX10_init 14 = .ok (.aload_n 0, 1) := by decide +kernel
theorem dX10_init_15 : decode cX10_init 15 = .ok (.bipush 6, 2) := by decide +kernel
theorem dX10_init_17 : decode cX10_init 17 = .ok (.newarray .int, 2) := by decide +kernel
theorem dX10_init_19 : decode cX10_init 19 = .ok (.putfield 16, 3) := by decide +kernel
theorem dX10_init_22 : decode cX10_init 22 = .ok (.aload_n 0, 1) := by decide +kernel
theorem dX10_init_23 : decode cX10_init 23 = .ok (.bipush 6, 2) := by decide +kernel
theorem dX10_init_25 : decode cX10_init 25 = .ok (.newarray .int, 2) := by decide +kernel
theorem dX10_init_27 : decode cX10_init 27 = .ok (.putfield 20, 3) := by decide +kernel
theorem dX10_init_30 : decode cX10_init 30 = .ok (.aload_n 0, 1) := by decide +kernel
theorem dX10_init_31 : decode cX10_init 31 = .ok (.bipush 36, 2) := by decide +kernel
theorem dX10_init_33 : decode cX10_init 33 = .ok (.newarray .int, 2) := by decide +kernel
theorem dX10_init_35 : decode cX10_init 35 = .ok (.putfield 23, 3) := by decide +kernel
theorem dX10_init_38 : decode cX10_init 38 = .ok (.aload_n 0, 1) := by decide +kernel
theorem dX10_init_39 : decode cX10_init 39 = .ok (.bipush 36, 2) := by decide +kernel
theorem dX10_init_41 : decode cX10_init 41 = .ok (.newarray .int, 2) := by decide +kernel
theorem dX10_init_43 : decode cX10_init 43 = .ok (.putfield 26, 3) := by decide +kernel
theorem dX10_init_46 : decode cX10_init 46 = .ok (.aload_n 0, 1) := by decide +kernel
theorem dX10_init_47 : decode cX10_init 47 = .ok (.bipush 6, 2) := by decide +kernel
theorem dX10_init_49 : decode cX10_init 49 = .ok (.newarray .int, 2) := by decide +kernel
theorem dX10_init_51 : decode cX10_init 51 = .ok (.putfield 29, 3) := by decide +kernel
theorem dX10_init_54 : decode cX10_init 54 = .ok (.aload_n 0, 1) := by decide +kernel
theorem dX10_init_55 : decode cX10_init 55 = .ok (.bipush 6, 2) := by decide +kernel
theorem dX10_init_57 : decode cX10_init 57 = .ok (.newarray .int, 2) := by decide +kernel
theorem dX10_init_59 : decode cX10_init 59 = .ok (.putfield 32, 3) := by decide +kernel
theorem dX10_init_62 : decode cX10_init 62 = .ok (.aload_n 0, 1) := by decide +kernel
theorem dX10_init_63 : decode cX10_init 63 = .ok (.bipush 36, 2) := by decide +kernel
theorem dX10_init_65 : decode cX10_init 65 = .ok (.newarray .int, 2) := by decide +kernel
theorem dX10_init_67 : decode cX10_init 67 = .ok (.putfield 35, 3) := by decide +kernel
theorem dX10_init_70 : decode cX10_init 70 = .ok (.aload_n 0, 1) := by decide +kernel
theorem dX10_init_71 : decode cX10_init 71 = .ok (.bipush 36, 2) := by decide +kernel
theorem dX10_init_73 : decode cX10_init 73 = .ok (.newarray .int, 2) := by decide +kernel
theorem dX10_init_75 : decode cX10_init 75 = .ok (.putfield 38, 3) := by decide +kernel
theorem dX10_init_78 : decode cX10_init 78 = .ok (.aload_n 0, 1) := by decide +kernel
theorem dX10_init_79 : decode cX10_init 79 = .ok (.bipush 6, 2) := by decide +kernel
theorem dX10_init_81 : decode cX10_init 81 = .ok (.newarray .int, 2) := by decide +kernel
theorem dX10_init_83 : decode cX10_init 83 = .ok (.dup, 1) := by decide +kernel
theorem dX10_init_84 : decode cX10_init 84 = .ok (.iconst 0, 1) := by decide +kernel
theorem dX10_init_85 : decode cX10_init 85 = .ok (.iconst 0, 1) := by decide +kernel
theorem dX10_init_86 : decode cX10_init 86 = .ok (.iastore, 1) := by decide +kernel
theorem dX10_init_87 : decode cX10_init 87 = .ok (.dup, 1) := by decide +kernel
theorem dX10_init_88 : decode cX10_init 88 = .ok (.iconst 1, 1) := by decide +kernel
theorem dX10_init_89 : decode cX10_init 89 = .ok (.iconst 1, 1) := by decide +kernel
theorem dX10_init_90 : decode cX10_init 90 = .ok (.iastore, 1) := by decide +kernel
theorem dX10_init_91 : decode cX10_init 91 = .ok (.dup, 1) := by decide +kernel
theorem dX10_init_92 : decode cX10_init 92 = .ok (.iconst 2, 1) := by decide +kernel
theorem dX10_init_93 : decode cX10_init 93 = .ok (.iconst 1, 1) := by decide +kernel
theorem dX10_init_94 : decode cX10_init 94 = .ok (.iastore, 1) := by decide +kernel
theorem dX10_init_95 : decode cX10_init 95 = .ok (.dup, 1) := by decide +kernel
theorem dX10_init_96 : decode cX10_init 96 = .ok (.iconst 3, 1) := by decide +kernel
theorem dX10_init_97 : decode cX10_init 97 = .ok (.iconst 1, 1) := by decide +kernel
theorem dX10_init_98 : decode cX10_init 98 = .ok (.iastore, 1) := by decide +kernel
theorem dX10_init_99 : decode cX10_init 99 = .ok (.dup, 1) := by decide +kernel
theorem dX10_init_100 : decode cX10_init 100 = .ok (.iconst 4, 1) := by decide +kernel
theorem dX10_init_101 : decode cX10_init 101 = .ok (.iconst 1, 1) := by decide +kernel
theorem dX10_init_102 : decode cX10_init 102 = .ok (.iastore, 1) := by decide +kernel
theorem dX10_init_103 : decode cX10_init 103 = .ok (.dup, 1) := by decide +kernel
theorem dX10_init_104 : decode cX10_init 104 = .ok (.iconst 5, 1) := by decide +kernel
theorem dX10_init_105 : decode cX10_init 105 = .ok (.iconst 1, 1) := by decide +kernel
theorem dX10_init_106 : decode cX10_init 106 = .ok (.iastore, 1) := by decide +kernel
theorem dX10_init_107 : decode cX10_init 107 = .ok (.putfield 41, 3) := by decide +kernel
theorem dX10_init_110 : decode cX10_init 110 = .ok (.aload_n 0, 1) := by decide +kernel
theorem dX10_init_111 : decode cX10_init 111 = .ok (.bipush 6, 2) := by decide +kernel
theorem dX10_init_113 : decode cX10_init 113 = .ok (.newarray .int, 2) := by decide +kernel
theorem dX10_init_115 : decode cX10_init 115 = .ok (.putfield 44, 3) := by decide +kernel
theorem dX10_init_118 : decode cX10_init 118 = .ok (.aload_n 0, 1) := by decide +kernel
theorem dX10_init_119 : decode cX10_init 119 = .ok (.bipush 6, 2) := by decide +kernel
theorem dX10_init_121 : decode cX10_init 121 = .ok (.newarray .int, 2) := by decide +kernel
theorem dX10_init_123 : decode cX10_init 123 = .ok (.putfield 47, 3) := by decide +kernel
theorem dX10_init_126 : decode cX10_init 126 = .ok (.aload_n 0, 1) := by decide +kernel
theorem dX10_init_127 : decode cX10_init 127 = .ok (.bipush 6, 2) := by decide +kernel
theorem dX10_init_129 : decode cX10_init 129 = .ok (.newarray .int, 2) := by decide +kernel
theorem dX10_init_131 : decode cX10_init 131 = .ok (.putfield 50, 3) := by decide +kernel
theorem dX10_init_134 : decode cX10_init 134 = .ok (.aload_n 0, 1) := by decide +kernel
theorem dX10_init_135 : decode cX10_init 135 = .ok (.bipush 6, 2) := by decide +kernel
theorem dX10_init_137 : decode cX10_init 137 = .ok (.newarray .int, 2) := by decide +kernel
theorem dX10_init_139 : decode cX10_init 139 = .ok (.putfield 53, 3) := by decide +kernel
theorem dX10_init_142 : decode cX10_init 142 = .ok (.aload_n 0, 1) := by decide +kernel
theorem dX10_init_143 : decode cX10_init 143 = .ok (.bipush 60, 2) := by decide +kernel
theorem dX10_init_145 : decode cX10_init 145 = .ok (.newarray .int, 2) := by decide +kernel
theorem dX10_init_147 : decode cX10_init 147 = .ok (.putfield 56, 3) := by decide +kernel
theorem dX10_init_150 : decode cX10_init 150 = .ok (.aload_n 0, 1) := by decide +kernel
theorem dX10_init_151 : decode cX10_init 151 = .ok (.bipush 36, 2) := by decide +kernel
theorem dX10_init_153 : decode cX10_init 153 = .ok (.newarray .int, 2) := by decide +kernel
theorem dX10_init_155 : decode cX10_init 155 = .ok (.putfield 59, 3) := by decide +kernel
theorem dX10_init_158 : decode cX10_init 158 = .ok (.aload_n 0, 1) := by decide +kernel
theorem dX10_init_159 : decode cX10_init 159 = .ok (.bipush 6, 2) := by decide +kernel
theorem dX10_init_161 : decode cX10_init 161 = .ok (.newarray .int, 2) := by decide +kernel
theorem dX10_init_163 : decode cX10_init 163 = .ok (.putfield 62, 3) := by decide +kernel
theorem dX10_init_166 : decode cX10_init 166 = .ok (.aload_n 0, 1) := by decide +kernel
theorem dX10_init_167 : decode cX10_init 167 = .ok (.bipush 60, 2) := by decide +kernel
theorem dX10_init_169 : decode cX10_init 169 = .ok (.newarray .int, 2) := by decide +kernel
theorem dX10_init_171 : decode cX10_init 171 = .ok (.putfield 65, 3) := by decide +kernel
theorem dX10_init_174 : decode cX10_init 174 = .ok (.aload_n 0, 1) := by decide +kernel
theorem dX10_init_175 : decode cX10_init 175 = .ok (.bipush 60, 2) := by decide +kernel
theorem dX10_init_177 : decode cX10_init 177 = .ok (.newarray .int, 2) := by decide +kernel
theorem dX10_init_179 : decode cX10_init 179 = .ok (.putfield 68, 3) := by decide +kernel
theorem dX10_init_182 : decode cX10_init 182 = .ok (.aload_n 0, 1) := by decide +kernel
theorem dX10_init_183 : decode cX10_init 183 = .ok (.sipush 489, 3) := by decide +kernel
theorem dX10_init_186 : decode cX10_init 186 = .ok (.newarray .int, 2) := by decide +kernel
theorem dX10_init_188 : decode cX10_init 188 = .ok (.putfield 71, 3) := by decide +kernel
theorem dX10_init_191 : decode cX10_init 191 = .ok (.aload_n 0, 1) := by decide +kernel
theorem dX10_init_192 : decode cX10_init 192 = .ok (.sipush 500, 3) := by decide +kernel
theorem dX10_init_195 : decode cX10_init 195 = .ok (.newarray .int, 2) := by decide +kernel
theorem dX10_init_197 : decode cX10_init 197 = .ok (.putfield 74, 3) := by decide +kernel
theorem dX10_init_200 : decode cX10_init 200 = .ok (.aload_n 0, 1) := by decide +kernel
theorem dX10_init_201 : decode cX10_init 201 = .ok (.bipush 36, 2) := by decide +kernel
theorem dX10_init_203 : decode cX10_init 203 = .ok (.newarray .int, 2) := by decide +kernel
theorem dX10_init_205 : decode cX10_init 205 = .ok (.putfield 77, 3) := by decide +kernel
theorem dX10_init_208 : decode cX10_init 208 = .ok (.aload_n 0, 1) := by decide +kernel
theorem dX10_init_209 : decode cX10_init 209 = .ok (.bipush 6, 2) := by decide +kernel
theorem dX10_init_211 : decode cX10_init 211 = .ok (.newarray .int, 2) := by decide +kernel
theorem dX10_init_213 : decode cX10_init 213 = .ok (.putfield 80, 3) := by decide +kernel
theorem dX10_init_216 : decode cX10_init 216 = .ok (.aload_n 0, 1) := by decide +kernel
theorem dX10_init_217 : decode cX10_init 217 = .ok (.bipush 6, 2) := by decide +kernel
theorem dX10_init_219 : decode cX10_init 219 = .ok (.newarray .int, 2) := by decide +kernel
theorem dX10_init_221 : decode cX10_init 221 = .ok (.putfield 83, 3) := by decide +kernel
theorem dX10_init_224 : decode cX10_init 224 = .ok (.aload_n 0, 1) := by decide +kernel
theorem dX10_init_225 : decode cX10_init 225 = .ok (.bipush 6, 2) := by decide +kernel
theorem dX10_init_227 : decode cX10_init 227 = .ok (.newarray .int, 2) := by decide +kernel
theorem dX10_init_229 : decode cX10_init 229 = .ok (.putfield 86, 3) := by decide +kernel
theorem dX10_init_232 : decode cX10_init 232 = .ok (.aload_n 0, 1) := by decide +kernel
theorem dX10_init_233 : decode cX10_init 233 = .ok (.bipush 6, 2) := by decide +kernel
theorem dX10_init_235 : decode cX10_init 235 = .ok (.newarray .int, 2) := by decide +kernel
theorem dX10_init_237 : decode cX10_init 237 = .ok (.putfield 89, 3) := by decide +kernel
theorem dX10_init_240 : decode cX10_init 240 = .ok (.aload_n 0, 1) := by decide +kernel
theorem dX10_init_241 : decode cX10_init 241 = .ok (.iconst 4, 1) := by decide +kernel
theorem dX10_init_242 : decode cX10_init 242 = .ok (.newarray .int, 2) := by decide +kernel
theorem dX10_init_244 : decode cX10_init 244 = .ok (.dup, 1) := by decide +kernel
theorem dX10_init_245 : decode cX10_init 245 = .ok (.iconst 0, 1) := by decide +kernel
theorem dX10_init_246 : decode cX10_init 246 = .ok (.iconst (-1), 1) := by decide +kernel
theorem dX10_init_247 : decode cX10_init 247 = .ok (.iastore, 1) := by decide +kernel
theorem dX10_init_248 : decode cX10_init 248 = .ok (.dup, 1) := by decide +kernel
theorem dX10_init_249 : decode cX10_init 249 = .ok (.iconst 1, 1) := by decide +kernel
theorem dX10_init_250 : decode cX10_init 250 = .ok (.iconst (-1), 1) := by decide +kernel
theorem dX10_init_251 : decode cX10_init 251 = .ok (.iastore, 1) := by decide +kernel
theorem dX10_init_252 : decode cX10_init 252 = .ok (.dup, 1) := by decide +kernel
theorem dX10_init_253 : decode cX10_init 253 = .ok (.iconst 2, 1) := by decide +kernel
theorem dX10_init_254 : decode cX10_init 254 = .ok (.iconst (-1), 1) := by decide +kernel
theorem dX10_init_255 : decode cX10_init 255 = .ok (.iastore, 1) := by decide +kernel
theorem dX10_init_256 : decode cX10_init 256 = .ok (.dup, 1) := by decide +kernel
theorem dX10_init_257 : decode cX10_init 257 = .ok (.iconst 3, 1) := by decide +kernel
theorem dX10_init_258 : decode cX10_init 258 = .ok (.iconst (-1), 1) := by decide +kernel
theorem dX10_init_259 : decode cX10_init 259 = .ok (.iastore, 1) := by decide +kernel
theorem dX10_init_260 : decode cX10_init 260 = .ok (.putfield 92, 3) := by decide +kernel
theorem dX10_init_263 : decode cX10_init 263 = .ok (.aload_n 0, 1) := by decide +kernel
theorem dX10_init_264 : decode cX10_init 264 = .ok (.iconst 4, 1) := by decide +kernel
theorem dX10_init_265 : decode cX10_init 265 = .ok (.newarray .int, 2) := by decide +kernel
theorem dX10_init_267 : decode cX10_init 267 = .ok (.putfield 95, 3) := by decide +kernel
theorem dX10_init_270 : decode cX10_init 270 = .ok (.aload_n 0, 1) := by decide +kernel
theorem dX10_init_271 : decode cX10_init 271 = .ok (.sipush 160, 3) := by decide +kernel
theorem dX10_init_274 : decode cX10_init 274 = .ok (.newarray .int, 2) := by decide +kernel
theorem dX10_init_276 : decode cX10_init 276 = .ok (.putfield 98, 3) := by decide +kernel
theorem dX10_init_279 : decode cX10_init 279 = .ok (.aload_n 0, 1) := by decide +kernel
theorem dX10_init_280 : decode cX10_init 280 = .ok (.bipush 40, 2) := by decide +kernel
theorem dX10_init_282 : decode cX10_init 282 = .ok (.newarray .int, 2) := by decide +kernel
theorem dX10_init_284 : decode cX10_init 284 = .ok (.putfield 101, 3) := by decide +kernel
theorem dX10_init_287 : decode cX10_init 287 = .ok (.return_, 1) := by decide +kernel
theorem dX10_in_0 : decode cX10_in 0 = .ok (.iload_n 0, 1) := by decide +kernel
theorem dX10_in_1 : decode cX10_in 1 = .ok (.iload_n 1, 1) := by decide +kernel
theorem dX10_in_2 : decode cX10_in 2 = .ok (.if_icmp .lt 12, 3) := by decide +kernel
theorem dX10_in_5 : decode cX10_in 5 = .ok (.iload_n 0, 1) := by decide +kernel
theorem dX10_in_6 : decode cX10_in 6 = .ok (.iload_n 2, 1) := by decide +kernel
theorem dX10_in_7 : decode cX10_in 7 = .ok (.if_icmp .gt 7, 3) := by decide +kernel
theorem dX10_in_10 : decode cX10_in 10 = .ok (.iconst 1, 1) := by decide +kernel
theorem dX10_in_11 : decode cX10_in 11 = .ok (.goto 4, 3) := by decide +kernel
theorem dX10_in_14 : decode cX10_in 14 = .ok (.iconst 0, 1) := by decide +kernel
theorem dX10_in_15 : decode cX10_in 15 = .ok (.ireturn, 1) := by decide +kernel
theorem dX10_isSlot_0 : decode cX10_isSlot 0 = .ok (.iload_n 0, 1) := by decide +kernel
theorem dX10_isSlot_1 : decode cX10_isSlot 1 = .ok (.iconst 0, 1) := by decide +kernel
theorem dX10_isSlot_2 : decode cX10_isSlot 2 = .ok (.iconst 5, 1) := by decide +kernel
theorem dX10_isSlot_3 : decode cX10_isSlot 3 = .ok (.invokestatic 104, 3) := by decide +kernel
theorem dX10_isSlot_6 : decode cX10_isSlot 6 = .ok (.ireturn, 1) := by decide +kernel
theorem dX10_isSign_0 : decode cX10_isSign 0 = .ok (.iload_n 1, 1) := by decide +kernel
theorem dX10_isSign_1 : decode cX10_isSign 1 = .ok (.iconst 1, 1) := by decide +kernel
theorem dX10_isSign_2 : decode cX10_isSign 2 = .ok (.aload_n 0, 1) := by decide +kernel
theorem dX10_isSign_3 : decode cX10_isSign 3 = .ok (.getfield 7, 3) := by decide +kernel
theorem dX10_isSign_6 : decode cX10_isSign 6 = .ok (.iconst 1, 1) := by decide +kernel
theorem dX10_isSign_7 : decode cX10_isSign 7 = .ok (.isub, 1) := by decide +kernel
theorem dX10_isSign_8 : decode cX10_isSign 8 = .ok (.invokestatic 104, 3) := by decide +kernel
theorem dX10_isSign_11 : decode cX10_isSign 11 = .ok (.ireturn, 1) := by decide +kernel
theorem dX10_takes_0 : decode cX10_takes 0 = .ok (.aload_n 0, 1) := by decide +kernel
theorem dX10_takes_1 : decode cX10_takes 1 = .ok (.aload_n 0, 1) := by decide +kernel
theorem dX10_takes_2 : decode cX10_takes 2 = .ok (.getfield 16, 3) := by decide +kernel
theorem dX10_takes_5 : decode cX10_takes 5 = .ok (.iload_n 1, 1) := by decide +kernel
theorem dX10_takes_6 : decode cX10_takes 6 = .ok (.iaload, 1) := by decide +kernel
theorem dX10_takes_7 : decode cX10_takes 7 = .ok (.putfield 108, 3) := by decide +kernel
theorem dX10_takes_10 : decode cX10_takes 10 = .ok (.aload_n 0, 1) := by decide +kernel
theorem dX10_takes_11 : decode cX10_takes 11 = .ok (.aload_n 0, 1) := by decide +kernel
theorem dX10_takes_12 : decode cX10_takes 12 = .ok (.getfield 20, 3) := by decide +kernel
theorem dX10_takes_15 : decode cX10_takes 15 = .ok (.iload_n 1, 1) := by decide +kernel
theorem dX10_takes_16 : decode cX10_takes 16 = .ok (.iaload, 1) := by decide +kernel
theorem dX10_takes_17 : decode cX10_takes 17 = .ok (.putfield 111, 3) := by decide +kernel
theorem dX10_takes_20 : decode cX10_takes 20 = .ok (.iconst 0, 1) := by decide +kernel
theorem dX10_takes_21 : decode cX10_takes 21 = .ok (.istore_n 2, 1) := by decide +kernel
theorem dX10_takes_22 : decode cX10_takes 22 = .ok (.iload_n 2, 1) := by decide +kernel
theorem dX10_takes_23 : decode cX10_takes 23 = .ok (.bipush 6, 2) := by decide +kernel
theorem dX10_takes_25 : decode cX10_takes 25 = .ok (.if_icmp .ge 43, 3) := by decide +kernel
theorem dX10_takes_28 : decode cX10_takes 28 = .ok (.aload_n 0, 1) := by decide +kernel
theorem dX10_takes_29 : decode cX10_takes 29 = .ok (.getfield 47, 3) := by decide +kernel
theorem dX10_takes_32 : decode cX10_takes 32 = .ok (.iload_n 2, 1) := by decide +kernel
theorem dX10_takes_33 : decode cX10_takes 33 = .ok (.aload_n 0, 1) := by decide +kernel
theorem dX10_takes_34 : decode cX10_takes 34 = .ok (.getfield 23, 3) := by decide +kernel
theorem dX10_takes_37 : decode cX10_takes 37 = .ok (.bipush 6, 2) := by decide +kernel
theorem dX10_takes_39 : decode cX10_takes 39 = .ok (.iload_n 1, 1) := by decide +kernel
theorem dX10_takes_40 : decode cX10_takes 40 = .ok (.imul, 1) := by decide +kernel
theorem dX10_takes_41 : decode cX10_takes 41 = .ok (.iload_n 2, 1) := by decide +kernel
theorem dX10_takes_42 : decode cX10_takes 42 = .ok (.iadd, 1) := by decide +kernel
theorem dX10_takes_43 : decode cX10_takes 43 = .ok (.iaload, 1) := by decide +kernel
theorem dX10_takes_44 : decode cX10_takes 44 = .ok (.iastore, 1) := by decide +kernel
theorem dX10_takes_45 : decode cX10_takes 45 = .ok (.aload_n 0, 1) := by decide +kernel
theorem dX10_takes_46 : decode cX10_takes 46 = .ok (.getfield 50, 3) := by decide +kernel
theorem dX10_takes_49 : decode cX10_takes 49 = .ok (.iload_n 2, 1) := by decide +kernel
theorem dX10_takes_50 : decode cX10_takes 50 = .ok (.aload_n 0, 1) := by decide +kernel
theorem dX10_takes_51 : decode cX10_takes 51 = .ok (.getfield 26, 3) := by decide +kernel
theorem dX10_takes_54 : decode cX10_takes 54 = .ok (.bipush 6, 2) := by decide +kernel
theorem dX10_takes_56 : decode cX10_takes 56 = .ok (.iload_n 1, 1) := by decide +kernel
theorem dX10_takes_57 : decode cX10_takes 57 = .ok (.imul, 1) := by decide +kernel
theorem dX10_takes_58 : decode cX10_takes 58 = .ok (.iload_n 2, 1) := by decide +kernel
theorem dX10_takes_59 : decode cX10_takes 59 = .ok (.iadd, 1) := by decide +kernel
theorem dX10_takes_60 : decode cX10_takes 60 = .ok (.iaload, 1) := by decide +kernel
theorem dX10_takes_61 : decode cX10_takes 61 = .ok (.iastore, 1) := by decide +kernel
theorem dX10_takes_62 : decode cX10_takes 62 = .ok (.iinc 2 1, 3) := by decide +kernel
theorem dX10_takes_65 : decode cX10_takes 65 = .ok (.goto (-43), 3) := by decide +kernel
theorem dX10_takes_68 : decode cX10_takes 68 = .ok (.return_, 1) := by decide +kernel
theorem dX10_lays_0 : decode cX10_lays 0 = .ok (.aload_n 0, 1) := by decide +kernel
theorem dX10_lays_1 : decode cX10_lays 1 = .ok (.getfield 16, 3) := by decide +kernel
theorem dX10_lays_4 : decode cX10_lays 4 = .ok (.iload_n 1, 1) := by decide +kernel
theorem dX10_lays_5 : decode cX10_lays 5 = .ok (.aload_n 0, 1) := by decide +kernel
theorem dX10_lays_6 : decode cX10_lays 6 = .ok (.getfield 108, 3) := by decide +kernel
theorem dX10_lays_9 : decode cX10_lays 9 = .ok (.iastore, 1) := by decide +kernel
theorem dX10_lays_10 : decode cX10_lays 10 = .ok (.aload_n 0, 1) := by decide +kernel
theorem dX10_lays_11 : decode cX10_lays 11 = .ok (.getfield 20, 3) := by decide +kernel
theorem dX10_lays_14 : decode cX10_lays 14 = .ok (.iload_n 1, 1) := by decide +kernel
theorem dX10_lays_15 : decode cX10_lays 15 = .ok (.aload_n 0, 1) := by decide +kernel
theorem dX10_lays_16 : decode cX10_lays 16 = .ok (.getfield 111, 3) := by decide +kernel
theorem dX10_lays_19 : decode cX10_lays 19 = .ok (.iastore, 1) := by decide +kernel
theorem dX10_lays_20 : decode cX10_lays 20 = .ok (.iconst 0, 1) := by decide +kernel
theorem dX10_lays_21 : decode cX10_lays 21 = .ok (.istore_n 2, 1) := by decide +kernel
theorem dX10_lays_22 : decode cX10_lays 22 = .ok (.iload_n 2, 1) := by decide +kernel
theorem dX10_lays_23 : decode cX10_lays 23 = .ok (.bipush 6, 2) := by decide +kernel
theorem dX10_lays_25 : decode cX10_lays 25 = .ok (.if_icmp .ge 67, 3) := by decide +kernel
theorem dX10_lays_28 : decode cX10_lays 28 = .ok (.aload_n 0, 1) := by decide +kernel
theorem dX10_lays_29 : decode cX10_lays 29 = .ok (.getfield 23, 3) := by decide +kernel
theorem dX10_lays_32 : decode cX10_lays 32 = .ok (.bipush 6, 2) := by decide +kernel
theorem dX10_lays_34 : decode cX10_lays 34 = .ok (.iload_n 1, 1) := by decide +kernel
theorem dX10_lays_35 : decode cX10_lays 35 = .ok (.imul, 1) := by decide +kernel
theorem dX10_lays_36 : decode cX10_lays 36 = .ok (.iload_n 2, 1) := by decide +kernel
theorem dX10_lays_37 : decode cX10_lays 37 = .ok (.iadd, 1) := by decide +kernel
theorem dX10_lays_38 : decode cX10_lays 38 = .ok (.iload_n 2, 1) := by decide +kernel
theorem dX10_lays_39 : decode cX10_lays 39 = .ok (.aload_n 0, 1) := by decide +kernel
theorem dX10_lays_40 : decode cX10_lays 40 = .ok (.getfield 111, 3) := by decide +kernel
theorem dX10_lays_43 : decode cX10_lays 43 = .ok (.if_icmp .ge 12, 3) := by decide +kernel
theorem dX10_lays_46 : decode cX10_lays 46 = .ok (.aload_n 0, 1) := by decide +kernel
theorem dX10_lays_47 : decode cX10_lays 47 = .ok (.getfield 47, 3) := by decide +kernel
theorem dX10_lays_50 : decode cX10_lays 50 = .ok (.iload_n 2, 1) := by decide +kernel
theorem dX10_lays_51 : decode cX10_lays 51 = .ok (.iaload, 1) := by decide +kernel
theorem dX10_lays_52 : decode cX10_lays 52 = .ok (.goto 4, 3) := by decide +kernel
theorem dX10_lays_55 : decode cX10_lays 55 = .ok (.iconst 0, 1) := by decide +kernel
theorem dX10_lays_56 : decode cX10_lays 56 = .ok (.iastore, 1) := by decide +kernel
theorem dX10_lays_57 : decode cX10_lays 57 = .ok (.aload_n 0, 1) := by decide +kernel
theorem dX10_lays_58 : decode cX10_lays 58 = .ok (.getfield 26, 3) := by decide +kernel
theorem dX10_lays_61 : decode cX10_lays 61 = .ok (.bipush 6, 2) := by decide +kernel
theorem dX10_lays_63 : decode cX10_lays 63 = .ok (.iload_n 1, 1) := by decide +kernel
theorem dX10_lays_64 : decode cX10_lays 64 = .ok (.imul, 1) := by decide +kernel
theorem dX10_lays_65 : decode cX10_lays 65 = .ok (.iload_n 2, 1) := by decide +kernel
theorem dX10_lays_66 : decode cX10_lays 66 = .ok (.iadd, 1) := by decide +kernel
theorem dX10_lays_67 : decode cX10_lays 67 = .ok (.aload_n 0, 1) := by decide +kernel
theorem dX10_lays_68 : decode cX10_lays 68 = .ok (.getfield 108, 3) := by decide +kernel
theorem dX10_lays_71 : decode cX10_lays 71 = .ok (.iconst 2, 1) := by decide +kernel
theorem dX10_lays_72 : decode cX10_lays 72 = .ok (.if_icmp .ne 12, 3) := by decide +kernel
theorem dX10_lays_75 : decode cX10_lays 75 = .ok (.aload_n 0, 1) := by decide +kernel
theorem dX10_lays_76 : decode cX10_lays 76 = .ok (.getfield 50, 3) := by decide +kernel
theorem dX10_lays_79 : decode cX10_lays 79 = .ok (.iload_n 2, 1) := by decide +kernel
theorem dX10_lays_80 : decode cX10_lays 80 = .ok (.iaload, 1) := by decide +kernel
theorem dX10_lays_81 : decode cX10_lays 81 = .ok (.goto 4, 3) := by decide +kernel
theorem dX10_lays_84 : decode cX10_lays 84 = .ok (.iconst 0, 1) := by decide +kernel
theorem dX10_lays_85 : decode cX10_lays 85 = .ok (.iastore, 1) := by decide +kernel
theorem dX10_lays_86 : decode cX10_lays 86 = .ok (.iinc 2 1, 3) := by decide +kernel
theorem dX10_lays_89 : decode cX10_lays 89 = .ok (.goto (-67), 3) := by decide +kernel
theorem dX10_lays_92 : decode cX10_lays 92 = .ok (.return_, 1) := by decide +kernel
theorem dX10_read_0 : decode cX10_read 0 = .ok (.iconst 0, 1) := by decide +kernel
theorem dX10_read_1 : decode cX10_read 1 = .ok (.istore_n 1, 1) := by decide +kernel
theorem dX10_read_2 : decode cX10_read 2 = .ok (.iconst 0, 1) := by decide +kernel
theorem dX10_read_3 : decode cX10_read 3 = .ok (.istore_n 2, 1) := by decide +kernel
theorem dX10_read_4 : decode cX10_read 4 = .ok (.iload_n 2, 1) := by decide +kernel
theorem dX10_read_5 : decode cX10_read 5 = .ok (.aload_n 0, 1) := by decide +kernel
theorem dX10_read_6 : decode cX10_read 6 = .ok (.getfield 111, 3) := by decide +kernel
theorem dX10_read_9 : decode cX10_read 9 = .ok (.if_icmp .ge 21, 3) := by decide +kernel
theorem dX10_read_12 : decode cX10_read 12 = .ok (.bipush 10, 2) := by decide +kernel
theorem dX10_read_14 : decode cX10_read 14 = .ok (.iload_n 1, 1) := by decide +kernel
theorem dX10_read_15 : decode cX10_read 15 = .ok (.imul, 1) := by decide +kernel
theorem dX10_read_16 : decode cX10_read 16 = .ok (.aload_n 0, 1) := by decide +kernel
theorem dX10_read_17 : decode cX10_read 17 = .ok (.getfield 47, 3) := by decide +kernel
theorem dX10_read_20 : decode cX10_read 20 = .ok (.iload_n 2, 1) := by decide +kernel
theorem dX10_read_21 : decode cX10_read 21 = .ok (.iaload, 1) := by decide +kernel
theorem dX10_read_22 : decode cX10_read 22 = .ok (.iadd, 1) := by decide +kernel
theorem dX10_read_23 : decode cX10_read 23 = .ok (.istore_n 1, 1) := by decide +kernel
theorem dX10_read_24 : decode cX10_read 24 = .ok (.iinc 2 1, 3) := by decide +kernel
theorem dX10_read_27 : decode cX10_read 27 = .ok (.goto (-23), 3) := by decide +kernel
theorem dX10_read_30 : decode cX10_read 30 = .ok (.iload_n 1, 1) := by decide +kernel
theorem dX10_read_31 : decode cX10_read 31 = .ok (.ireturn, 1) := by decide +kernel
theorem dX10_content_0 : decode cX10_content 0 = .ok (.iconst 0, 1) := by decide +kernel
theorem dX10_content_1 : decode cX10_content 1 = .ok (.istore_n 1, 1) := by decide +kernel
theorem dX10_content_2 : decode cX10_content 2 = .ok (.iconst 1, 1) := by decide +kernel
theorem dX10_content_3 : decode cX10_content 3 = .ok (.istore_n 2, 1) := by decide +kernel
theorem dX10_content_4 : decode cX10_content 4 = .ok (.iload_n 2, 1) := by decide +kernel
theorem dX10_content_5 : decode cX10_content 5 = .ok (.aload_n 0, 1) := by decide +kernel
theorem dX10_content_6 : decode cX10_content 6 = .ok (.getfield 7, 3) := by decide +kernel
theorem dX10_content_9 : decode cX10_content 9 = .ok (.if_icmp .gt 55, 3) := by decide +kernel
theorem dX10_content_12 : decode cX10_content 12 = .ok (.iconst 0, 1) := by decide +kernel
theorem dX10_content_13 : decode cX10_content 13 = .ok (.istore_n 3, 1) := by decide +kernel
theorem dX10_content_14 : decode cX10_content 14 = .ok (.iconst 0, 1) := by decide +kernel
theorem dX10_content_15 : decode cX10_content 15 = .ok (.istore 4, 2) := by decide +kernel
theorem dX10_content_17 : decode cX10_content 17 = .ok (.iload 4, 2) := by decide +kernel
theorem dX10_content_19 : decode cX10_content 19 = .ok (.aload_n 0, 1) := by decide +kernel
theorem dX10_content_20 : decode cX10_content 20 = .ok (.getfield 111, 3) := by decide +kernel
theorem dX10_content_23 : decode cX10_content 23 = .ok (.if_icmp .ge 28, 3) := by decide +kernel
theorem dX10_content_26 : decode cX10_content 26 = .ok (.iload_n 3, 1) := by decide +kernel
theorem dX10_content_27 : decode cX10_content 27 = .ok (.aload_n 0, 1) := by decide +kernel
theorem dX10_content_28 : decode cX10_content 28 = .ok (.getfield 47, 3) := by decide +kernel
theorem dX10_content_31 : decode cX10_content 31 = .ok (.iload 4, 2) := by decide +kernel
theorem dX10_content_33 : decode cX10_content 33 = .ok (.iaload, 1) := by decide +kernel
theorem dX10_content_34 : decode cX10_content 34 = .ok (.iload_n 2, 1) := by decide +kernel
theorem dX10_content_35 : decode cX10_content 35 = .ok (.if_icmp .ne 7, 3) := by decide +kernel
theorem dX10_content_38 : decode cX10_content 38 = .ok (.iconst 1, 1) := by decide +kernel
theorem dX10_content_39 : decode cX10_content 39 = .ok (.goto 4, 3) := by decide +kernel
theorem dX10_content_42 : decode cX10_content 42 = .ok (.iconst 0, 1) := by decide +kernel
theorem dX10_content_43 : decode cX10_content 43 = .ok (.iadd, 1) := by decide +kernel
theorem dX10_content_44 : decode cX10_content 44 = .ok (.istore_n 3, 1) := by decide +kernel
theorem dX10_content_45 : decode cX10_content 45 = .ok (.iinc 4 1, 3) := by decide +kernel
theorem dX10_content_48 : decode cX10_content 48 = .ok (.goto (-31), 3) := by decide +kernel
theorem dX10_content_51 : decode cX10_content 51 = .ok (.bipush 10, 2) := by decide +kernel
theorem dX10_content_53 : decode cX10_content 53 = .ok (.iload_n 1, 1) := by decide +kernel
theorem dX10_content_54 : decode cX10_content 54 = .ok (.imul, 1) := by decide +kernel
theorem dX10_content_55 : decode cX10_content 55 = .ok (.iload_n 3, 1) := by decide +kernel
theorem dX10_content_56 : decode cX10_content 56 = .ok (.iadd, 1) := by decide +kernel
theorem dX10_content_57 : decode cX10_content 57 = .ok (.istore_n 1, 1) := by decide +kernel
theorem dX10_content_58 : decode cX10_content 58 = .ok (.iinc 2 1, 3) := by decide +kernel
theorem dX10_content_61 : decode cX10_content 61 = .ok (.goto (-57), 3) := by decide +kernel
theorem dX10_content_64 : decode cX10_content 64 = .ok (.iload_n 1, 1) := by decide +kernel
theorem dX10_content_65 : decode cX10_content 65 = .ok (.ireturn, 1) := by decide +kernel
theorem dX10_manyRows_0 : decode cX10_manyRows 0 = .ok (.iconst 0, 1) := by decide +kernel
theorem dX10_manyRows_1 : decode cX10_manyRows 1 = .ok (.istore_n 1, 1) := by decide +kernel
theorem dX10_manyRows_2 : decode cX10_manyRows 2 = .ok (.iload_n 1, 1) := by decide +kernel
theorem dX10_manyRows_3 : decode cX10_manyRows 3 = .ok (.bipush 6, 2) := by decide +kernel
theorem dX10_manyRows_5 : decode cX10_manyRows 5 = .ok (.if_icmp .ge 18, 3) := by decide +kernel
theorem dX10_manyRows_8 : decode cX10_manyRows 8 = .ok (.aload_n 0, 1) := by decide +kernel
theorem dX10_manyRows_9 : decode cX10_manyRows 9 = .ok (.getfield 50, 3) := by decide +kernel
theorem dX10_manyRows_12 : decode cX10_manyRows 12 = .ok (.iload_n 1, 1) := by decide +kernel
theorem dX10_manyRows_13 : decode cX10_manyRows 13 = .ok (.iaload, 1) := by decide +kernel
theorem dX10_manyRows_14 : decode cX10_manyRows 14 = .ok (.ifCond .le 9, 3) := by decide +kernel
theorem dX10_manyRows_17 : decode cX10_manyRows 17 = .ok (.iinc 1 1, 3) := by decide +kernel
theorem dX10_manyRows_20 : decode cX10_manyRows 20 = .ok (.goto (-18), 3) := by decide +kernel
theorem dX10_manyRows_23 : decode cX10_manyRows 23 = .ok (.iload_n 1, 1) := by decide +kernel
theorem dX10_manyRows_24 : decode cX10_manyRows 24 = .ok (.ireturn, 1) := by decide +kernel
theorem dX10_letters_0 : decode cX10_letters 0 = .ok (.iload_n 1, 1) := by decide +kernel
theorem dX10_letters_1 : decode cX10_letters 1 = .ok (.iconst 2, 1) := by decide +kernel
theorem dX10_letters_2 : decode cX10_letters 2 = .ok (.iconst 5, 1) := by decide +kernel
theorem dX10_letters_3 : decode cX10_letters 3 = .ok (.invokestatic 104, 3) := by decide +kernel
theorem dX10_letters_6 : decode cX10_letters 6 = .ok (.ifCond .ne 5, 3) := by decide +kernel
theorem dX10_letters_9 : decode cX10_letters 9 = .ok (.iconst (-1), 1) := by decide +kernel
theorem dX10_letters_10 : decode cX10_letters 10 = .ok (.ireturn, 1) := by decide +kernel
theorem dX10_letters_11 : decode cX10_letters 11 = .ok (.aload_n 0, 1) := by decide +kernel
theorem dX10_letters_12 : decode cX10_letters 12 = .ok (.getfield 7, 3) := by decide +kernel
theorem dX10_letters_15 : decode cX10_letters 15 = .ok (.istore_n 2, 1) := by decide +kernel
theorem dX10_letters_16 : decode cX10_letters 16 = .ok (.aload_n 0, 1) := by decide +kernel
theorem dX10_letters_17 : decode cX10_letters 17 = .ok (.iload_n 1, 1) := by decide +kernel
theorem dX10_letters_18 : decode cX10_letters 18 = .ok (.putfield 7, 3) := by decide +kernel
theorem dX10_letters_21 : decode cX10_letters 21 = .ok (.iconst 0, 1) := by decide +kernel
theorem dX10_letters_22 : decode cX10_letters 22 = .ok (.istore_n 3, 1) := by decide +kernel
theorem dX10_letters_23 : decode cX10_letters 23 = .ok (.iload_n 3, 1) := by decide +kernel
theorem dX10_letters_24 : decode cX10_letters 24 = .ok (.bipush 6, 2) := by decide +kernel
theorem dX10_letters_26 : decode cX10_letters 26 = .ok (.if_icmp .ge 21, 3) := by decide +kernel
theorem dX10_letters_29 : decode cX10_letters 29 = .ok (.iload_n 1, 1) := by decide +kernel
theorem dX10_letters_30 : decode cX10_letters 30 = .ok (.iload_n 2, 1) := by decide +kernel
theorem dX10_letters_31 : decode cX10_letters 31 = .ok (.if_icmp .eq 16, 3) := by decide +kernel
theorem dX10_letters_34 : decode cX10_letters 34 = .ok (.aload_n 0, 1) := by decide +kernel
theorem dX10_letters_35 : decode cX10_letters 35 = .ok (.getfield 16, 3) := by decide +kernel
theorem dX10_letters_38 : decode cX10_letters 38 = .ok (.iload_n 3, 1) := by decide +kernel
theorem dX10_letters_39 : decode cX10_letters 39 = .ok (.iconst 0, 1) := by decide +kernel
theorem dX10_letters_40 : decode cX10_letters 40 = .ok (.iastore, 1) := by decide +kernel
theorem dX10_letters_41 : decode cX10_letters 41 = .ok (.iinc 3 1, 3) := by decide +kernel
theorem dX10_letters_44 : decode cX10_letters 44 = .ok (.goto (-21), 3) := by decide +kernel
theorem dX10_letters_47 : decode cX10_letters 47 = .ok (.iload_n 2, 1) := by decide +kernel
theorem dX10_letters_48 : decode cX10_letters 48 = .ok (.ireturn, 1) := by decide +kernel
theorem dX10_isWord_0 : decode cX10_isWord 0 = .ok (.aload_n 0, 1) := by decide +kernel
theorem dX10_isWord_1 : decode cX10_isWord 1 = .ok (.iconst 0, 1) := by decide +kernel
theorem dX10_isWord_2 : decode cX10_isWord 2 = .ok (.putfield 111, 3) := by decide +kernel
theorem dX10_isWord_5 : decode cX10_isWord 5 = .ok (.iload_n 1, 1) := by decide +kernel
theorem dX10_isWord_6 : decode cX10_isWord 6 = .ok (.istore_n 2, 1) := by decide +kernel
theorem dX10_isWord_7 : decode cX10_isWord 7 = .ok (.iload_n 2, 1) := by decide +kernel
theorem dX10_isWord_8 : decode cX10_isWord 8 = .ok (.ifCond .le 21, 3) := by decide +kernel
theorem dX10_isWord_11 : decode cX10_isWord 11 = .ok (.aload_n 0, 1) := by decide +kernel
theorem dX10_isWord_12 : decode cX10_isWord 12 = .ok (.dup, 1) := by decide +kernel
theorem dX10_isWord_13 : decode cX10_isWord 13 = .ok (.getfield 111, 3) := by decide +kernel
theorem dX10_isWord_16 : decode cX10_isWord 16 = .ok (.iconst 1, 1) := by decide +kernel
theorem dX10_isWord_17 : decode cX10_isWord 17 = .ok (.iadd, 1) := by decide +kernel
