theorem dX10_isWord_18 : decode cX10_isWord 18 = .ok (.putfield 111, 3) := by decide +kernel
theorem dX10_isWord_21 : decode cX10_isWord 21 = .ok (.iload_n 2, 1) := by decide +kernel
theorem dX10_isWord_22 : decode cX10_isWord 22 = .ok (.bipush 10, 2) := by decide +kernel
theorem dX10_isWord_24 : decode cX10_isWord 24 = .ok (.idiv, 1) := by decide +kernel
theorem dX10_isWord_25 : decode cX10_isWord 25 = .ok (.istore_n 2, 1) := by decide +kernel
theorem dX10_isWord_26 : decode cX10_isWord 26 = .ok (.goto (-19), 3) := by decide +kernel
theorem dX10_isWord_29 : decode cX10_isWord 29 = .ok (.aload_n 0, 1) := by decide +kernel
theorem dX10_isWord_30 : decode cX10_isWord 30 = .ok (.iconst 1, 1) := by decide +kernel
theorem dX10_isWord_31 : decode cX10_isWord 31 = .ok (.putfield 108, 3) := by decide +kernel
theorem dX10_isWord_34 : decode cX10_isWord 34 = .ok (.iload_n 1, 1) := by decide +kernel
theorem dX10_isWord_35 : decode cX10_isWord 35 = .ok (.ifCond .lt 16, 3) := by decide +kernel
theorem dX10_isWord_38 : decode cX10_isWord 38 = .ok (.aload_n 0, 1) := by decide +kernel
theorem dX10_isWord_39 : decode cX10_isWord 39 = .ok (.getfield 111, 3) := by decide +kernel
theorem dX10_isWord_42 : decode cX10_isWord 42 = .ok (.bipush 6, 2) := by decide +kernel
theorem dX10_isWord_44 : decode cX10_isWord 44 = .ok (.if_icmp .gt 7, 3) := by decide +kernel
theorem dX10_isWord_47 : decode cX10_isWord 47 = .ok (.iconst 1, 1) := by decide +kernel
theorem dX10_isWord_48 : decode cX10_isWord 48 = .ok (.goto 4, 3) := by decide +kernel
theorem dX10_isWord_51 : decode cX10_isWord 51 = .ok (.iconst 0, 1) := by decide +kernel
theorem dX10_isWord_52 : decode cX10_isWord 52 = .ok (.istore_n 2, 1) := by decide +kernel
theorem dX10_isWord_53 : decode cX10_isWord 53 = .ok (.iload_n 1, 1) := by decide +kernel
theorem dX10_isWord_54 : decode cX10_isWord 54 = .ok (.istore_n 3, 1) := by decide +kernel
theorem dX10_isWord_55 : decode cX10_isWord 55 = .ok (.aload_n 0, 1) := by decide +kernel
theorem dX10_isWord_56 : decode cX10_isWord 56 = .ok (.getfield 111, 3) := by decide +kernel
theorem dX10_isWord_59 : decode cX10_isWord 59 = .ok (.iconst 1, 1) := by decide +kernel
theorem dX10_isWord_60 : decode cX10_isWord 60 = .ok (.isub, 1) := by decide +kernel
theorem dX10_isWord_61 : decode cX10_isWord 61 = .ok (.istore 4, 2) := by decide +kernel
theorem dX10_isWord_63 : decode cX10_isWord 63 = .ok (.iload 4, 2) := by decide +kernel
theorem dX10_isWord_65 : decode cX10_isWord 65 = .ok (.ifCond .lt 45, 3) := by decide +kernel
theorem dX10_isWord_68 : decode cX10_isWord 68 = .ok (.iload_n 2, 1) := by decide +kernel
theorem dX10_isWord_69 : decode cX10_isWord 69 = .ok (.ifCond .eq 41, 3) := by decide +kernel
theorem dX10_isWord_72 : decode cX10_isWord 72 = .ok (.aload_n 0, 1) := by decide +kernel
theorem dX10_isWord_73 : decode cX10_isWord 73 = .ok (.getfield 47, 3) := by decide +kernel
theorem dX10_isWord_76 : decode cX10_isWord 76 = .ok (.iload 4, 2) := by decide +kernel
theorem dX10_isWord_78 : decode cX10_isWord 78 = .ok (.iload_n 3, 1) := by decide +kernel
theorem dX10_isWord_79 : decode cX10_isWord 79 = .ok (.bipush 10, 2) := by decide +kernel
theorem dX10_isWord_81 : decode cX10_isWord 81 = .ok (.irem, 1) := by decide +kernel
theorem dX10_isWord_82 : decode cX10_isWord 82 = .ok (.iastore, 1) := by decide +kernel
theorem dX10_isWord_83 : decode cX10_isWord 83 = .ok (.aload_n 0, 1) := by decide +kernel
theorem dX10_isWord_84 : decode cX10_isWord 84 = .ok (.getfield 47, 3) := by decide +kernel
theorem dX10_isWord_87 : decode cX10_isWord 87 = .ok (.iload 4, 2) := by decide +kernel
theorem dX10_isWord_89 : decode cX10_isWord 89 = .ok (.iaload, 1) := by decide +kernel
theorem dX10_isWord_90 : decode cX10_isWord 90 = .ok (.iconst 1, 1) := by decide +kernel
theorem dX10_isWord_91 : decode cX10_isWord 91 = .ok (.aload_n 0, 1) := by decide +kernel
theorem dX10_isWord_92 : decode cX10_isWord 92 = .ok (.getfield 7, 3) := by decide +kernel
theorem dX10_isWord_95 : decode cX10_isWord 95 = .ok (.invokestatic 104, 3) := by decide +kernel
theorem dX10_isWord_98 : decode cX10_isWord 98 = .ok (.istore_n 2, 1) := by decide +kernel
theorem dX10_isWord_99 : decode cX10_isWord 99 = .ok (.iload_n 3, 1) := by decide +kernel
theorem dX10_isWord_100 : decode cX10_isWord 100 = .ok (.bipush 10, 2) := by decide +kernel
theorem dX10_isWord_102 : decode cX10_isWord 102 = .ok (.idiv, 1) := by decide +kernel
theorem dX10_isWord_103 : decode cX10_isWord 103 = .ok (.istore_n 3, 1) := by decide +kernel
theorem dX10_isWord_104 : decode cX10_isWord 104 = .ok (.iinc 4 (-1), 3) := by decide +kernel
theorem dX10_isWord_107 : decode cX10_isWord 107 = .ok (.goto (-44), 3) := by decide +kernel
theorem dX10_isWord_110 : decode cX10_isWord 110 = .ok (.iload_n 2, 1) := by decide +kernel
theorem dX10_isWord_111 : decode cX10_isWord 111 = .ok (.ireturn, 1) := by decide +kernel
theorem dX10_word_0 : decode cX10_word 0 = .ok (.iload_n 1, 1) := by decide +kernel
theorem dX10_word_1 : decode cX10_word 1 = .ok (.invokestatic 114, 3) := by decide +kernel
theorem dX10_word_4 : decode cX10_word 4 = .ok (.ifCond .eq 11, 3) := by decide +kernel
theorem dX10_word_7 : decode cX10_word 7 = .ok (.aload_n 0, 1) := by decide +kernel
theorem dX10_word_8 : decode cX10_word 8 = .ok (.iload_n 2, 1) := by decide +kernel
theorem dX10_word_9 : decode cX10_word 9 = .ok (.invokevirtual 118, 3) := by decide +kernel
theorem dX10_word_12 : decode cX10_word 12 = .ok (.ifCond .ne 5, 3) := by decide +kernel
theorem dX10_word_15 : decode cX10_word 15 = .ok (.iconst (-1), 1) := by decide +kernel
theorem dX10_word_16 : decode cX10_word 16 = .ok (.ireturn, 1) := by decide +kernel
theorem dX10_word_17 : decode cX10_word 17 = .ok (.aload_n 0, 1) := by decide +kernel
theorem dX10_word_18 : decode cX10_word 18 = .ok (.iload_n 1, 1) := by decide +kernel
theorem dX10_word_19 : decode cX10_word 19 = .ok (.invokevirtual 121, 3) := by decide +kernel
theorem dX10_word_22 : decode cX10_word 22 = .ok (.aload_n 0, 1) := by decide +kernel
theorem dX10_word_23 : decode cX10_word 23 = .ok (.getfield 111, 3) := by decide +kernel
theorem dX10_word_26 : decode cX10_word 26 = .ok (.ireturn, 1) := by decide +kernel
theorem dX10_feed_0 : decode cX10_feed 0 = .ok (.iload_n 3, 1) := by decide +kernel
theorem dX10_feed_1 : decode cX10_feed 1 = .ok (.iconst 1, 1) := by decide +kernel
theorem dX10_feed_2 : decode cX10_feed 2 = .ok (.bipush 8, 2) := by decide +kernel
theorem dX10_feed_4 : decode cX10_feed 4 = .ok (.invokestatic 104, 3) := by decide +kernel
theorem dX10_feed_7 : decode cX10_feed 7 = .ok (.ifCond .ne 5, 3) := by decide +kernel
theorem dX10_feed_10 : decode cX10_feed 10 = .ok (.iconst (-1), 1) := by decide +kernel
theorem dX10_feed_11 : decode cX10_feed 11 = .ok (.ireturn, 1) := by decide +kernel
theorem dX10_feed_12 : decode cX10_feed 12 = .ok (.aload_n 0, 1) := by decide +kernel
theorem dX10_feed_13 : decode cX10_feed 13 = .ok (.getfield 125, 3) := by decide +kernel
theorem dX10_feed_16 : decode cX10_feed 16 = .ok (.iload_n 3, 1) := by decide +kernel
theorem dX10_feed_17 : decode cX10_feed 17 = .ok (.iadd, 1) := by decide +kernel
theorem dX10_feed_18 : decode cX10_feed 18 = .ok (.bipush 60, 2) := by decide +kernel
theorem dX10_feed_20 : decode cX10_feed 20 = .ok (.if_icmp .le 6, 3) := by decide +kernel
theorem dX10_feed_23 : decode cX10_feed 23 = .ok (.bipush (-2), 2) := by decide +kernel
theorem dX10_feed_25 : decode cX10_feed 25 = .ok (.ireturn, 1) := by decide +kernel
theorem dX10_feed_26 : decode cX10_feed 26 = .ok (.iconst 0, 1) := by decide +kernel
theorem dX10_feed_27 : decode cX10_feed 27 = .ok (.istore 4, 2) := by decide +kernel
theorem dX10_feed_29 : decode cX10_feed 29 = .ok (.iload 4, 2) := by decide +kernel
theorem dX10_feed_31 : decode cX10_feed 31 = .ok (.iload_n 3, 1) := by decide +kernel
theorem dX10_feed_32 : decode cX10_feed 32 = .ok (.if_icmp .ge 40, 3) := by decide +kernel
theorem dX10_feed_35 : decode cX10_feed 35 = .ok (.aload_n 0, 1) := by decide +kernel
theorem dX10_feed_36 : decode cX10_feed 36 = .ok (.getfield 56, 3) := by decide +kernel
theorem dX10_feed_39 : decode cX10_feed 39 = .ok (.aload_n 0, 1) := by decide +kernel
theorem dX10_feed_40 : decode cX10_feed 40 = .ok (.getfield 125, 3) := by decide +kernel
theorem dX10_feed_43 : decode cX10_feed 43 = .ok (.lload_n 1, 1) := by decide +kernel
theorem dX10_feed_44 : decode cX10_feed 44 = .ok (.bipush 8, 2) := by decide +kernel
theorem dX10_feed_46 : decode cX10_feed 46 = .ok (.iload 4, 2) := by decide +kernel
theorem dX10_feed_48 : decode cX10_feed 48 = .ok (.imul, 1) := by decide +kernel
theorem dX10_feed_49 : decode cX10_feed 49 = .ok (.lshr, 1) := by decide +kernel
theorem dX10_feed_50 : decode cX10_feed 50 = .ok (.ldc2_w 128, 3) := by decide +kernel
theorem dX10_feed_53 : decode cX10_feed 53 = .ok (.land, 1) := by decide +kernel
theorem dX10_feed_54 : decode cX10_feed 54 = .ok (.l2i, 1) := by decide +kernel
theorem dX10_feed_55 : decode cX10_feed 55 = .ok (.iastore, 1) := by decide +kernel
theorem dX10_feed_56 : decode cX10_feed 56 = .ok (.aload_n 0, 1) := by decide +kernel
theorem dX10_feed_57 : decode cX10_feed 57 = .ok (.dup, 1) := by decide +kernel
theorem dX10_feed_58 : decode cX10_feed 58 = .ok (.getfield 125, 3) := by decide +kernel
theorem dX10_feed_61 : decode cX10_feed 61 = .ok (.iconst 1, 1) := by decide +kernel
theorem dX10_feed_62 : decode cX10_feed 62 = .ok (.iadd, 1) := by decide +kernel
theorem dX10_feed_63 : decode cX10_feed 63 = .ok (.putfield 125, 3) := by decide +kernel
theorem dX10_feed_66 : decode cX10_feed 66 = .ok (.iinc 4 1, 3) := by decide +kernel
theorem dX10_feed_69 : decode cX10_feed 69 = .ok (.goto (-40), 3) := by decide +kernel
theorem dX10_feed_72 : decode cX10_feed 72 = .ok (.aload_n 0, 1) := by decide +kernel
theorem dX10_feed_73 : decode cX10_feed 73 = .ok (.getfield 125, 3) := by decide +kernel
theorem dX10_feed_76 : decode cX10_feed 76 = .ok (.ireturn, 1) := by decide +kernel
theorem dX10_here_0 : decode cX10_here 0 = .ok (.aload_n 0, 1) := by decide +kernel
theorem dX10_here_1 : decode cX10_here 1 = .ok (.getfield 130, 3) := by decide +kernel
theorem dX10_here_4 : decode cX10_here 4 = .ok (.aload_n 0, 1) := by decide +kernel
theorem dX10_here_5 : decode cX10_here 5 = .ok (.getfield 125, 3) := by decide +kernel
theorem dX10_here_8 : decode cX10_here 8 = .ok (.if_icmp .ge 30, 3) := by decide +kernel
theorem dX10_here_11 : decode cX10_here 11 = .ok (.aload_n 0, 1) := by decide +kernel
theorem dX10_here_12 : decode cX10_here 12 = .ok (.getfield 56, 3) := by decide +kernel
theorem dX10_here_15 : decode cX10_here 15 = .ok (.aload_n 0, 1) := by decide +kernel
theorem dX10_here_16 : decode cX10_here 16 = .ok (.getfield 130, 3) := by decide +kernel
theorem dX10_here_19 : decode cX10_here 19 = .ok (.iaload, 1) := by decide +kernel
theorem dX10_here_20 : decode cX10_here 20 = .ok (.bipush 32, 2) := by decide +kernel
theorem dX10_here_22 : decode cX10_here 22 = .ok (.if_icmp .ne 16, 3) := by decide +kernel
theorem dX10_here_25 : decode cX10_here 25 = .ok (.aload_n 0, 1) := by decide +kernel
theorem dX10_here_26 : decode cX10_here 26 = .ok (.dup, 1) := by decide +kernel
theorem dX10_here_27 : decode cX10_here 27 = .ok (.getfield 130, 3) := by decide +kernel
theorem dX10_here_30 : decode cX10_here 30 = .ok (.iconst 1, 1) := by decide +kernel
theorem dX10_here_31 : decode cX10_here 31 = .ok (.iadd, 1) := by decide +kernel
theorem dX10_here_32 : decode cX10_here 32 = .ok (.putfield 130, 3) := by decide +kernel
theorem dX10_here_35 : decode cX10_here 35 = .ok (.goto (-35), 3) := by decide +kernel
theorem dX10_here_38 : decode cX10_here 38 = .ok (.aload_n 0, 1) := by decide +kernel
theorem dX10_here_39 : decode cX10_here 39 = .ok (.getfield 130, 3) := by decide +kernel
theorem dX10_here_42 : decode cX10_here 42 = .ok (.aload_n 0, 1) := by decide +kernel
theorem dX10_here_43 : decode cX10_here 43 = .ok (.getfield 125, 3) := by decide +kernel
theorem dX10_here_46 : decode cX10_here 46 = .ok (.if_icmp .ge 15, 3) := by decide +kernel
theorem dX10_here_49 : decode cX10_here 49 = .ok (.aload_n 0, 1) := by decide +kernel
theorem dX10_here_50 : decode cX10_here 50 = .ok (.getfield 56, 3) := by decide +kernel
theorem dX10_here_53 : decode cX10_here 53 = .ok (.aload_n 0, 1) := by decide +kernel
theorem dX10_here_54 : decode cX10_here 54 = .ok (.getfield 130, 3) := by decide +kernel
theorem dX10_here_57 : decode cX10_here 57 = .ok (.iaload, 1) := by decide +kernel
theorem dX10_here_58 : decode cX10_here 58 = .ok (.goto 4, 3) := by decide +kernel
theorem dX10_here_61 : decode cX10_here 61 = .ok (.iconst (-1), 1) := by decide +kernel
theorem dX10_here_62 : decode cX10_here 62 = .ok (.ireturn, 1) := by decide +kernel
theorem dX10_fault_0 : decode cX10_fault 0 = .ok (.aload_n 0, 1) := by decide +kernel
theorem dX10_fault_1 : decode cX10_fault 1 = .ok (.invokevirtual 133, 3) := by decide +kernel
theorem dX10_fault_4 : decode cX10_fault 4 = .ok (.ifCond .ge 13, 3) := by decide +kernel
theorem dX10_fault_7 : decode cX10_fault 7 = .ok (.bipush (-100), 2) := by decide +kernel
theorem dX10_fault_9 : decode cX10_fault 9 = .ok (.aload_n 0, 1) := by decide +kernel
theorem dX10_fault_10 : decode cX10_fault 10 = .ok (.getfield 125, 3) := by decide +kernel
theorem dX10_fault_13 : decode cX10_fault 13 = .ok (.isub, 1) := by decide +kernel
theorem dX10_fault_14 : decode cX10_fault 14 = .ok (.goto 10, 3) := by decide +kernel
theorem dX10_fault_17 : decode cX10_fault 17 = .ok (.bipush (-100), 2) := by decide +kernel
theorem dX10_fault_19 : decode cX10_fault 19 = .ok (.aload_n 0, 1) := by decide +kernel
theorem dX10_fault_20 : decode cX10_fault 20 = .ok (.getfield 130, 3) := by decide +kernel
theorem dX10_fault_23 : decode cX10_fault 23 = .ok (.isub, 1) := by decide +kernel
theorem dX10_fault_24 : decode cX10_fault 24 = .ok (.istore_n 1, 1) := by decide +kernel
theorem dX10_fault_25 : decode cX10_fault 25 = .ok (.aload_n 0, 1) := by decide +kernel
theorem dX10_fault_26 : decode cX10_fault 26 = .ok (.iconst 0, 1) := by decide +kernel
theorem dX10_fault_27 : decode cX10_fault 27 = .ok (.putfield 125, 3) := by decide +kernel
theorem dX10_fault_30 : decode cX10_fault 30 = .ok (.iload_n 1, 1) := by decide +kernel
theorem dX10_fault_31 : decode cX10_fault 31 = .ok (.ireturn, 1) := by decide +kernel
theorem dX10_mayStand_0 : decode cX10_mayStand 0 = .ok (.iload_n 1, 1) := by decide +kernel
theorem dX10_mayStand_1 : decode cX10_mayStand 1 = .ok (.iconst 1, 1) := by decide +kernel
theorem dX10_mayStand_2 : decode cX10_mayStand 2 = .ok (.aload_n 0, 1) := by decide +kernel
theorem dX10_mayStand_3 : decode cX10_mayStand 3 = .ok (.getfield 7, 3) := by decide +kernel
theorem dX10_mayStand_6 : decode cX10_mayStand 6 = .ok (.invokestatic 104, 3) := by decide +kernel
theorem dX10_mayStand_9 : decode cX10_mayStand 9 = .ok (.ifCond .eq 19, 3) := by decide +kernel
theorem dX10_mayStand_12 : decode cX10_mayStand 12 = .ok (.iload_n 2, 1) := by decide +kernel
theorem dX10_mayStand_13 : decode cX10_mayStand 13 = .ok (.bipush 6, 2) := by decide +kernel
theorem dX10_mayStand_15 : decode cX10_mayStand 15 = .ok (.if_icmp .ge 13, 3) := by decide +kernel
theorem dX10_mayStand_18 : decode cX10_mayStand 18 = .ok (.iload_n 3, 1) := by decide +kernel
theorem dX10_mayStand_19 : decode cX10_mayStand 19 = .ok (.bipush 6, 2) := by decide +kernel
theorem dX10_mayStand_21 : decode cX10_mayStand 21 = .ok (.if_icmp .ge 7, 3) := by decide +kernel
theorem dX10_mayStand_24 : decode cX10_mayStand 24 = .ok (.iconst 1, 1) := by decide +kernel
theorem dX10_mayStand_25 : decode cX10_mayStand 25 = .ok (.goto 4, 3) := by decide +kernel
theorem dX10_mayStand_28 : decode cX10_mayStand 28 = .ok (.iconst 0, 1) := by decide +kernel
theorem dX10_mayStand_29 : decode cX10_mayStand 29 = .ok (.istore 4, 2) := by decide +kernel
theorem dX10_mayStand_31 : decode cX10_mayStand 31 = .ok (.iload 4, 2) := by decide +kernel
theorem dX10_mayStand_33 : decode cX10_mayStand 33 = .ok (.ifCond .eq 28, 3) := by decide +kernel
theorem dX10_mayStand_36 : decode cX10_mayStand 36 = .ok (.iload_n 3, 1) := by decide +kernel
theorem dX10_mayStand_37 : decode cX10_mayStand 37 = .ok (.ifCond .eq 20, 3) := by decide +kernel
theorem dX10_mayStand_40 : decode cX10_mayStand 40 = .ok (.aload_n 0, 1) := by decide +kernel
theorem dX10_mayStand_41 : decode cX10_mayStand 41 = .ok (.getfield 59, 3) := by decide +kernel
theorem dX10_mayStand_44 : decode cX10_mayStand 44 = .ok (.bipush 6, 2) := by decide +kernel
theorem dX10_mayStand_46 : decode cX10_mayStand 46 = .ok (.iload_n 2, 1) := by decide +kernel
theorem dX10_mayStand_47 : decode cX10_mayStand 47 = .ok (.imul, 1) := by decide +kernel
theorem dX10_mayStand_48 : decode cX10_mayStand 48 = .ok (.iload_n 3, 1) := by decide +kernel
theorem dX10_mayStand_49 : decode cX10_mayStand 49 = .ok (.iadd, 1) := by decide +kernel
theorem dX10_mayStand_50 : decode cX10_mayStand 50 = .ok (.iconst 1, 1) := by decide +kernel
theorem dX10_mayStand_51 : decode cX10_mayStand 51 = .ok (.isub, 1) := by decide +kernel
theorem dX10_mayStand_52 : decode cX10_mayStand 52 = .ok (.iaload, 1) := by decide +kernel
theorem dX10_mayStand_53 : decode cX10_mayStand 53 = .ok (.iload_n 1, 1) := by decide +kernel
theorem dX10_mayStand_54 : decode cX10_mayStand 54 = .ok (.if_icmp .gt 7, 3) := by decide +kernel
theorem dX10_mayStand_57 : decode cX10_mayStand 57 = .ok (.iconst 1, 1) := by decide +kernel
theorem dX10_mayStand_58 : decode cX10_mayStand 58 = .ok (.goto 4, 3) := by decide +kernel
theorem dX10_mayStand_61 : decode cX10_mayStand 61 = .ok (.iconst 0, 1) := by decide +kernel
theorem dX10_mayStand_62 : decode cX10_mayStand 62 = .ok (.istore 4, 2) := by decide +kernel
theorem dX10_mayStand_64 : decode cX10_mayStand 64 = .ok (.iload 4, 2) := by decide +kernel
theorem dX10_mayStand_66 : decode cX10_mayStand 66 = .ok (.ifCond .eq 40, 3) := by decide +kernel
theorem dX10_mayStand_69 : decode cX10_mayStand 69 = .ok (.iload_n 2, 1) := by decide +kernel
theorem dX10_mayStand_70 : decode cX10_mayStand 70 = .ok (.ifCond .eq 32, 3) := by decide +kernel
theorem dX10_mayStand_73 : decode cX10_mayStand 73 = .ok (.iload_n 3, 1) := by decide +kernel
theorem dX10_mayStand_74 : decode cX10_mayStand 74 = .ok (.aload_n 0, 1) := by decide +kernel
theorem dX10_mayStand_75 : decode cX10_mayStand 75 = .ok (.getfield 50, 3) := by decide +kernel
theorem dX10_mayStand_78 : decode cX10_mayStand 78 = .ok (.iload_n 2, 1) := by decide +kernel
theorem dX10_mayStand_79 : decode cX10_mayStand 79 = .ok (.iconst 1, 1) := by decide +kernel
theorem dX10_mayStand_80 : decode cX10_mayStand 80 = .ok (.isub, 1) := by decide +kernel
theorem dX10_mayStand_81 : decode cX10_mayStand 81 = .ok (.iaload, 1) := by decide +kernel
theorem dX10_mayStand_82 : decode cX10_mayStand 82 = .ok (.if_icmp .ge 24, 3) := by decide +kernel
theorem dX10_mayStand_85 : decode cX10_mayStand 85 = .ok (.aload_n 0, 1) := by decide +kernel
theorem dX10_mayStand_86 : decode cX10_mayStand 86 = .ok (.getfield 59, 3) := by decide +kernel
theorem dX10_mayStand_89 : decode cX10_mayStand 89 = .ok (.bipush 6, 2) := by decide +kernel
theorem dX10_mayStand_91 : decode cX10_mayStand 91 = .ok (.iload_n 2, 1) := by decide +kernel
theorem dX10_mayStand_92 : decode cX10_mayStand 92 = .ok (.iconst 1, 1) := by decide +kernel
theorem dX10_mayStand_93 : decode cX10_mayStand 93 = .ok (.isub, 1) := by decide +kernel
theorem dX10_mayStand_94 : decode cX10_mayStand 94 = .ok (.imul, 1) := by decide +kernel
theorem dX10_mayStand_95 : decode cX10_mayStand 95 = .ok (.iload_n 3, 1) := by decide +kernel
theorem dX10_mayStand_96 : decode cX10_mayStand 96 = .ok (.iadd, 1) := by decide +kernel
theorem dX10_mayStand_97 : decode cX10_mayStand 97 = .ok (.iaload, 1) := by decide +kernel
theorem dX10_mayStand_98 : decode cX10_mayStand 98 = .ok (.iload_n 1, 1) := by decide +kernel
theorem dX10_mayStand_99 : decode cX10_mayStand 99 = .ok (.if_icmp .ge 7, 3) := by decide +kernel
theorem dX10_mayStand_102 : decode cX10_mayStand 102 = .ok (.iconst 1, 1) := by decide +kernel
theorem dX10_mayStand_103 : decode cX10_mayStand 103 = .ok (.goto 4, 3) := by decide +kernel
theorem dX10_mayStand_106 : decode cX10_mayStand 106 = .ok (.iconst 0, 1) := by decide +kernel
theorem dX10_mayStand_107 : decode cX10_mayStand 107 = .ok (.ireturn, 1) := by decide +kernel
theorem dX10_readsCells_0 : decode cX10_readsCells 0 = .ok (.aload_n 0, 1) := by decide +kernel
theorem dX10_readsCells_1 : decode cX10_readsCells 1 = .ok (.iconst 0, 1) := by decide +kernel
theorem dX10_readsCells_2 : decode cX10_readsCells 2 = .ok (.putfield 111, 3) := by decide +kernel
theorem dX10_readsCells_5 : decode cX10_readsCells 5 = .ok (.iconst 5, 1) := by decide +kernel
theorem dX10_readsCells_6 : decode cX10_readsCells 6 = .ok (.istore_n 1, 1) := by decide +kernel
theorem dX10_readsCells_7 : decode cX10_readsCells 7 = .ok (.iload_n 1, 1) := by decide +kernel
theorem dX10_readsCells_8 : decode cX10_readsCells 8 = .ok (.ifCond .lt 57, 3) := by decide +kernel
theorem dX10_readsCells_11 : decode cX10_readsCells 11 = .ok (.iconst 0, 1) := by decide +kernel
theorem dX10_readsCells_12 : decode cX10_readsCells 12 = .ok (.istore_n 2, 1) := by decide +kernel
theorem dX10_readsCells_13 : decode cX10_readsCells 13 = .ok (.iload_n 2, 1) := by decide +kernel
theorem dX10_readsCells_14 : decode cX10_readsCells 14 = .ok (.aload_n 0, 1) := by decide +kernel
theorem dX10_readsCells_15 : decode cX10_readsCells 15 = .ok (.getfield 50, 3) := by decide +kernel
theorem dX10_readsCells_18 : decode cX10_readsCells 18 = .ok (.iload_n 1, 1) := by decide +kernel
theorem dX10_readsCells_19 : decode cX10_readsCells 19 = .ok (.iaload, 1) := by decide +kernel
theorem dX10_readsCells_20 : decode cX10_readsCells 20 = .ok (.if_icmp .ge 39, 3) := by decide +kernel
theorem dX10_readsCells_23 : decode cX10_readsCells 23 = .ok (.aload_n 0, 1) := by decide +kernel
theorem dX10_readsCells_24 : decode cX10_readsCells 24 = .ok (.getfield 47, 3) := by decide +kernel
theorem dX10_readsCells_27 : decode cX10_readsCells 27 = .ok (.aload_n 0, 1) := by decide +kernel
theorem dX10_readsCells_28 : decode cX10_readsCells 28 = .ok (.getfield 111, 3) := by decide +kernel
theorem dX10_readsCells_31 : decode cX10_readsCells 31 = .ok (.aload_n 0, 1) := by decide +kernel
theorem dX10_readsCells_32 : decode cX10_readsCells 32 = .ok (.getfield 59, 3) := by decide +kernel
theorem dX10_readsCells_35 : decode cX10_readsCells 35 = .ok (.bipush 6, 2) := by decide +kernel
theorem dX10_readsCells_37 : decode cX10_readsCells 37 = .ok (.iload_n 1, 1) := by decide +kernel
theorem dX10_readsCells_38 : decode cX10_readsCells 38 = .ok (.imul, 1) := by decide +kernel
theorem dX10_readsCells_39 : decode cX10_readsCells 39 = .ok (.iload_n 2, 1) := by decide +kernel
theorem dX10_readsCells_40 : decode cX10_readsCells 40 = .ok (.iadd, 1) := by decide +kernel
theorem dX10_readsCells_41 : decode cX10_readsCells 41 = .ok (.iaload, 1) := by decide +kernel
theorem dX10_readsCells_42 : decode cX10_readsCells 42 = .ok (.iastore, 1) := by decide +kernel
theorem dX10_readsCells_43 : decode cX10_readsCells 43 = .ok (.aload_n 0, 1) := by decide +kernel
theorem dX10_readsCells_44 : decode cX10_readsCells 44 = .ok (.dup, 1) := by decide +kernel
theorem dX10_readsCells_45 : decode cX10_readsCells 45 = .ok (.getfield 111, 3) := by decide +kernel
theorem dX10_readsCells_48 : decode cX10_readsCells 48 = .ok (.iconst 1, 1) := by decide +kernel
theorem dX10_readsCells_49 : decode cX10_readsCells 49 = .ok (.iadd, 1) := by decide +kernel
theorem dX10_readsCells_50 : decode cX10_readsCells 50 = .ok (.putfield 111, 3) := by decide +kernel
theorem dX10_readsCells_53 : decode cX10_readsCells 53 = .ok (.iinc 2 1, 3) := by decide +kernel
theorem dX10_readsCells_56 : decode cX10_readsCells 56 = .ok (.goto (-43), 3) := by decide +kernel
theorem dX10_readsCells_59 : decode cX10_readsCells 59 = .ok (.iinc 1 (-1), 3) := by decide +kernel
theorem dX10_readsCells_62 : decode cX10_readsCells 62 = .ok (.goto (-55), 3) := by decide +kernel
theorem dX10_readsCells_65 : decode cX10_readsCells 65 = .ok (.aload_n 0, 1) := by decide +kernel
theorem dX10_readsCells_66 : decode cX10_readsCells 66 = .ok (.iconst 2, 1) := by decide +kernel
theorem dX10_readsCells_67 : decode cX10_readsCells 67 = .ok (.putfield 108, 3) := by decide +kernel
theorem dX10_readsCells_70 : decode cX10_readsCells 70 = .ok (.return_, 1) := by decide +kernel
theorem dX10_tableau_0 : decode cX10_tableau 0 = .ok (.iload_n 1, 1) := by decide +kernel
theorem dX10_tableau_1 : decode cX10_tableau 1 = .ok (.invokestatic 114, 3) := by decide +kernel
theorem dX10_tableau_4 : decode cX10_tableau 4 = .ok (.ifCond .ne 5, 3) := by decide +kernel
theorem dX10_tableau_7 : decode cX10_tableau 7 = .ok (.iconst (-1), 1) := by decide +kernel
theorem dX10_tableau_8 : decode cX10_tableau 8 = .ok (.ireturn, 1) := by decide +kernel
theorem dX10_tableau_9 : decode cX10_tableau 9 = .ok (.iconst 0, 1) := by decide +kernel
theorem dX10_tableau_10 : decode cX10_tableau 10 = .ok (.istore_n 2, 1) := by decide +kernel
theorem dX10_tableau_11 : decode cX10_tableau 11 = .ok (.iload_n 2, 1) := by decide +kernel
theorem dX10_tableau_12 : decode cX10_tableau 12 = .ok (.bipush 6, 2) := by decide +kernel
theorem dX10_tableau_14 : decode cX10_tableau 14 = .ok (.if_icmp .ge 16, 3) := by decide +kernel
theorem dX10_tableau_17 : decode cX10_tableau 17 = .ok (.aload_n 0, 1) := by decide +kernel
theorem dX10_tableau_18 : decode cX10_tableau 18 = .ok (.getfield 50, 3) := by decide +kernel
theorem dX10_tableau_21 : decode cX10_tableau 21 = .ok (.iload_n 2, 1) := by decide +kernel
theorem dX10_tableau_22 : decode cX10_tableau 22 = .ok (.iconst 0, 1) := by decide +kernel
theorem dX10_tableau_23 : decode cX10_tableau 23 = .ok (.iastore, 1) := by decide +kernel
theorem dX10_tableau_24 : decode cX10_tableau 24 = .ok (.iinc 2 1, 3) := by decide +kernel
theorem dX10_tableau_27 : decode cX10_tableau 27 = .ok (.goto (-16), 3) := by decide +kernel
theorem dX10_tableau_30 : decode cX10_tableau 30 = .ok (.aload_n 0, 1) := by decide +kernel
theorem dX10_tableau_31 : decode cX10_tableau 31 = .ok (.iconst 0, 1) := by decide +kernel
theorem dX10_tableau_32 : decode cX10_tableau 32 = .ok (.putfield 130, 3) := by decide +kernel
theorem dX10_tableau_35 : decode cX10_tableau 35 = .ok (.iconst 0, 1) := by decide +kernel
theorem dX10_tableau_36 : decode cX10_tableau 36 = .ok (.istore_n 2, 1) := by decide +kernel
theorem dX10_tableau_37 : decode cX10_tableau 37 = .ok (.iconst 0, 1) := by decide +kernel
theorem dX10_tableau_38 : decode cX10_tableau 38 = .ok (.istore_n 3, 1) := by decide +kernel
theorem dX10_tableau_39 : decode cX10_tableau 39 = .ok (.aload_n 0, 1) := by decide +kernel
theorem dX10_tableau_40 : decode cX10_tableau 40 = .ok (.invokevirtual 133, 3) := by decide +kernel
theorem dX10_tableau_43 : decode cX10_tableau 43 = .ok (.ifCond .lt 7, 3) := by decide +kernel
theorem dX10_tableau_46 : decode cX10_tableau 46 = .ok (.iconst 1, 1) := by decide +kernel
theorem dX10_tableau_47 : decode cX10_tableau 47 = .ok (.goto 4, 3) := by decide +kernel
theorem dX10_tableau_50 : decode cX10_tableau 50 = .ok (.iconst 0, 1) := by decide +kernel
theorem dX10_tableau_51 : decode cX10_tableau 51 = .ok (.istore 4, 2) := by decide +kernel
theorem dX10_tableau_53 : decode cX10_tableau 53 = .ok (.iload 4, 2) := by decide +kernel
theorem dX10_tableau_55 : decode cX10_tableau 55 = .ok (.ifCond .eq 148, 3) := by decide +kernel
theorem dX10_tableau_58 : decode cX10_tableau 58 = .ok (.aload_n 0, 1) := by decide +kernel
theorem dX10_tableau_59 : decode cX10_tableau 59 = .ok (.invokevirtual 133, 3) := by decide +kernel
theorem dX10_tableau_62 : decode cX10_tableau 62 = .ok (.bipush 48, 2) := by decide +kernel
theorem dX10_tableau_64 : decode cX10_tableau 64 = .ok (.isub, 1) := by decide +kernel
theorem dX10_tableau_65 : decode cX10_tableau 65 = .ok (.istore 5, 2) := by decide +kernel
theorem dX10_tableau_67 : decode cX10_tableau 67 = .ok (.aload_n 0, 1) := by decide +kernel
theorem dX10_tableau_68 : decode cX10_tableau 68 = .ok (.invokevirtual 133, 3) := by decide +kernel
theorem dX10_tableau_71 : decode cX10_tableau 71 = .ok (.bipush 47, 2) := by decide +kernel
theorem dX10_tableau_73 : decode cX10_tableau 73 = .ok (.if_icmp .ne 33, 3) := by decide +kernel
theorem dX10_tableau_76 : decode cX10_tableau 76 = .ok (.iload_n 2, 1) := by decide +kernel
theorem dX10_tableau_77 : decode cX10_tableau 77 = .ok (.iconst 5, 1) := by decide +kernel
theorem dX10_tableau_78 : decode cX10_tableau 78 = .ok (.if_icmp .ge 28, 3) := by decide +kernel
theorem dX10_tableau_81 : decode cX10_tableau 81 = .ok (.aload_n 0, 1) := by decide +kernel
theorem dX10_tableau_82 : decode cX10_tableau 82 = .ok (.getfield 50, 3) := by decide +kernel
theorem dX10_tableau_85 : decode cX10_tableau 85 = .ok (.iload_n 2, 1) := by decide +kernel
theorem dX10_tableau_86 : decode cX10_tableau 86 = .ok (.iaload, 1) := by decide +kernel
theorem dX10_tableau_87 : decode cX10_tableau 87 = .ok (.ifCond .le 19, 3) := by decide +kernel
theorem dX10_tableau_90 : decode cX10_tableau 90 = .ok (.iinc 2 1, 3) := by decide +kernel
theorem dX10_tableau_93 : decode cX10_tableau 93 = .ok (.aload_n 0, 1) := by decide +kernel
theorem dX10_tableau_94 : decode cX10_tableau 94 = .ok (.dup, 1) := by decide +kernel
theorem dX10_tableau_95 : decode cX10_tableau 95 = .ok (.getfield 130, 3) := by decide +kernel
theorem dX10_tableau_98 : decode cX10_tableau 98 = .ok (.iconst 1, 1) := by decide +kernel
theorem dX10_tableau_99 : decode cX10_tableau 99 = .ok (.iadd, 1) := by decide +kernel
theorem dX10_tableau_100 : decode cX10_tableau 100 = .ok (.putfield 130, 3) := by decide +kernel
theorem dX10_tableau_103 : decode cX10_tableau 103 = .ok (.goto 74, 3) := by decide +kernel
theorem dX10_tableau_106 : decode cX10_tableau 106 = .ok (.iload_n 3, 1) := by decide +kernel
theorem dX10_tableau_107 : decode cX10_tableau 107 = .ok (.bipush 6, 2) := by decide +kernel
theorem dX10_tableau_109 : decode cX10_tableau 109 = .ok (.if_icmp .ge 63, 3) := by decide +kernel
theorem dX10_tableau_112 : decode cX10_tableau 112 = .ok (.aload_n 0, 1) := by decide +kernel
theorem dX10_tableau_113 : decode cX10_tableau 113 = .ok (.iload 5, 2) := by decide +kernel
theorem dX10_tableau_115 : decode cX10_tableau 115 = .ok (.iload_n 2, 1) := by decide +kernel
theorem dX10_tableau_116 : decode cX10_tableau 116 = .ok (.aload_n 0, 1) := by decide +kernel
theorem dX10_tableau_117 : decode cX10_tableau 117 = .ok (.getfield 50, 3) := by decide +kernel
theorem dX10_tableau_120 : decode cX10_tableau 120 = .ok (.iload_n 2, 1) := by decide +kernel
theorem dX10_tableau_121 : decode cX10_tableau 121 = .ok (.iaload, 1) := by decide +kernel
theorem dX10_tableau_122 : decode cX10_tableau 122 = .ok (.invokevirtual 137, 3) := by decide +kernel
theorem dX10_tableau_125 : decode cX10_tableau 125 = .ok (.ifCond .eq 47, 3) := by decide +kernel
theorem dX10_tableau_128 : decode cX10_tableau 128 = .ok (.aload_n 0, 1) := by decide +kernel
theorem dX10_tableau_129 : decode cX10_tableau 129 = .ok (.getfield 59, 3) := by decide +kernel
theorem dX10_tableau_132 : decode cX10_tableau 132 = .ok (.bipush 6, 2) := by decide +kernel
theorem dX10_tableau_134 : decode cX10_tableau 134 = .ok (.iload_n 2, 1) := by decide +kernel
theorem dX10_tableau_135 : decode cX10_tableau 135 = .ok (.imul, 1) := by decide +kernel
theorem dX10_tableau_136 : decode cX10_tableau 136 = .ok (.aload_n 0, 1) := by decide +kernel
theorem dX10_tableau_137 : decode cX10_tableau 137 = .ok (.getfield 50, 3) := by decide +kernel
theorem dX10_tableau_140 : decode cX10_tableau 140 = .ok (.iload_n 2, 1) := by decide +kernel
theorem dX10_tableau_141 : decode cX10_tableau 141 = .ok (.iaload, 1) := by decide +kernel
theorem dX10_tableau_142 : decode cX10_tableau 142 = .ok (.iadd, 1) := by decide +kernel
theorem dX10_tableau_143 : decode cX10_tableau 143 = .ok (.iload 5, 2) := by decide +kernel
theorem dX10_tableau_145 : decode cX10_tableau 145 = .ok (.iastore, 1) := by decide +kernel
theorem dX10_tableau_146 : decode cX10_tableau 146 = .ok (.aload_n 0, 1) := by decide +kernel
theorem dX10_tableau_147 : decode cX10_tableau 147 = .ok (.getfield 50, 3) := by decide +kernel
theorem dX10_tableau_150 : decode cX10_tableau 150 = .ok (.iload_n 2, 1) := by decide +kernel
theorem dX10_tableau_151 : decode cX10_tableau 151 = .ok (.dup2, 1) := by decide +kernel
theorem dX10_tableau_152 : decode cX10_tableau 152 = .ok (.iaload, 1) := by decide +kernel
theorem dX10_tableau_153 : decode cX10_tableau 153 = .ok (.iconst 1, 1) := by decide +kernel
theorem dX10_tableau_154 : decode cX10_tableau 154 = .ok (.iadd, 1) := by decide +kernel
theorem dX10_tableau_155 : decode cX10_tableau 155 = .ok (.iastore, 1) := by decide +kernel
theorem dX10_tableau_156 : decode cX10_tableau 156 = .ok (.iinc 3 1, 3) := by decide +kernel
theorem dX10_tableau_159 : decode cX10_tableau 159 = .ok (.aload_n 0, 1) := by decide +kernel
theorem dX10_tableau_160 : decode cX10_tableau 160 = .ok (.dup, 1) := by decide +kernel
theorem dX10_tableau_161 : decode cX10_tableau 161 = .ok (.getfield 130, 3) := by decide +kernel
theorem dX10_tableau_164 : decode cX10_tableau 164 = .ok (.iconst 1, 1) := by decide +kernel
theorem dX10_tableau_165 : decode cX10_tableau 165 = .ok (.iadd, 1) := by decide +kernel
theorem dX10_tableau_166 : decode cX10_tableau 166 = .ok (.putfield 130, 3) := by decide +kernel
theorem dX10_tableau_169 : decode cX10_tableau 169 = .ok (.goto 8, 3) := by decide +kernel
theorem dX10_tableau_172 : decode cX10_tableau 172 = .ok (.aload_n 0, 1) := by decide +kernel
theorem dX10_tableau_173 : decode cX10_tableau 173 = .ok (.invokevirtual 140, 3) := by decide +kernel
theorem dX10_tableau_176 : decode cX10_tableau 176 = .ok (.ireturn, 1) := by decide +kernel
theorem dX10_tableau_177 : decode cX10_tableau 177 = .ok (.aload_n 0, 1) := by decide +kernel
theorem dX10_tableau_178 : decode cX10_tableau 178 = .ok (.invokevirtual 133, 3) := by decide +kernel
theorem dX10_tableau_181 : decode cX10_tableau 181 = .ok (.ifCond .ge 12, 3) := by decide +kernel
theorem dX10_tableau_184 : decode cX10_tableau 184 = .ok (.aload_n 0, 1) := by decide +kernel
theorem dX10_tableau_185 : decode cX10_tableau 185 = .ok (.getfield 50, 3) := by decide +kernel
theorem dX10_tableau_188 : decode cX10_tableau 188 = .ok (.iload_n 2, 1) := by decide +kernel
theorem dX10_tableau_189 : decode cX10_tableau 189 = .ok (.iaload, 1) := by decide +kernel
theorem dX10_tableau_190 : decode cX10_tableau 190 = .ok (.ifCond .ne 7, 3) := by decide +kernel
theorem dX10_tableau_193 : decode cX10_tableau 193 = .ok (.iconst 1, 1) := by decide +kernel
theorem dX10_tableau_194 : decode cX10_tableau 194 = .ok (.goto 4, 3) := by decide +kernel
theorem dX10_tableau_197 : decode cX10_tableau 197 = .ok (.iconst 0, 1) := by decide +kernel
theorem dX10_tableau_198 : decode cX10_tableau 198 = .ok (.istore 4, 2) := by decide +kernel
theorem dX10_tableau_200 : decode cX10_tableau 200 = .ok (.goto (-147), 3) := by decide +kernel
theorem dX10_tableau_203 : decode cX10_tableau 203 = .ok (.aload_n 0, 1) := by decide +kernel
theorem dX10_tableau_204 : decode cX10_tableau 204 = .ok (.iconst 0, 1) := by decide +kernel
theorem dX10_tableau_205 : decode cX10_tableau 205 = .ok (.putfield 125, 3) := by decide +kernel
theorem dX10_tableau_208 : decode cX10_tableau 208 = .ok (.aload_n 0, 1) := by decide +kernel
theorem dX10_tableau_209 : decode cX10_tableau 209 = .ok (.invokevirtual 143, 3) := by decide +kernel
theorem dX10_tableau_212 : decode cX10_tableau 212 = .ok (.aload_n 0, 1) := by decide +kernel
theorem dX10_tableau_213 : decode cX10_tableau 213 = .ok (.iload_n 1, 1) := by decide +kernel
theorem dX10_tableau_214 : decode cX10_tableau 214 = .ok (.invokevirtual 121, 3) := by decide +kernel
theorem dX10_tableau_217 : decode cX10_tableau 217 = .ok (.aload_n 0, 1) := by decide +kernel
theorem dX10_tableau_218 : decode cX10_tableau 218 = .ok (.getfield 111, 3) := by decide +kernel
theorem dX10_tableau_221 : decode cX10_tableau 221 = .ok (.ireturn, 1) := by decide +kernel
theorem dX10_bare_0 : decode cX10_bare 0 = .ok (.iload_n 1, 1) := by decide +kernel
theorem dX10_bare_1 : decode cX10_bare 1 = .ok (.invokestatic 114, 3) := by decide +kernel
theorem dX10_bare_4 : decode cX10_bare 4 = .ok (.ifCond .ne 5, 3) := by decide +kernel
theorem dX10_bare_7 : decode cX10_bare 7 = .ok (.iconst (-1), 1) := by decide +kernel
theorem dX10_bare_8 : decode cX10_bare 8 = .ok (.ireturn, 1) := by decide +kernel
theorem dX10_bare_9 : decode cX10_bare 9 = .ok (.aload_n 0, 1) := by decide +kernel
theorem dX10_bare_10 : decode cX10_bare 10 = .ok (.getfield 16, 3) := by decide +kernel
theorem dX10_bare_13 : decode cX10_bare 13 = .ok (.iload_n 1, 1) := by decide +kernel
theorem dX10_bare_14 : decode cX10_bare 14 = .ok (.iaload, 1) := by decide +kernel
theorem dX10_bare_15 : decode cX10_bare 15 = .ok (.ifCond .le 7, 3) := by decide +kernel
theorem dX10_bare_18 : decode cX10_bare 18 = .ok (.iconst 1, 1) := by decide +kernel
theorem dX10_bare_19 : decode cX10_bare 19 = .ok (.goto 4, 3) := by decide +kernel
theorem dX10_bare_22 : decode cX10_bare 22 = .ok (.iconst 0, 1) := by decide +kernel
theorem dX10_bare_23 : decode cX10_bare 23 = .ok (.istore_n 2, 1) := by decide +kernel
theorem dX10_bare_24 : decode cX10_bare 24 = .ok (.aload_n 0, 1) := by decide +kernel
theorem dX10_bare_25 : decode cX10_bare 25 = .ok (.getfield 16, 3) := by decide +kernel
theorem dX10_bare_28 : decode cX10_bare 28 = .ok (.iload_n 1, 1) := by decide +kernel
theorem dX10_bare_29 : decode cX10_bare 29 = .ok (.iconst 0, 1) := by decide +kernel
theorem dX10_bare_30 : decode cX10_bare 30 = .ok (.iastore, 1) := by decide +kernel
theorem dX10_bare_31 : decode cX10_bare 31 = .ok (.iload_n 2, 1) := by decide +kernel
theorem dX10_bare_32 : decode cX10_bare 32 = .ok (.ireturn, 1) := by decide +kernel
theorem dX10_of_0 : decode cX10_of 0 = .ok (.iload_n 1, 1) := by decide +kernel
theorem dX10_of_1 : decode cX10_of 1 = .ok (.invokestatic 114, 3) := by decide +kernel
theorem dX10_of_4 : decode cX10_of 4 = .ok (.ifCond .eq 12, 3) := by decide +kernel
theorem dX10_of_7 : decode cX10_of 7 = .ok (.iload_n 2, 1) := by decide +kernel
theorem dX10_of_8 : decode cX10_of 8 = .ok (.iconst 0, 1) := by decide +kernel
theorem dX10_of_9 : decode cX10_of 9 = .ok (.iconst 4, 1) := by decide +kernel
theorem dX10_of_10 : decode cX10_of 10 = .ok (.invokestatic 104, 3) := by decide +kernel
theorem dX10_of_13 : decode cX10_of 13 = .ok (.ifCond .ne 5, 3) := by decide +kernel
theorem dX10_of_16 : decode cX10_of 16 = .ok (.iconst (-1), 1) := by decide +kernel
theorem dX10_of_17 : decode cX10_of 17 = .ok (.ireturn, 1) := by decide +kernel
theorem dX10_of_18 : decode cX10_of 18 = .ok (.aload_n 0, 1) := by decide +kernel
theorem dX10_of_19 : decode cX10_of 19 = .ok (.getfield 16, 3) := by decide +kernel
theorem dX10_of_22 : decode cX10_of 22 = .ok (.iload_n 1, 1) := by decide +kernel
theorem dX10_of_23 : decode cX10_of 23 = .ok (.iaload, 1) := by decide +kernel
theorem dX10_of_24 : decode cX10_of 24 = .ok (.ifCond .ne 6, 3) := by decide +kernel
theorem dX10_of_27 : decode cX10_of 27 = .ok (.bipush (-11), 2) := by decide +kernel
theorem dX10_of_29 : decode cX10_of 29 = .ok (.ireturn, 1) := by decide +kernel
theorem dX10_of_30 : decode cX10_of 30 = .ok (.aload_n 0, 1) := by decide +kernel
theorem dX10_of_31 : decode cX10_of 31 = .ok (.iload_n 1, 1) := by decide +kernel
theorem dX10_of_32 : decode cX10_of 32 = .ok (.invokevirtual 146, 3) := by decide +kernel
theorem dX10_of_35 : decode cX10_of 35 = .ok (.iload_n 2, 1) := by decide +kernel
theorem dX10_of_36 : decode cX10_of 36 = .ok (.tableswitch 54 0 3 #[32, 39, 44, 49], 32) := by decide +kernel
theorem dX10_of_68 : decode cX10_of 68 = .ok (.aload_n 0, 1) := by decide +kernel
theorem dX10_of_69 : decode cX10_of 69 = .ok (.getfield 108, 3) := by decide +kernel
theorem dX10_of_72 : decode cX10_of 72 = .ok (.iconst 1, 1) := by decide +kernel
theorem dX10_of_73 : decode cX10_of 73 = .ok (.isub, 1) := by decide +kernel
theorem dX10_of_74 : decode cX10_of 74 = .ok (.ireturn, 1) := by decide +kernel
theorem dX10_of_75 : decode cX10_of 75 = .ok (.aload_n 0, 1) := by decide +kernel
theorem dX10_of_76 : decode cX10_of 76 = .ok (.getfield 111, 3) := by decide +kernel
theorem dX10_of_79 : decode cX10_of 79 = .ok (.ireturn, 1) := by decide +kernel
theorem dX10_of_80 : decode cX10_of 80 = .ok (.aload_n 0, 1) := by decide +kernel
theorem dX10_of_81 : decode cX10_of 81 = .ok (.invokevirtual 149, 3) := by decide +kernel
theorem dX10_of_84 : decode cX10_of 84 = .ok (.ireturn, 1) := by decide +kernel
theorem dX10_of_85 : decode cX10_of 85 = .ok (.aload_n 0, 1) := by decide +kernel
theorem dX10_of_86 : decode cX10_of 86 = .ok (.invokevirtual 152, 3) := by decide +kernel
theorem dX10_of_89 : decode cX10_of 89 = .ok (.ireturn, 1) := by decide +kernel
theorem dX10_of_90 : decode cX10_of 90 = .ok (.aload_n 0, 1) := by decide +kernel
theorem dX10_of_91 : decode cX10_of 91 = .ok (.invokevirtual 155, 3) := by decide +kernel
theorem dX10_of_94 : decode cX10_of 94 = .ok (.ireturn, 1) := by decide +kernel
theorem dX10_row_0 : decode cX10_row 0 = .ok (.iload_n 1, 1) := by decide +kernel
theorem dX10_row_1 : decode cX10_row 1 = .ok (.invokestatic 114, 3) := by decide +kernel
theorem dX10_row_4 : decode cX10_row 4 = .ok (.ifCond .ne 5, 3) := by decide +kernel
theorem dX10_row_7 : decode cX10_row 7 = .ok (.iconst (-1), 1) := by decide +kernel
theorem dX10_row_8 : decode cX10_row 8 = .ok (.ireturn, 1) := by decide +kernel
theorem dX10_row_9 : decode cX10_row 9 = .ok (.aload_n 0, 1) := by decide +kernel
theorem dX10_row_10 : decode cX10_row 10 = .ok (.getfield 16, 3) := by decide +kernel
theorem dX10_row_13 : decode cX10_row 13 = .ok (.iload_n 1, 1) := by decide +kernel
theorem dX10_row_14 : decode cX10_row 14 = .ok (.iaload, 1) := by decide +kernel
theorem dX10_row_15 : decode cX10_row 15 = .ok (.iconst 2, 1) := by decide +kernel
theorem dX10_row_16 : decode cX10_row 16 = .ok (.if_icmp .eq 20, 3) := by decide +kernel
theorem dX10_row_19 : decode cX10_row 19 = .ok (.aload_n 0, 1) := by decide +kernel
theorem dX10_row_20 : decode cX10_row 20 = .ok (.getfield 16, 3) := by decide +kernel
theorem dX10_row_23 : decode cX10_row 23 = .ok (.iload_n 1, 1) := by decide +kernel
theorem dX10_row_24 : decode cX10_row 24 = .ok (.iaload, 1) := by decide +kernel
theorem dX10_row_25 : decode cX10_row 25 = .ok (.ifCond .ne 8, 3) := by decide +kernel
theorem dX10_row_28 : decode cX10_row 28 = .ok (.bipush (-11), 2) := by decide +kernel
theorem dX10_row_30 : decode cX10_row 30 = .ok (.goto 5, 3) := by decide +kernel
theorem dX10_row_33 : decode cX10_row 33 = .ok (.bipush (-13), 2) := by decide +kernel
theorem dX10_row_35 : decode cX10_row 35 = .ok (.ireturn, 1) := by decide +kernel
theorem dX10_row_36 : decode cX10_row 36 = .ok (.aload_n 0, 1) := by decide +kernel
theorem dX10_row_37 : decode cX10_row 37 = .ok (.iload_n 1, 1) := by decide +kernel
theorem dX10_row_38 : decode cX10_row 38 = .ok (.invokevirtual 146, 3) := by decide +kernel
theorem dX10_row_41 : decode cX10_row 41 = .ok (.iload_n 2, 1) := by decide +kernel
theorem dX10_row_42 : decode cX10_row 42 = .ok (.iconst 0, 1) := by decide +kernel
theorem dX10_row_43 : decode cX10_row 43 = .ok (.aload_n 0, 1) := by decide +kernel
theorem dX10_row_44 : decode cX10_row 44 = .ok (.invokevirtual 155, 3) := by decide +kernel
theorem dX10_row_47 : decode cX10_row 47 = .ok (.iconst 1, 1) := by decide +kernel
theorem dX10_row_48 : decode cX10_row 48 = .ok (.isub, 1) := by decide +kernel
theorem dX10_row_49 : decode cX10_row 49 = .ok (.invokestatic 104, 3) := by decide +kernel
theorem dX10_row_52 : decode cX10_row 52 = .ok (.ifCond .ne 6, 3) := by decide +kernel
theorem dX10_row_55 : decode cX10_row 55 = .ok (.bipush (-12), 2) := by decide +kernel
theorem dX10_row_57 : decode cX10_row 57 = .ok (.ireturn, 1) := by decide +kernel
theorem dX10_row_58 : decode cX10_row 58 = .ok (.iconst 0, 1) := by decide +kernel
theorem dX10_row_59 : decode cX10_row 59 = .ok (.istore_n 3, 1) := by decide +kernel
theorem dX10_row_60 : decode cX10_row 60 = .ok (.iload_n 2, 1) := by decide +kernel
theorem dX10_row_61 : decode cX10_row 61 = .ok (.iconst 1, 1) := by decide +kernel
theorem dX10_row_62 : decode cX10_row 62 = .ok (.iadd, 1) := by decide +kernel
theorem dX10_row_63 : decode cX10_row 63 = .ok (.istore 4, 2) := by decide +kernel
theorem dX10_row_65 : decode cX10_row 65 = .ok (.iload 4, 2) := by decide +kernel
theorem dX10_row_67 : decode cX10_row 67 = .ok (.bipush 6, 2) := by decide +kernel
theorem dX10_row_69 : decode cX10_row 69 = .ok (.if_icmp .ge 19, 3) := by decide +kernel
theorem dX10_row_72 : decode cX10_row 72 = .ok (.iload_n 3, 1) := by decide +kernel
theorem dX10_row_73 : decode cX10_row 73 = .ok (.aload_n 0, 1) := by decide +kernel
theorem dX10_row_74 : decode cX10_row 74 = .ok (.getfield 50, 3) := by decide +kernel
theorem dX10_row_77 : decode cX10_row 77 = .ok (.iload 4, 2) := by decide +kernel
theorem dX10_row_79 : decode cX10_row 79 = .ok (.iaload, 1) := by decide +kernel
theorem dX10_row_80 : decode cX10_row 80 = .ok (.iadd, 1) := by decide +kernel
theorem dX10_row_81 : decode cX10_row 81 = .ok (.istore_n 3, 1) := by decide +kernel
theorem dX10_row_82 : decode cX10_row 82 = .ok (.iinc 4 1, 3) := by decide +kernel
theorem dX10_row_85 : decode cX10_row 85 = .ok (.goto (-20), 3) := by decide +kernel
theorem dX10_row_88 : decode cX10_row 88 = .ok (.iconst 0, 1) := by decide +kernel
theorem dX10_row_89 : decode cX10_row 89 = .ok (.istore 4, 2) := by decide +kernel
theorem dX10_row_91 : decode cX10_row 91 = .ok (.iconst 0, 1) := by decide +kernel
theorem dX10_row_92 : decode cX10_row 92 = .ok (.istore 5, 2) := by decide +kernel
theorem dX10_row_94 : decode cX10_row 94 = .ok (.iload 5, 2) := by decide +kernel
theorem dX10_row_96 : decode cX10_row 96 = .ok (.aload_n 0, 1) := by decide +kernel
theorem dX10_row_97 : decode cX10_row 97 = .ok (.getfield 50, 3) := by decide +kernel
theorem dX10_row_100 : decode cX10_row 100 = .ok (.iload_n 2, 1) := by decide +kernel
theorem dX10_row_101 : decode cX10_row 101 = .ok (.iaload, 1) := by decide +kernel
theorem dX10_row_102 : decode cX10_row 102 = .ok (.if_icmp .ge 26, 3) := by decide +kernel
theorem dX10_row_105 : decode cX10_row 105 = .ok (.bipush 10, 2) := by decide +kernel
theorem dX10_row_107 : decode cX10_row 107 = .ok (.iload 4, 2) := by decide +kernel
theorem dX10_row_109 : decode cX10_row 109 = .ok (.imul, 1) := by decide +kernel
theorem dX10_row_110 : decode cX10_row 110 = .ok (.aload_n 0, 1) := by decide +kernel
theorem dX10_row_111 : decode cX10_row 111 = .ok (.getfield 47, 3) := by decide +kernel
theorem dX10_row_114 : decode cX10_row 114 = .ok (.iload_n 3, 1) := by decide +kernel
theorem dX10_row_115 : decode cX10_row 115 = .ok (.iload 5, 2) := by decide +kernel
theorem dX10_row_117 : decode cX10_row 117 = .ok (.iadd, 1) := by decide +kernel
theorem dX10_row_118 : decode cX10_row 118 = .ok (.iaload, 1) := by decide +kernel
theorem dX10_row_119 : decode cX10_row 119 = .ok (.iadd, 1) := by decide +kernel
theorem dX10_row_120 : decode cX10_row 120 = .ok (.istore 4, 2) := by decide +kernel
theorem dX10_row_122 : decode cX10_row 122 = .ok (.iinc 5 1, 3) := by decide +kernel
theorem dX10_row_125 : decode cX10_row 125 = .ok (.goto (-31), 3) := by decide +kernel
theorem dX10_row_128 : decode cX10_row 128 = .ok (.iload 4, 2) := by decide +kernel
theorem dX10_row_130 : decode cX10_row 130 = .ok (.ireturn, 1) := by decide +kernel
theorem dX10_taken_0 : decode cX10_taken 0 = .ok (.iload_n 1, 1) := by decide +kernel
theorem dX10_taken_1 : decode cX10_taken 1 = .ok (.invokestatic 114, 3) := by decide +kernel
theorem dX10_taken_4 : decode cX10_taken 4 = .ok (.ifCond .eq 12, 3) := by decide +kernel
theorem dX10_taken_7 : decode cX10_taken 7 = .ok (.iload_n 2, 1) := by decide +kernel
theorem dX10_taken_8 : decode cX10_taken 8 = .ok (.iconst 0, 1) := by decide +kernel
theorem dX10_taken_9 : decode cX10_taken 9 = .ok (.iconst 1, 1) := by decide +kernel
theorem dX10_taken_10 : decode cX10_taken 10 = .ok (.invokestatic 104, 3) := by decide +kernel
theorem dX10_taken_13 : decode cX10_taken 13 = .ok (.ifCond .ne 5, 3) := by decide +kernel
theorem dX10_taken_16 : decode cX10_taken 16 = .ok (.iconst (-1), 1) := by decide +kernel
theorem dX10_taken_17 : decode cX10_taken 17 = .ok (.ireturn, 1) := by decide +kernel
theorem dX10_taken_18 : decode cX10_taken 18 = .ok (.aload_n 0, 1) := by decide +kernel
theorem dX10_taken_19 : decode cX10_taken 19 = .ok (.getfield 16, 3) := by decide +kernel
theorem dX10_taken_22 : decode cX10_taken 22 = .ok (.iload_n 1, 1) := by decide +kernel
theorem dX10_taken_23 : decode cX10_taken 23 = .ok (.iaload, 1) := by decide +kernel
theorem dX10_taken_24 : decode cX10_taken 24 = .ok (.ifCond .ne 8, 3) := by decide +kernel
theorem dX10_taken_27 : decode cX10_taken 27 = .ok (.bipush (-11), 2) := by decide +kernel
theorem dX10_taken_29 : decode cX10_taken 29 = .ok (.goto 26, 3) := by decide +kernel
theorem dX10_taken_32 : decode cX10_taken 32 = .ok (.aload_n 0, 1) := by decide +kernel
theorem dX10_taken_33 : decode cX10_taken 33 = .ok (.getfield 16, 3) := by decide +kernel
theorem dX10_taken_36 : decode cX10_taken 36 = .ok (.iload_n 1, 1) := by decide +kernel
theorem dX10_taken_37 : decode cX10_taken 37 = .ok (.iaload, 1) := by decide +kernel
theorem dX10_taken_38 : decode cX10_taken 38 = .ok (.iload_n 2, 1) := by decide +kernel
theorem dX10_taken_39 : decode cX10_taken 39 = .ok (.iconst 1, 1) := by decide +kernel
theorem dX10_taken_40 : decode cX10_taken 40 = .ok (.iadd, 1) := by decide +kernel
theorem dX10_taken_41 : decode cX10_taken 41 = .ok (.if_icmp .ne 12, 3) := by decide +kernel
theorem dX10_taken_44 : decode cX10_taken 44 = .ok (.aload_n 0, 1) := by decide +kernel
theorem dX10_taken_45 : decode cX10_taken 45 = .ok (.getfield 20, 3) := by decide +kernel
theorem dX10_taken_48 : decode cX10_taken 48 = .ok (.iload_n 1, 1) := by decide +kernel
theorem dX10_taken_49 : decode cX10_taken 49 = .ok (.iaload, 1) := by decide +kernel
theorem dX10_taken_50 : decode cX10_taken 50 = .ok (.goto 5, 3) := by decide +kernel
theorem dX10_taken_53 : decode cX10_taken 53 = .ok (.bipush (-13), 2) := by decide +kernel
theorem dX10_taken_55 : decode cX10_taken 55 = .ok (.ireturn, 1) := by decide +kernel
theorem dX10_looks_0 : decode cX10_looks 0 = .ok (.iconst 0, 1) := by decide +kernel
theorem dX10_looks_1 : decode cX10_looks 1 = .ok (.istore_n 2, 1) := by decide +kernel
theorem dX10_looks_2 : decode cX10_looks 2 = .ok (.aload_n 0, 1) := by decide +kernel
theorem dX10_looks_3 : decode cX10_looks 3 = .ok (.iconst 0, 1) := by decide +kernel
theorem dX10_looks_4 : decode cX10_looks 4 = .ok (.putfield 158, 3) := by decide +kernel
theorem dX10_looks_7 : decode cX10_looks 7 = .ok (.iconst 0, 1) := by decide +kernel
theorem dX10_looks_8 : decode cX10_looks 8 = .ok (.istore_n 3, 1) := by decide +kernel
theorem dX10_looks_9 : decode cX10_looks 9 = .ok (.iload_n 3, 1) := by decide +kernel
theorem dX10_looks_10 : decode cX10_looks 10 = .ok (.aload_n 0, 1) := by decide +kernel
theorem dX10_looks_11 : decode cX10_looks 11 = .ok (.getfield 111, 3) := by decide +kernel
theorem dX10_looks_14 : decode cX10_looks 14 = .ok (.if_icmp .ge 79, 3) := by decide +kernel
theorem dX10_looks_17 : decode cX10_looks 17 = .ok (.aload_n 0, 1) := by decide +kernel
theorem dX10_looks_18 : decode cX10_looks 18 = .ok (.getfield 47, 3) := by decide +kernel
theorem dX10_looks_21 : decode cX10_looks 21 = .ok (.iload_n 3, 1) := by decide +kernel
theorem dX10_looks_22 : decode cX10_looks 22 = .ok (.iaload, 1) := by decide +kernel
theorem dX10_looks_23 : decode cX10_looks 23 = .ok (.iload_n 1, 1) := by decide +kernel
theorem dX10_looks_24 : decode cX10_looks 24 = .ok (.iconst 1, 1) := by decide +kernel
theorem dX10_looks_25 : decode cX10_looks 25 = .ok (.iadd, 1) := by decide +kernel
theorem dX10_looks_26 : decode cX10_looks 26 = .ok (.if_icmp .ne 16, 3) := by decide +kernel
theorem dX10_looks_29 : decode cX10_looks 29 = .ok (.aload_n 0, 1) := by decide +kernel
theorem dX10_looks_30 : decode cX10_looks 30 = .ok (.getfield 62, 3) := by decide +kernel
theorem dX10_looks_33 : decode cX10_looks 33 = .ok (.iload_n 2, 1) := by decide +kernel
theorem dX10_looks_34 : decode cX10_looks 34 = .ok (.iload_n 3, 1) := by decide +kernel
theorem dX10_looks_35 : decode cX10_looks 35 = .ok (.iastore, 1) := by decide +kernel
theorem dX10_looks_36 : decode cX10_looks 36 = .ok (.iinc 2 1, 3) := by decide +kernel
theorem dX10_looks_39 : decode cX10_looks 39 = .ok (.goto 48, 3) := by decide +kernel
theorem dX10_looks_42 : decode cX10_looks 42 = .ok (.aload_n 0, 1) := by decide +kernel
theorem dX10_looks_43 : decode cX10_looks 43 = .ok (.getfield 47, 3) := by decide +kernel
theorem dX10_looks_46 : decode cX10_looks 46 = .ok (.iload_n 3, 1) := by decide +kernel
theorem dX10_looks_47 : decode cX10_looks 47 = .ok (.iaload, 1) := by decide +kernel
theorem dX10_looks_48 : decode cX10_looks 48 = .ok (.iload_n 1, 1) := by decide +kernel
theorem dX10_looks_49 : decode cX10_looks 49 = .ok (.if_icmp .ne 13, 3) := by decide +kernel
theorem dX10_looks_52 : decode cX10_looks 52 = .ok (.iload_n 2, 1) := by decide +kernel
theorem dX10_looks_53 : decode cX10_looks 53 = .ok (.ifCond .le 9, 3) := by decide +kernel
theorem dX10_looks_56 : decode cX10_looks 56 = .ok (.iinc 2 (-1), 3) := by decide +kernel
theorem dX10_looks_59 : decode cX10_looks 59 = .ok (.goto 28, 3) := by decide +kernel
theorem dX10_looks_62 : decode cX10_looks 62 = .ok (.aload_n 0, 1) := by decide +kernel
theorem dX10_looks_63 : decode cX10_looks 63 = .ok (.getfield 47, 3) := by decide +kernel
theorem dX10_looks_66 : decode cX10_looks 66 = .ok (.iload_n 3, 1) := by decide +kernel
theorem dX10_looks_67 : decode cX10_looks 67 = .ok (.iaload, 1) := by decide +kernel
theorem dX10_looks_68 : decode cX10_looks 68 = .ok (.iload_n 1, 1) := by decide +kernel
theorem dX10_looks_69 : decode cX10_looks 69 = .ok (.if_icmp .ne 18, 3) := by decide +kernel
theorem dX10_looks_72 : decode cX10_looks 72 = .ok (.aload_n 0, 1) := by decide +kernel
theorem dX10_looks_73 : decode cX10_looks 73 = .ok (.dup, 1) := by decide +kernel
theorem dX10_looks_74 : decode cX10_looks 74 = .ok (.getfield 158, 3) := by decide +kernel
theorem dX10_looks_77 : decode cX10_looks 77 = .ok (.iconst 1, 1) := by decide +kernel
theorem dX10_looks_78 : decode cX10_looks 78 = .ok (.iadd, 1) := by decide +kernel
theorem dX10_looks_79 : decode cX10_looks 79 = .ok (.putfield 158, 3) := by decide +kernel
theorem dX10_looks_82 : decode cX10_looks 82 = .ok (.aload_n 0, 1) := by decide +kernel
theorem dX10_looks_83 : decode cX10_looks 83 = .ok (.iload_n 3, 1) := by decide +kernel
theorem dX10_looks_84 : decode cX10_looks 84 = .ok (.putfield 161, 3) := by decide +kernel
theorem dX10_looks_87 : decode cX10_looks 87 = .ok (.iinc 3 1, 3) := by decide +kernel
theorem dX10_looks_90 : decode cX10_looks 90 = .ok (.goto (-81), 3) := by decide +kernel
theorem dX10_looks_93 : decode cX10_looks 93 = .ok (.aload_n 0, 1) := by decide +kernel
theorem dX10_looks_94 : decode cX10_looks 94 = .ok (.iload_n 2, 1) := by decide +kernel
theorem dX10_looks_95 : decode cX10_looks 95 = .ok (.putfield 164, 3) := by decide +kernel
theorem dX10_looks_98 : decode cX10_looks 98 = .ok (.aload_n 0, 1) := by decide +kernel
theorem dX10_looks_99 : decode cX10_looks 99 = .ok (.iload_n 2, 1) := by decide +kernel
theorem dX10_looks_100 : decode cX10_looks 100 = .ok (.ifCond .le 12, 3) := by decide +kernel
theorem dX10_looks_103 : decode cX10_looks 103 = .ok (.aload_n 0, 1) := by decide +kernel
theorem dX10_looks_104 : decode cX10_looks 104 = .ok (.getfield 62, 3) := by decide +kernel
theorem dX10_looks_107 : decode cX10_looks 107 = .ok (.iconst 0, 1) := by decide +kernel
theorem dX10_looks_108 : decode cX10_looks 108 = .ok (.iaload, 1) := by decide +kernel
theorem dX10_looks_109 : decode cX10_looks 109 = .ok (.goto 4, 3) := by decide +kernel
theorem dX10_looks_112 : decode cX10_looks 112 = .ok (.iconst (-1), 1) := by decide +kernel
theorem dX10_looks_113 : decode cX10_looks 113 = .ok (.putfield 167, 3) := by decide +kernel
theorem dX10_looks_116 : decode cX10_looks 116 = .ok (.return_, 1) := by decide +kernel
theorem dX10_raises_0 : decode cX10_raises 0 = .ok (.aload_n 0, 1) := by decide +kernel
theorem dX10_raises_1 : decode cX10_raises 1 = .ok (.iload_n 1, 1) := by decide +kernel
theorem dX10_raises_2 : decode cX10_raises 2 = .ok (.invokevirtual 170, 3) := by decide +kernel
theorem dX10_raises_5 : decode cX10_raises 5 = .ok (.aload_n 0, 1) := by decide +kernel
theorem dX10_raises_6 : decode cX10_raises 6 = .ok (.getfield 164, 3) := by decide +kernel
theorem dX10_raises_9 : decode cX10_raises 9 = .ok (.ifCond .le 13, 3) := by decide +kernel
theorem dX10_raises_12 : decode cX10_raises 12 = .ok (.aload_n 0, 1) := by decide +kernel
theorem dX10_raises_13 : decode cX10_raises 13 = .ok (.getfield 47, 3) := by decide +kernel
theorem dX10_raises_16 : decode cX10_raises 16 = .ok (.aload_n 0, 1) := by decide +kernel
theorem dX10_raises_17 : decode cX10_raises 17 = .ok (.getfield 167, 3) := by decide +kernel
theorem dX10_raises_20 : decode cX10_raises 20 = .ok (.iload_n 1, 1) := by decide +kernel
theorem dX10_raises_21 : decode cX10_raises 21 = .ok (.iastore, 1) := by decide +kernel
theorem dX10_raises_22 : decode cX10_raises 22 = .ok (.aload_n 0, 1) := by decide +kernel
theorem dX10_raises_23 : decode cX10_raises 23 = .ok (.getfield 164, 3) := by decide +kernel
theorem dX10_raises_26 : decode cX10_raises 26 = .ok (.ifCond .le 7, 3) := by decide +kernel
theorem dX10_raises_29 : decode cX10_raises 29 = .ok (.iconst 1, 1) := by decide +kernel
theorem dX10_raises_30 : decode cX10_raises 30 = .ok (.goto 4, 3) := by decide +kernel
theorem dX10_raises_33 : decode cX10_raises 33 = .ok (.iconst 0, 1) := by decide +kernel
theorem dX10_raises_34 : decode cX10_raises 34 = .ok (.ireturn, 1) := by decide +kernel
theorem dX10_lowers_0 : decode cX10_lowers 0 = .ok (.aload_n 0, 1) := by decide +kernel
theorem dX10_lowers_1 : decode cX10_lowers 1 = .ok (.iload_n 1, 1) := by decide +kernel
theorem dX10_lowers_2 : decode cX10_lowers 2 = .ok (.invokevirtual 170, 3) := by decide +kernel
theorem dX10_lowers_5 : decode cX10_lowers 5 = .ok (.aload_n 0, 1) := by decide +kernel
theorem dX10_lowers_6 : decode cX10_lowers 6 = .ok (.getfield 158, 3) := by decide +kernel
theorem dX10_lowers_9 : decode cX10_lowers 9 = .ok (.ifCond .le 15, 3) := by decide +kernel
theorem dX10_lowers_12 : decode cX10_lowers 12 = .ok (.aload_n 0, 1) := by decide +kernel
theorem dX10_lowers_13 : decode cX10_lowers 13 = .ok (.getfield 47, 3) := by decide +kernel
theorem dX10_lowers_16 : decode cX10_lowers 16 = .ok (.aload_n 0, 1) := by decide +kernel
theorem dX10_lowers_17 : decode cX10_lowers 17 = .ok (.getfield 161, 3) := by decide +kernel
theorem dX10_lowers_20 : decode cX10_lowers 20 = .ok (.iload_n 1, 1) := by decide +kernel
theorem dX10_lowers_21 : decode cX10_lowers 21 = .ok (.iconst 1, 1) := by decide +kernel
theorem dX10_lowers_22 : decode cX10_lowers 22 = .ok (.iadd, 1) := by decide +kernel
theorem dX10_lowers_23 : decode cX10_lowers 23 = .ok (.iastore, 1) := by decide +kernel
theorem dX10_lowers_24 : decode cX10_lowers 24 = .ok (.aload_n 0, 1) := by decide +kernel
theorem dX10_lowers_25 : decode cX10_lowers 25 = .ok (.getfield 158, 3) := by decide +kernel
theorem dX10_lowers_28 : decode cX10_lowers 28 = .ok (.ifCond .le 7, 3) := by decide +kernel
theorem dX10_lowers_31 : decode cX10_lowers 31 = .ok (.iconst 1, 1) := by decide +kernel
theorem dX10_lowers_32 : decode cX10_lowers 32 = .ok (.goto 4, 3) := by decide +kernel
theorem dX10_lowers_35 : decode cX10_lowers 35 = .ok (.iconst 0, 1) := by decide +kernel
theorem dX10_lowers_36 : decode cX10_lowers 36 = .ok (.ireturn, 1) := by decide +kernel
theorem dX10_signs_0 : decode cX10_signs 0 = .ok (.iload_n 1, 1) := by decide +kernel
theorem dX10_signs_1 : decode cX10_signs 1 = .ok (.invokestatic 114, 3) := by decide +kernel
theorem dX10_signs_4 : decode cX10_signs 4 = .ok (.ifCond .eq 20, 3) := by decide +kernel
theorem dX10_signs_7 : decode cX10_signs 7 = .ok (.aload_n 0, 1) := by decide +kernel
theorem dX10_signs_8 : decode cX10_signs 8 = .ok (.iload_n 2, 1) := by decide +kernel
theorem dX10_signs_9 : decode cX10_signs 9 = .ok (.invokevirtual 173, 3) := by decide +kernel
theorem dX10_signs_12 : decode cX10_signs 12 = .ok (.ifCond .eq 12, 3) := by decide +kernel
theorem dX10_signs_15 : decode cX10_signs 15 = .ok (.iload_n 3, 1) := by decide +kernel
theorem dX10_signs_16 : decode cX10_signs 16 = .ok (.iconst 0, 1) := by decide +kernel
theorem dX10_signs_17 : decode cX10_signs 17 = .ok (.iconst 1, 1) := by decide +kernel
theorem dX10_signs_18 : decode cX10_signs 18 = .ok (.invokestatic 104, 3) := by decide +kernel
theorem dX10_signs_21 : decode cX10_signs 21 = .ok (.ifCond .ne 5, 3) := by decide +kernel
theorem dX10_signs_24 : decode cX10_signs 24 = .ok (.iconst (-1), 1) := by decide +kernel
theorem dX10_signs_25 : decode cX10_signs 25 = .ok (.ireturn, 1) := by decide +kernel
theorem dX10_signs_26 : decode cX10_signs 26 = .ok (.aload_n 0, 1) := by decide +kernel
theorem dX10_signs_27 : decode cX10_signs 27 = .ok (.getfield 16, 3) := by decide +kernel
theorem dX10_signs_30 : decode cX10_signs 30 = .ok (.iload_n 1, 1) := by decide +kernel
theorem dX10_signs_31 : decode cX10_signs 31 = .ok (.iaload, 1) := by decide +kernel
theorem dX10_signs_32 : decode cX10_signs 32 = .ok (.ifCond .ne 6, 3) := by decide +kernel
theorem dX10_signs_35 : decode cX10_signs 35 = .ok (.bipush (-11), 2) := by decide +kernel
theorem dX10_signs_37 : decode cX10_signs 37 = .ok (.ireturn, 1) := by decide +kernel
theorem dX10_signs_38 : decode cX10_signs 38 = .ok (.aload_n 0, 1) := by decide +kernel
theorem dX10_signs_39 : decode cX10_signs 39 = .ok (.iload_n 1, 1) := by decide +kernel
theorem dX10_signs_40 : decode cX10_signs 40 = .ok (.invokevirtual 146, 3) := by decide +kernel
theorem dX10_signs_43 : decode cX10_signs 43 = .ok (.aload_n 0, 1) := by decide +kernel
theorem dX10_signs_44 : decode cX10_signs 44 = .ok (.iload_n 2, 1) := by decide +kernel
theorem dX10_signs_45 : decode cX10_signs 45 = .ok (.invokevirtual 170, 3) := by decide +kernel
theorem dX10_signs_48 : decode cX10_signs 48 = .ok (.iload_n 3, 1) := by decide +kernel
theorem dX10_signs_49 : decode cX10_signs 49 = .ok (.ifCond .ne 10, 3) := by decide +kernel
theorem dX10_signs_52 : decode cX10_signs 52 = .ok (.aload_n 0, 1) := by decide +kernel
theorem dX10_signs_53 : decode cX10_signs 53 = .ok (.getfield 158, 3) := by decide +kernel
theorem dX10_signs_56 : decode cX10_signs 56 = .ok (.goto 7, 3) := by decide +kernel
theorem dX10_signs_59 : decode cX10_signs 59 = .ok (.aload_n 0, 1) := by decide +kernel
theorem dX10_signs_60 : decode cX10_signs 60 = .ok (.getfield 164, 3) := by decide +kernel
theorem dX10_signs_63 : decode cX10_signs 63 = .ok (.ireturn, 1) := by decide +kernel
theorem dX10_turns_0 : decode cX10_turns 0 = .ok (.iconst 0, 1) := by decide +kernel
theorem dX10_turns_1 : decode cX10_turns 1 = .ok (.istore_n 1, 1) := by decide +kernel
theorem dX10_turns_2 : decode cX10_turns 2 = .ok (.iload_n 1, 1) := by decide +kernel
theorem dX10_turns_3 : decode cX10_turns 3 = .ok (.aload_n 0, 1) := by decide +kernel
theorem dX10_turns_4 : decode cX10_turns 4 = .ok (.getfield 111, 3) := by decide +kernel
theorem dX10_turns_7 : decode cX10_turns 7 = .ok (.if_icmp .ge 35, 3) := by decide +kernel
theorem dX10_turns_10 : decode cX10_turns 10 = .ok (.aload_n 0, 1) := by decide +kernel
theorem dX10_turns_11 : decode cX10_turns 11 = .ok (.getfield 53, 3) := by decide +kernel
theorem dX10_turns_14 : decode cX10_turns 14 = .ok (.iload_n 1, 1) := by decide +kernel
theorem dX10_turns_15 : decode cX10_turns 15 = .ok (.aload_n 0, 1) := by decide +kernel
theorem dX10_turns_16 : decode cX10_turns 16 = .ok (.getfield 7, 3) := by decide +kernel
theorem dX10_turns_19 : decode cX10_turns 19 = .ok (.iconst 1, 1) := by decide +kernel
theorem dX10_turns_20 : decode cX10_turns 20 = .ok (.iadd, 1) := by decide +kernel
theorem dX10_turns_21 : decode cX10_turns 21 = .ok (.aload_n 0, 1) := by decide +kernel
theorem dX10_turns_22 : decode cX10_turns 22 = .ok (.getfield 47, 3) := by decide +kernel
theorem dX10_turns_25 : decode cX10_turns 25 = .ok (.aload_n 0, 1) := by decide +kernel
theorem dX10_turns_26 : decode cX10_turns 26 = .ok (.getfield 111, 3) := by decide +kernel
theorem dX10_turns_29 : decode cX10_turns 29 = .ok (.iconst 1, 1) := by decide +kernel
theorem dX10_turns_30 : decode cX10_turns 30 = .ok (.isub, 1) := by decide +kernel
theorem dX10_turns_31 : decode cX10_turns 31 = .ok (.iload_n 1, 1) := by decide +kernel
theorem dX10_turns_32 : decode cX10_turns 32 = .ok (.isub, 1) := by decide +kernel
theorem dX10_turns_33 : decode cX10_turns 33 = .ok (.iaload, 1) := by decide +kernel
theorem dX10_turns_34 : decode cX10_turns 34 = .ok (.isub, 1) := by decide +kernel
theorem dX10_turns_35 : decode cX10_turns 35 = .ok (.iastore, 1) := by decide +kernel
theorem dX10_turns_36 : decode cX10_turns 36 = .ok (.iinc 1 1, 3) := by decide +kernel
theorem dX10_turns_39 : decode cX10_turns 39 = .ok (.goto (-37), 3) := by decide +kernel
theorem dX10_turns_42 : decode cX10_turns 42 = .ok (.iconst 0, 1) := by decide +kernel
theorem dX10_turns_43 : decode cX10_turns 43 = .ok (.istore_n 1, 1) := by decide +kernel
theorem dX10_turns_44 : decode cX10_turns 44 = .ok (.iload_n 1, 1) := by decide +kernel
theorem dX10_turns_45 : decode cX10_turns 45 = .ok (.aload_n 0, 1) := by decide +kernel
theorem dX10_turns_46 : decode cX10_turns 46 = .ok (.getfield 111, 3) := by decide +kernel
theorem dX10_turns_49 : decode cX10_turns 49 = .ok (.if_icmp .ge 21, 3) := by decide +kernel
theorem dX10_turns_52 : decode cX10_turns 52 = .ok (.aload_n 0, 1) := by decide +kernel
theorem dX10_turns_53 : decode cX10_turns 53 = .ok (.getfield 47, 3) := by decide +kernel
theorem dX10_turns_56 : decode cX10_turns 56 = .ok (.iload_n 1, 1) := by decide +kernel
theorem dX10_turns_57 : decode cX10_turns 57 = .ok (.aload_n 0, 1) := by decide +kernel
theorem dX10_turns_58 : decode cX10_turns 58 = .ok (.getfield 53, 3) := by decide +kernel
theorem dX10_turns_61 : decode cX10_turns 61 = .ok (.iload_n 1, 1) := by decide +kernel
theorem dX10_turns_62 : decode cX10_turns 62 = .ok (.iaload, 1) := by decide +kernel
theorem dX10_turns_63 : decode cX10_turns 63 = .ok (.iastore, 1) := by decide +kernel
theorem dX10_turns_64 : decode cX10_turns 64 = .ok (.iinc 1 1, 3) := by decide +kernel
theorem dX10_turns_67 : decode cX10_turns 67 = .ok (.goto (-23), 3) := by decide +kernel
theorem dX10_turns_70 : decode cX10_turns 70 = .ok (.aload_n 0, 1) := by decide +kernel
theorem dX10_turns_71 : decode cX10_turns 71 = .ok (.getfield 108, 3) := by decide +kernel
theorem dX10_turns_74 : decode cX10_turns 74 = .ok (.iconst 2, 1) := by decide +kernel
theorem dX10_turns_75 : decode cX10_turns 75 = .ok (.if_icmp .ne 7, 3) := by decide +kernel
theorem dX10_turns_78 : decode cX10_turns 78 = .ok (.aload_n 0, 1) := by decide +kernel
theorem dX10_turns_79 : decode cX10_turns 79 = .ok (.invokevirtual 176, 3) := by decide +kernel
theorem dX10_turns_82 : decode cX10_turns 82 = .ok (.return_, 1) := by decide +kernel
theorem dX10_acts_0 : decode cX10_acts 0 = .ok (.iload_n 1, 1) := by decide +kernel
theorem dX10_acts_1 : decode cX10_acts 1 = .ok (.ifCond .eq 8, 3) := by decide +kernel
theorem dX10_acts_4 : decode cX10_acts 4 = .ok (.iload_n 1, 1) := by decide +kernel
theorem dX10_acts_5 : decode cX10_acts 5 = .ok (.iconst 1, 1) := by decide +kernel
theorem dX10_acts_6 : decode cX10_acts 6 = .ok (.if_icmp .ne 21, 3) := by decide +kernel
theorem dX10_acts_9 : decode cX10_acts 9 = .ok (.iload_n 1, 1) := by decide +kernel
theorem dX10_acts_10 : decode cX10_acts 10 = .ok (.ifCond .ne 11, 3) := by decide +kernel
theorem dX10_acts_13 : decode cX10_acts 13 = .ok (.aload_n 0, 1) := by decide +kernel
theorem dX10_acts_14 : decode cX10_acts 14 = .ok (.iload_n 2, 1) := by decide +kernel
theorem dX10_acts_15 : decode cX10_acts 15 = .ok (.invokevirtual 179, 3) := by decide +kernel
theorem dX10_acts_18 : decode cX10_acts 18 = .ok (.goto 8, 3) := by decide +kernel
theorem dX10_acts_21 : decode cX10_acts 21 = .ok (.aload_n 0, 1) := by decide +kernel
theorem dX10_acts_22 : decode cX10_acts 22 = .ok (.iload_n 2, 1) := by decide +kernel
theorem dX10_acts_23 : decode cX10_acts 23 = .ok (.invokevirtual 182, 3) := by decide +kernel
theorem dX10_acts_26 : decode cX10_acts 26 = .ok (.ireturn, 1) := by decide +kernel
theorem dX10_acts_27 : decode cX10_acts 27 = .ok (.iload_n 1, 1) := by decide +kernel
theorem dX10_acts_28 : decode cX10_acts 28 = .ok (.iconst 5, 1) := by decide +kernel
theorem dX10_acts_29 : decode cX10_acts 29 = .ok (.if_icmp .ne 9, 3) := by decide +kernel
theorem dX10_acts_32 : decode cX10_acts 32 = .ok (.aload_n 0, 1) := by decide +kernel
theorem dX10_acts_33 : decode cX10_acts 33 = .ok (.invokevirtual 185, 3) := by decide +kernel
theorem dX10_acts_36 : decode cX10_acts 36 = .ok (.iconst 1, 1) := by decide +kernel
theorem dX10_acts_37 : decode cX10_acts 37 = .ok (.ireturn, 1) := by decide +kernel
theorem dX10_acts_38 : decode cX10_acts 38 = .ok (.aload_n 0, 1) := by decide +kernel
theorem dX10_acts_39 : decode cX10_acts 39 = .ok (.iload_n 2, 1) := by decide +kernel
theorem dX10_acts_40 : decode cX10_acts 40 = .ok (.invokevirtual 170, 3) := by decide +kernel
theorem dX10_acts_43 : decode cX10_acts 43 = .ok (.iload_n 1, 1) := by decide +kernel
theorem dX10_acts_44 : decode cX10_acts 44 = .ok (.iconst 2, 1) := by decide +kernel
theorem dX10_acts_45 : decode cX10_acts 45 = .ok (.if_icmp .ne 15, 3) := by decide +kernel
theorem dX10_acts_48 : decode cX10_acts 48 = .ok (.aload_n 0, 1) := by decide +kernel
theorem dX10_acts_49 : decode cX10_acts 49 = .ok (.getfield 164, 3) := by decide +kernel
theorem dX10_acts_52 : decode cX10_acts 52 = .ok (.aload_n 0, 1) := by decide +kernel
theorem dX10_acts_53 : decode cX10_acts 53 = .ok (.getfield 158, 3) := by decide +kernel
theorem dX10_acts_56 : decode cX10_acts 56 = .ok (.isub, 1) := by decide +kernel
theorem dX10_acts_57 : decode cX10_acts 57 = .ok (.goto 20, 3) := by decide +kernel
theorem dX10_acts_60 : decode cX10_acts 60 = .ok (.iload_n 1, 1) := by decide +kernel
theorem dX10_acts_61 : decode cX10_acts 61 = .ok (.iconst 3, 1) := by decide +kernel
theorem dX10_acts_62 : decode cX10_acts 62 = .ok (.if_icmp .ne 10, 3) := by decide +kernel
theorem dX10_acts_65 : decode cX10_acts 65 = .ok (.aload_n 0, 1) := by decide +kernel
theorem dX10_acts_66 : decode cX10_acts 66 = .ok (.getfield 164, 3) := by decide +kernel
theorem dX10_acts_69 : decode cX10_acts 69 = .ok (.goto 8, 3) := by decide +kernel
theorem dX10_acts_72 : decode cX10_acts 72 = .ok (.aload_n 0, 1) := by decide +kernel
theorem dX10_acts_73 : decode cX10_acts 73 = .ok (.getfield 158, 3) := by decide +kernel
theorem dX10_acts_76 : decode cX10_acts 76 = .ok (.ineg, 1) := by decide +kernel
theorem dX10_acts_77 : decode cX10_acts 77 = .ok (.istore_n 3, 1) := by decide +kernel
theorem dX10_acts_78 : decode cX10_acts 78 = .ok (.iconst 1, 1) := by decide +kernel
theorem dX10_acts_79 : decode cX10_acts 79 = .ok (.istore 4, 2) := by decide +kernel
theorem dX10_acts_81 : decode cX10_acts 81 = .ok (.iconst 0, 1) := by decide +kernel
theorem dX10_acts_82 : decode cX10_acts 82 = .ok (.istore 5, 2) := by decide +kernel
theorem dX10_acts_84 : decode cX10_acts 84 = .ok (.iload 5, 2) := by decide +kernel
theorem dX10_acts_86 : decode cX10_acts 86 = .ok (.iload_n 3, 1) := by decide +kernel
theorem dX10_acts_87 : decode cX10_acts 87 = .ok (.if_icmp .ge 16, 3) := by decide +kernel
theorem dX10_acts_90 : decode cX10_acts 90 = .ok (.aload_n 0, 1) := by decide +kernel
theorem dX10_acts_91 : decode cX10_acts 91 = .ok (.iload_n 2, 1) := by decide +kernel
theorem dX10_acts_92 : decode cX10_acts 92 = .ok (.invokevirtual 179, 3) := by decide +kernel
theorem dX10_acts_95 : decode cX10_acts 95 = .ok (.istore 4, 2) := by decide +kernel
theorem dX10_acts_97 : decode cX10_acts 97 = .ok (.iinc 5 1, 3) := by decide +kernel
theorem dX10_acts_100 : decode cX10_acts 100 = .ok (.goto (-16), 3) := by decide +kernel
theorem dX10_acts_103 : decode cX10_acts 103 = .ok (.iconst 0, 1) := by decide +kernel
theorem dX10_acts_104 : decode cX10_acts 104 = .ok (.istore 5, 2) := by decide +kernel
theorem dX10_acts_106 : decode cX10_acts 106 = .ok (.iload 5, 2) := by decide +kernel
theorem dX10_acts_108 : decode cX10_acts 108 = .ok (.iload_n 3, 1) := by decide +kernel
theorem dX10_acts_109 : decode cX10_acts 109 = .ok (.ineg, 1) := by decide +kernel
theorem dX10_acts_110 : decode cX10_acts 110 = .ok (.if_icmp .ge 16, 3) := by decide +kernel
theorem dX10_acts_113 : decode cX10_acts 113 = .ok (.aload_n 0, 1) := by decide +kernel
theorem dX10_acts_114 : decode cX10_acts 114 = .ok (.iload_n 2, 1) := by decide +kernel
theorem dX10_acts_115 : decode cX10_acts 115 = .ok (.invokevirtual 182, 3) := by decide +kernel
theorem dX10_acts_118 : decode cX10_acts 118 = .ok (.istore 4, 2) := by decide +kernel
theorem dX10_acts_120 : decode cX10_acts 120 = .ok (.iinc 5 1, 3) := by decide +kernel
theorem dX10_acts_123 : decode cX10_acts 123 = .ok (.goto (-17), 3) := by decide +kernel
theorem dX10_acts_126 : decode cX10_acts 126 = .ok (.iload 4, 2) := by decide +kernel
theorem dX10_acts_128 : decode cX10_acts 128 = .ok (.ifCond .ne 7, 3) := by decide +kernel
theorem dX10_acts_131 : decode cX10_acts 131 = .ok (.iload_n 3, 1) := by decide +kernel
theorem dX10_acts_132 : decode cX10_acts 132 = .ok (.ifCond .ne 7, 3) := by decide +kernel
theorem dX10_acts_135 : decode cX10_acts 135 = .ok (.iconst 1, 1) := by decide +kernel
theorem dX10_acts_136 : decode cX10_acts 136 = .ok (.goto 4, 3) := by decide +kernel
theorem dX10_acts_139 : decode cX10_acts 139 = .ok (.iconst 0, 1) := by decide +kernel
theorem dX10_acts_140 : decode cX10_acts 140 = .ok (.ireturn, 1) := by decide +kernel
theorem dX10_act_0 : decode cX10_act 0 = .ok (.iload_n 1, 1) := by decide +kernel
theorem dX10_act_1 : decode cX10_act 1 = .ok (.invokestatic 114, 3) := by decide +kernel
theorem dX10_act_4 : decode cX10_act 4 = .ok (.ifCond .eq 33, 3) := by decide +kernel
theorem dX10_act_7 : decode cX10_act 7 = .ok (.iload_n 2, 1) := by decide +kernel
theorem dX10_act_8 : decode cX10_act 8 = .ok (.iconst 0, 1) := by decide +kernel
theorem dX10_act_9 : decode cX10_act 9 = .ok (.iconst 5, 1) := by decide +kernel
theorem dX10_act_10 : decode cX10_act 10 = .ok (.invokestatic 104, 3) := by decide +kernel
theorem dX10_act_13 : decode cX10_act 13 = .ok (.ifCond .eq 24, 3) := by decide +kernel
theorem dX10_act_16 : decode cX10_act 16 = .ok (.iload_n 2, 1) := by decide +kernel
theorem dX10_act_17 : decode cX10_act 17 = .ok (.iconst 5, 1) := by decide +kernel
theorem dX10_act_18 : decode cX10_act 18 = .ok (.if_icmp .ge 11, 3) := by decide +kernel
theorem dX10_act_21 : decode cX10_act 21 = .ok (.aload_n 0, 1) := by decide +kernel
theorem dX10_act_22 : decode cX10_act 22 = .ok (.iload_n 3, 1) := by decide +kernel
theorem dX10_act_23 : decode cX10_act 23 = .ok (.invokevirtual 173, 3) := by decide +kernel
theorem dX10_act_26 : decode cX10_act 26 = .ok (.ifCond .eq 11, 3) := by decide +kernel
theorem dX10_act_29 : decode cX10_act 29 = .ok (.iload 4, 2) := by decide +kernel
theorem dX10_act_31 : decode cX10_act 31 = .ok (.invokestatic 114, 3) := by decide +kernel
theorem dX10_act_34 : decode cX10_act 34 = .ok (.ifCond .ne 5, 3) := by decide +kernel
theorem dX10_act_37 : decode cX10_act 37 = .ok (.iconst (-1), 1) := by decide +kernel
theorem dX10_act_38 : decode cX10_act 38 = .ok (.ireturn, 1) := by decide +kernel
theorem dX10_act_39 : decode cX10_act 39 = .ok (.aload_n 0, 1) := by decide +kernel
theorem dX10_act_40 : decode cX10_act 40 = .ok (.getfield 16, 3) := by decide +kernel
theorem dX10_act_43 : decode cX10_act 43 = .ok (.iload_n 1, 1) := by decide +kernel
theorem dX10_act_44 : decode cX10_act 44 = .ok (.iaload, 1) := by decide +kernel
theorem dX10_act_45 : decode cX10_act 45 = .ok (.ifCond .ne 6, 3) := by decide +kernel
theorem dX10_act_48 : decode cX10_act 48 = .ok (.bipush (-11), 2) := by decide +kernel
theorem dX10_act_50 : decode cX10_act 50 = .ok (.ireturn, 1) := by decide +kernel
theorem dX10_act_51 : decode cX10_act 51 = .ok (.aload_n 0, 1) := by decide +kernel
theorem dX10_act_52 : decode cX10_act 52 = .ok (.iload_n 1, 1) := by decide +kernel
theorem dX10_act_53 : decode cX10_act 53 = .ok (.invokevirtual 146, 3) := by decide +kernel
theorem dX10_act_56 : decode cX10_act 56 = .ok (.aload_n 0, 1) := by decide +kernel
theorem dX10_act_57 : decode cX10_act 57 = .ok (.invokevirtual 149, 3) := by decide +kernel
theorem dX10_act_60 : decode cX10_act 60 = .ok (.istore 5, 2) := by decide +kernel
theorem dX10_act_62 : decode cX10_act 62 = .ok (.aload_n 0, 1) := by decide +kernel
theorem dX10_act_63 : decode cX10_act 63 = .ok (.iload_n 2, 1) := by decide +kernel
theorem dX10_act_64 : decode cX10_act 64 = .ok (.iload_n 3, 1) := by decide +kernel
theorem dX10_act_65 : decode cX10_act 65 = .ok (.invokevirtual 188, 3) := by decide +kernel
theorem dX10_act_68 : decode cX10_act 68 = .ok (.ifCond .ne 6, 3) := by decide +kernel
theorem dX10_act_71 : decode cX10_act 71 = .ok (.bipush (-3), 2) := by decide +kernel
theorem dX10_act_73 : decode cX10_act 73 = .ok (.ireturn, 1) := by decide +kernel
theorem dX10_act_74 : decode cX10_act 74 = .ok (.aload_n 0, 1) := by decide +kernel
theorem dX10_act_75 : decode cX10_act 75 = .ok (.iload 4, 2) := by decide +kernel
theorem dX10_act_77 : decode cX10_act 77 = .ok (.invokevirtual 121, 3) := by decide +kernel
theorem dX10_act_80 : decode cX10_act 80 = .ok (.aload_n 0, 1) := by decide +kernel
theorem dX10_act_81 : decode cX10_act 81 = .ok (.invokevirtual 149, 3) := by decide +kernel
theorem dX10_act_84 : decode cX10_act 84 = .ok (.iload 5, 2) := by decide +kernel
theorem dX10_act_86 : decode cX10_act 86 = .ok (.if_icmp .ne 7, 3) := by decide +kernel
theorem dX10_act_89 : decode cX10_act 89 = .ok (.iconst 0, 1) := by decide +kernel
theorem dX10_act_90 : decode cX10_act 90 = .ok (.goto 4, 3) := by decide +kernel
theorem dX10_act_93 : decode cX10_act 93 = .ok (.iconst 1, 1) := by decide +kernel
theorem dX10_act_94 : decode cX10_act 94 = .ok (.ireturn, 1) := by decide +kernel
theorem dX10_name_0 : decode cX10_name 0 = .ok (.lconst 0, 1) := by decide +kernel
theorem dX10_name_1 : decode cX10_name 1 = .ok (.lstore_n 1, 1) := by decide +kernel
theorem dX10_name_2 : decode cX10_name 2 = .ok (.aload_n 0, 1) := by decide +kernel
theorem dX10_name_3 : decode cX10_name 3 = .ok (.iconst 0, 1) := by decide +kernel
theorem dX10_name_4 : decode cX10_name 4 = .ok (.putfield 192, 3) := by decide +kernel
theorem dX10_name_7 : decode cX10_name 7 = .ok (.aload_n 0, 1) := by decide +kernel
theorem dX10_name_8 : decode cX10_name 8 = .ok (.getfield 130, 3) := by decide +kernel
theorem dX10_name_11 : decode cX10_name 11 = .ok (.aload_n 0, 1) := by decide +kernel
theorem dX10_name_12 : decode cX10_name 12 = .ok (.getfield 192, 3) := by decide +kernel
theorem dX10_name_15 : decode cX10_name 15 = .ok (.iadd, 1) := by decide +kernel
theorem dX10_name_16 : decode cX10_name 16 = .ok (.aload_n 0, 1) := by decide +kernel
theorem dX10_name_17 : decode cX10_name 17 = .ok (.getfield 125, 3) := by decide +kernel
theorem dX10_name_20 : decode cX10_name 20 = .ok (.if_icmp .ge 81, 3) := by decide +kernel
theorem dX10_name_23 : decode cX10_name 23 = .ok (.aload_n 0, 1) := by decide +kernel
theorem dX10_name_24 : decode cX10_name 24 = .ok (.getfield 56, 3) := by decide +kernel
theorem dX10_name_27 : decode cX10_name 27 = .ok (.aload_n 0, 1) := by decide +kernel
theorem dX10_name_28 : decode cX10_name 28 = .ok (.getfield 130, 3) := by decide +kernel
theorem dX10_name_31 : decode cX10_name 31 = .ok (.aload_n 0, 1) := by decide +kernel
theorem dX10_name_32 : decode cX10_name 32 = .ok (.getfield 192, 3) := by decide +kernel
theorem dX10_name_35 : decode cX10_name 35 = .ok (.iadd, 1) := by decide +kernel
theorem dX10_name_36 : decode cX10_name 36 = .ok (.iaload, 1) := by decide +kernel
theorem dX10_name_37 : decode cX10_name 37 = .ok (.bipush 97, 2) := by decide +kernel
theorem dX10_name_39 : decode cX10_name 39 = .ok (.bipush 122, 2) := by decide +kernel
theorem dX10_name_41 : decode cX10_name 41 = .ok (.invokestatic 104, 3) := by decide +kernel
theorem dX10_name_44 : decode cX10_name 44 = .ok (.ifCond .eq 57, 3) := by decide +kernel
theorem dX10_name_47 : decode cX10_name 47 = .ok (.aload_n 0, 1) := by decide +kernel
theorem dX10_name_48 : decode cX10_name 48 = .ok (.getfield 192, 3) := by decide +kernel
theorem dX10_name_51 : decode cX10_name 51 = .ok (.bipush 6, 2) := by decide +kernel
theorem dX10_name_53 : decode cX10_name 53 = .ok (.if_icmp .le 9, 3) := by decide +kernel
theorem dX10_name_56 : decode cX10_name 56 = .ok (.ldc2_w 195, 3) := by decide +kernel
theorem dX10_name_59 : decode cX10_name 59 = .ok (.goto 28, 3) := by decide +kernel
theorem dX10_name_62 : decode cX10_name 62 = .ok (.ldc2_w 197, 3) := by decide +kernel
theorem dX10_name_65 : decode cX10_name 65 = .ok (.lload_n 1, 1) := by decide +kernel
theorem dX10_name_66 : decode cX10_name 66 = .ok (.lmul, 1) := by decide +kernel
theorem dX10_name_67 : decode cX10_name 67 = .ok (.aload_n 0, 1) := by decide +kernel
theorem dX10_name_68 : decode cX10_name 68 = .ok (.getfield 56, 3) := by decide +kernel
theorem dX10_name_71 : decode cX10_name 71 = .ok (.aload_n 0, 1) := by decide +kernel
theorem dX10_name_72 : decode cX10_name 72 = .ok (.getfield 130, 3) := by decide +kernel
theorem dX10_name_75 : decode cX10_name 75 = .ok (.aload_n 0, 1) := by decide +kernel
theorem dX10_name_76 : decode cX10_name 76 = .ok (.getfield 192, 3) := by decide +kernel
theorem dX10_name_79 : decode cX10_name 79 = .ok (.iadd, 1) := by decide +kernel
theorem dX10_name_80 : decode cX10_name 80 = .ok (.iaload, 1) := by decide +kernel
theorem dX10_name_81 : decode cX10_name 81 = .ok (.i2l, 1) := by decide +kernel
theorem dX10_name_82 : decode cX10_name 82 = .ok (.ladd, 1) := by decide +kernel
theorem dX10_name_83 : decode cX10_name 83 = .ok (.ldc2_w 199, 3) := by decide +kernel
theorem dX10_name_86 : decode cX10_name 86 = .ok (.lsub, 1) := by decide +kernel
theorem dX10_name_87 : decode cX10_name 87 = .ok (.lstore_n 1, 1) := by decide +kernel
theorem dX10_name_88 : decode cX10_name 88 = .ok (.aload_n 0, 1) := by decide +kernel
theorem dX10_name_89 : decode cX10_name 89 = .ok (.dup, 1) := by decide +kernel
theorem dX10_name_90 : decode cX10_name 90 = .ok (.getfield 192, 3) := by decide +kernel
theorem dX10_name_93 : decode cX10_name 93 = .ok (.iconst 1, 1) := by decide +kernel
theorem dX10_name_94 : decode cX10_name 94 = .ok (.iadd, 1) := by decide +kernel
theorem dX10_name_95 : decode cX10_name 95 = .ok (.putfield 192, 3) := by decide +kernel
theorem dX10_name_98 : decode cX10_name 98 = .ok (.goto (-91), 3) := by decide +kernel
theorem dX10_name_101 : decode cX10_name 101 = .ok (.lload_n 1, 1) := by decide +kernel
theorem dX10_name_102 : decode cX10_name 102 = .ok (.lreturn, 1) := by decide +kernel
theorem dX10_actOf_0 : decode cX10_actOf 0 = .ok (.lload_n 0, 1) := by decide +kernel
theorem dX10_actOf_1 : decode cX10_actOf 1 = .ok (.ldc2_w 201, 3) := by decide +kernel
theorem dX10_actOf_4 : decode cX10_actOf 4 = .ok (.lcmp, 1) := by decide +kernel
theorem dX10_actOf_5 : decode cX10_actOf 5 = .ok (.ifCond .eq 11, 3) := by decide +kernel
theorem dX10_actOf_8 : decode cX10_actOf 8 = .ok (.lload_n 0, 1) := by decide +kernel
theorem dX10_actOf_9 : decode cX10_actOf 9 = .ok (.ldc2_w 203, 3) := by decide +kernel
theorem dX10_actOf_12 : decode cX10_actOf 12 = .ok (.lcmp, 1) := by decide +kernel
theorem dX10_actOf_13 : decode cX10_actOf 13 = .ok (.ifCond .ne 17, 3) := by decide +kernel
theorem dX10_actOf_16 : decode cX10_actOf 16 = .ok (.lload_n 0, 1) := by decide +kernel
theorem dX10_actOf_17 : decode cX10_actOf 17 = .ok (.ldc2_w 201, 3) := by decide +kernel
theorem dX10_actOf_20 : decode cX10_actOf 20 = .ok (.lcmp, 1) := by decide +kernel
theorem dX10_actOf_21 : decode cX10_actOf 21 = .ok (.ifCond .ne 7, 3) := by decide +kernel
theorem dX10_actOf_24 : decode cX10_actOf 24 = .ok (.iconst 0, 1) := by decide +kernel
theorem dX10_actOf_25 : decode cX10_actOf 25 = .ok (.goto 4, 3) := by decide +kernel
theorem dX10_actOf_28 : decode cX10_actOf 28 = .ok (.iconst 1, 1) := by decide +kernel
theorem dX10_actOf_29 : decode cX10_actOf 29 = .ok (.ireturn, 1) := by decide +kernel
theorem dX10_actOf_30 : decode cX10_actOf 30 = .ok (.lload_n 0, 1) := by decide +kernel
theorem dX10_actOf_31 : decode cX10_actOf 31 = .ok (.ldc2_w 205, 3) := by decide +kernel
theorem dX10_actOf_34 : decode cX10_actOf 34 = .ok (.lcmp, 1) := by decide +kernel
theorem dX10_actOf_35 : decode cX10_actOf 35 = .ok (.ifCond .eq 11, 3) := by decide +kernel
theorem dX10_actOf_38 : decode cX10_actOf 38 = .ok (.lload_n 0, 1) := by decide +kernel
theorem dX10_actOf_39 : decode cX10_actOf 39 = .ok (.ldc2_w 207, 3) := by decide +kernel
theorem dX10_actOf_42 : decode cX10_actOf 42 = .ok (.lcmp, 1) := by decide +kernel
theorem dX10_actOf_43 : decode cX10_actOf 43 = .ok (.ifCond .ne 17, 3) := by decide +kernel
theorem dX10_actOf_46 : decode cX10_actOf 46 = .ok (.lload_n 0, 1) := by decide +kernel
theorem dX10_actOf_47 : decode cX10_actOf 47 = .ok (.ldc2_w 205, 3) := by decide +kernel
theorem dX10_actOf_50 : decode cX10_actOf 50 = .ok (.lcmp, 1) := by decide +kernel
theorem dX10_actOf_51 : decode cX10_actOf 51 = .ok (.ifCond .ne 7, 3) := by decide +kernel
theorem dX10_actOf_54 : decode cX10_actOf 54 = .ok (.iconst 2, 1) := by decide +kernel
theorem dX10_actOf_55 : decode cX10_actOf 55 = .ok (.goto 4, 3) := by decide +kernel
theorem dX10_actOf_58 : decode cX10_actOf 58 = .ok (.iconst 3, 1) := by decide +kernel
theorem dX10_actOf_59 : decode cX10_actOf 59 = .ok (.ireturn, 1) := by decide +kernel
theorem dX10_actOf_60 : decode cX10_actOf 60 = .ok (.lload_n 0, 1) := by decide +kernel
theorem dX10_actOf_61 : decode cX10_actOf 61 = .ok (.ldc2_w 209, 3) := by decide +kernel
theorem dX10_actOf_64 : decode cX10_actOf 64 = .ok (.lcmp, 1) := by decide +kernel
theorem dX10_actOf_65 : decode cX10_actOf 65 = .ok (.ifCond .ne 7, 3) := by decide +kernel
theorem dX10_actOf_68 : decode cX10_actOf 68 = .ok (.iconst 4, 1) := by decide +kernel
theorem dX10_actOf_69 : decode cX10_actOf 69 = .ok (.goto 16, 3) := by decide +kernel
theorem dX10_actOf_72 : decode cX10_actOf 72 = .ok (.lload_n 0, 1) := by decide +kernel
theorem dX10_actOf_73 : decode cX10_actOf 73 = .ok (.ldc2_w 211, 3) := by decide +kernel
theorem dX10_actOf_76 : decode cX10_actOf 76 = .ok (.lcmp, 1) := by decide +kernel
theorem dX10_actOf_77 : decode cX10_actOf 77 = .ok (.ifCond .ne 7, 3) := by decide +kernel
theorem dX10_actOf_80 : decode cX10_actOf 80 = .ok (.iconst 5, 1) := by decide +kernel
theorem dX10_actOf_81 : decode cX10_actOf 81 = .ok (.goto 4, 3) := by decide +kernel
theorem dX10_actOf_84 : decode cX10_actOf 84 = .ok (.iconst (-1), 1) := by decide +kernel
theorem dX10_actOf_85 : decode cX10_actOf 85 = .ok (.ireturn, 1) := by decide +kernel
theorem dX10_readsActs_0 : decode cX10_readsActs 0 = .ok (.aload_n 0, 1) := by decide +kernel
theorem dX10_readsActs_1 : decode cX10_readsActs 1 = .ok (.iconst 0, 1) := by decide +kernel
theorem dX10_readsActs_2 : decode cX10_readsActs 2 = .ok (.putfield 130, 3) := by decide +kernel
theorem dX10_readsActs_5 : decode cX10_readsActs 5 = .ok (.iconst 0, 1) := by decide +kernel
theorem dX10_readsActs_6 : decode cX10_readsActs 6 = .ok (.istore_n 1, 1) := by decide +kernel
theorem dX10_readsActs_7 : decode cX10_readsActs 7 = .ok (.aload_n 0, 1) := by decide +kernel
theorem dX10_readsActs_8 : decode cX10_readsActs 8 = .ok (.invokevirtual 133, 3) := by decide +kernel
theorem dX10_readsActs_11 : decode cX10_readsActs 11 = .ok (.ifCond .lt 125, 3) := by decide +kernel
theorem dX10_readsActs_14 : decode cX10_readsActs 14 = .ok (.aload_n 0, 1) := by decide +kernel
theorem dX10_readsActs_15 : decode cX10_readsActs 15 = .ok (.invokevirtual 213, 3) := by decide +kernel
theorem dX10_readsActs_18 : decode cX10_readsActs 18 = .ok (.invokestatic 217, 3) := by decide +kernel
theorem dX10_readsActs_21 : decode cX10_readsActs 21 = .ok (.istore_n 2, 1) := by decide +kernel
theorem dX10_readsActs_22 : decode cX10_readsActs 22 = .ok (.iload_n 2, 1) := by decide +kernel
theorem dX10_readsActs_23 : decode cX10_readsActs 23 = .ok (.ifCond .ge 8, 3) := by decide +kernel
theorem dX10_readsActs_26 : decode cX10_readsActs 26 = .ok (.aload_n 0, 1) := by decide +kernel
theorem dX10_readsActs_27 : decode cX10_readsActs 27 = .ok (.invokevirtual 140, 3) := by decide +kernel
theorem dX10_readsActs_30 : decode cX10_readsActs 30 = .ok (.ireturn, 1) := by decide +kernel
theorem dX10_readsActs_31 : decode cX10_readsActs 31 = .ok (.aload_n 0, 1) := by decide +kernel
theorem dX10_readsActs_32 : decode cX10_readsActs 32 = .ok (.dup, 1) := by decide +kernel
theorem dX10_readsActs_33 : decode cX10_readsActs 33 = .ok (.getfield 130, 3) := by decide +kernel
theorem dX10_readsActs_36 : decode cX10_readsActs 36 = .ok (.aload_n 0, 1) := by decide +kernel
theorem dX10_readsActs_37 : decode cX10_readsActs 37 = .ok (.getfield 192, 3) := by decide +kernel
theorem dX10_readsActs_40 : decode cX10_readsActs 40 = .ok (.iadd, 1) := by decide +kernel
theorem dX10_readsActs_41 : decode cX10_readsActs 41 = .ok (.putfield 130, 3) := by decide +kernel
theorem dX10_readsActs_44 : decode cX10_readsActs 44 = .ok (.aload_n 0, 1) := by decide +kernel
theorem dX10_readsActs_45 : decode cX10_readsActs 45 = .ok (.getfield 65, 3) := by decide +kernel
theorem dX10_readsActs_48 : decode cX10_readsActs 48 = .ok (.iload_n 1, 1) := by decide +kernel
theorem dX10_readsActs_49 : decode cX10_readsActs 49 = .ok (.iload_n 2, 1) := by decide +kernel
theorem dX10_readsActs_50 : decode cX10_readsActs 50 = .ok (.iastore, 1) := by decide +kernel
theorem dX10_readsActs_51 : decode cX10_readsActs 51 = .ok (.aload_n 0, 1) := by decide +kernel
theorem dX10_readsActs_52 : decode cX10_readsActs 52 = .ok (.getfield 68, 3) := by decide +kernel
theorem dX10_readsActs_55 : decode cX10_readsActs 55 = .ok (.iload_n 1, 1) := by decide +kernel
theorem dX10_readsActs_56 : decode cX10_readsActs 56 = .ok (.aload_n 0, 1) := by decide +kernel
theorem dX10_readsActs_57 : decode cX10_readsActs 57 = .ok (.invokevirtual 133, 3) := by decide +kernel
theorem dX10_readsActs_60 : decode cX10_readsActs 60 = .ok (.bipush 48, 2) := by decide +kernel
theorem dX10_readsActs_62 : decode cX10_readsActs 62 = .ok (.isub, 1) := by decide +kernel
theorem dX10_readsActs_63 : decode cX10_readsActs 63 = .ok (.iastore, 1) := by decide +kernel
theorem dX10_readsActs_64 : decode cX10_readsActs 64 = .ok (.iload_n 2, 1) := by decide +kernel
theorem dX10_readsActs_65 : decode cX10_readsActs 65 = .ok (.iconst 5, 1) := by decide +kernel
theorem dX10_readsActs_66 : decode cX10_readsActs 66 = .ok (.if_icmp .ge 21, 3) := by decide +kernel
theorem dX10_readsActs_69 : decode cX10_readsActs 69 = .ok (.aload_n 0, 1) := by decide +kernel
theorem dX10_readsActs_70 : decode cX10_readsActs 70 = .ok (.aload_n 0, 1) := by decide +kernel
theorem dX10_readsActs_71 : decode cX10_readsActs 71 = .ok (.getfield 68, 3) := by decide +kernel
theorem dX10_readsActs_74 : decode cX10_readsActs 74 = .ok (.iload_n 1, 1) := by decide +kernel
theorem dX10_readsActs_75 : decode cX10_readsActs 75 = .ok (.iaload, 1) := by decide +kernel
theorem dX10_readsActs_76 : decode cX10_readsActs 76 = .ok (.invokevirtual 173, 3) := by decide +kernel
theorem dX10_readsActs_79 : decode cX10_readsActs 79 = .ok (.ifCond .ne 8, 3) := by decide +kernel
theorem dX10_readsActs_82 : decode cX10_readsActs 82 = .ok (.aload_n 0, 1) := by decide +kernel
theorem dX10_readsActs_83 : decode cX10_readsActs 83 = .ok (.invokevirtual 140, 3) := by decide +kernel
theorem dX10_readsActs_86 : decode cX10_readsActs 86 = .ok (.ireturn, 1) := by decide +kernel
theorem dX10_readsActs_87 : decode cX10_readsActs 87 = .ok (.aload_n 0, 1) := by decide +kernel
theorem dX10_readsActs_88 : decode cX10_readsActs 88 = .ok (.dup, 1) := by decide +kernel
theorem dX10_readsActs_89 : decode cX10_readsActs 89 = .ok (.getfield 130, 3) := by decide +kernel
theorem dX10_readsActs_92 : decode cX10_readsActs 92 = .ok (.iload_n 2, 1) := by decide +kernel
theorem dX10_readsActs_93 : decode cX10_readsActs 93 = .ok (.iconst 5, 1) := by decide +kernel
theorem dX10_readsActs_94 : decode cX10_readsActs 94 = .ok (.if_icmp .ge 7, 3) := by decide +kernel
theorem dX10_readsActs_97 : decode cX10_readsActs 97 = .ok (.iconst 1, 1) := by decide +kernel
theorem dX10_readsActs_98 : decode cX10_readsActs 98 = .ok (.goto 4, 3) := by decide +kernel
theorem dX10_readsActs_101 : decode cX10_readsActs 101 = .ok (.iconst 0, 1) := by decide +kernel
theorem dX10_readsActs_102 : decode cX10_readsActs 102 = .ok (.iadd, 1) := by decide +kernel
theorem dX10_readsActs_103 : decode cX10_readsActs 103 = .ok (.putfield 130, 3) := by decide +kernel
theorem dX10_readsActs_106 : decode cX10_readsActs 106 = .ok (.aload_n 0, 1) := by decide +kernel
theorem dX10_readsActs_107 : decode cX10_readsActs 107 = .ok (.invokevirtual 133, 3) := by decide +kernel
theorem dX10_readsActs_110 : decode cX10_readsActs 110 = .ok (.bipush 59, 2) := by decide +kernel
theorem dX10_readsActs_112 : decode cX10_readsActs 112 = .ok (.if_icmp .eq 8, 3) := by decide +kernel
theorem dX10_readsActs_115 : decode cX10_readsActs 115 = .ok (.aload_n 0, 1) := by decide +kernel
theorem dX10_readsActs_116 : decode cX10_readsActs 116 = .ok (.invokevirtual 140, 3) := by decide +kernel
theorem dX10_readsActs_119 : decode cX10_readsActs 119 = .ok (.ireturn, 1) := by decide +kernel
theorem dX10_readsActs_120 : decode cX10_readsActs 120 = .ok (.aload_n 0, 1) := by decide +kernel
theorem dX10_readsActs_121 : decode cX10_readsActs 121 = .ok (.dup, 1) := by decide +kernel
theorem dX10_readsActs_122 : decode cX10_readsActs 122 = .ok (.getfield 130, 3) := by decide +kernel
theorem dX10_readsActs_125 : decode cX10_readsActs 125 = .ok (.iconst 1, 1) := by decide +kernel
theorem dX10_readsActs_126 : decode cX10_readsActs 126 = .ok (.iadd, 1) := by decide +kernel
theorem dX10_readsActs_127 : decode cX10_readsActs 127 = .ok (.putfield 130, 3) := by decide +kernel
theorem dX10_readsActs_130 : decode cX10_readsActs 130 = .ok (.iinc 1 1, 3) := by decide +kernel
theorem dX10_readsActs_133 : decode cX10_readsActs 133 = .ok (.goto (-126), 3) := by decide +kernel
theorem dX10_readsActs_136 : decode cX10_readsActs 136 = .ok (.aload_n 0, 1) := by decide +kernel
theorem dX10_readsActs_137 : decode cX10_readsActs 137 = .ok (.iconst 0, 1) := by decide +kernel
theorem dX10_readsActs_138 : decode cX10_readsActs 138 = .ok (.putfield 125, 3) := by decide +kernel
theorem dX10_readsActs_141 : decode cX10_readsActs 141 = .ok (.iload_n 1, 1) := by decide +kernel
theorem dX10_readsActs_142 : decode cX10_readsActs 142 = .ok (.ireturn, 1) := by decide +kernel
theorem dX10_acts__0 : decode cX10_acts_ 0 = .ok (.iload_n 1, 1) := by decide +kernel
theorem dX10_acts__1 : decode cX10_acts_ 1 = .ok (.invokestatic 114, 3) := by decide +kernel
theorem dX10_acts__4 : decode cX10_acts_ 4 = .ok (.ifCond .ne 5, 3) := by decide +kernel
theorem dX10_acts__7 : decode cX10_acts_ 7 = .ok (.iconst (-1), 1) := by decide +kernel
theorem dX10_acts__8 : decode cX10_acts_ 8 = .ok (.ireturn, 1) := by decide +kernel
theorem dX10_acts__9 : decode cX10_acts_ 9 = .ok (.aload_n 0, 1) := by decide +kernel
theorem dX10_acts__10 : decode cX10_acts_ 10 = .ok (.getfield 16, 3) := by decide +kernel
theorem dX10_acts__13 : decode cX10_acts_ 13 = .ok (.iload_n 1, 1) := by decide +kernel
theorem dX10_acts__14 : decode cX10_acts_ 14 = .ok (.iaload, 1) := by decide +kernel
theorem dX10_acts__15 : decode cX10_acts_ 15 = .ok (.ifCond .ne 6, 3) := by decide +kernel
theorem dX10_acts__18 : decode cX10_acts_ 18 = .ok (.bipush (-11), 2) := by decide +kernel
theorem dX10_acts__20 : decode cX10_acts_ 20 = .ok (.ireturn, 1) := by decide +kernel
theorem dX10_acts__21 : decode cX10_acts_ 21 = .ok (.aload_n 0, 1) := by decide +kernel
theorem dX10_acts__22 : decode cX10_acts_ 22 = .ok (.invokevirtual 221, 3) := by decide +kernel
theorem dX10_acts__25 : decode cX10_acts_ 25 = .ok (.istore_n 2, 1) := by decide +kernel
theorem dX10_acts__26 : decode cX10_acts_ 26 = .ok (.iload_n 2, 1) := by decide +kernel
theorem dX10_acts__27 : decode cX10_acts_ 27 = .ok (.ifCond .ge 5, 3) := by decide +kernel
theorem dX10_acts__30 : decode cX10_acts_ 30 = .ok (.iload_n 2, 1) := by decide +kernel
theorem dX10_acts__31 : decode cX10_acts_ 31 = .ok (.ireturn, 1) := by decide +kernel
theorem dX10_acts__32 : decode cX10_acts_ 32 = .ok (.iconst 0, 1) := by decide +kernel
theorem dX10_acts__33 : decode cX10_acts_ 33 = .ok (.istore_n 3, 1) := by decide +kernel
theorem dX10_acts__34 : decode cX10_acts_ 34 = .ok (.aload_n 0, 1) := by decide +kernel
theorem dX10_acts__35 : decode cX10_acts_ 35 = .ok (.iload_n 1, 1) := by decide +kernel
theorem dX10_acts__36 : decode cX10_acts_ 36 = .ok (.invokevirtual 146, 3) := by decide +kernel
theorem dX10_acts__39 : decode cX10_acts_ 39 = .ok (.iconst 0, 1) := by decide +kernel
theorem dX10_acts__40 : decode cX10_acts_ 40 = .ok (.istore 4, 2) := by decide +kernel
theorem dX10_acts__42 : decode cX10_acts_ 42 = .ok (.iload 4, 2) := by decide +kernel
theorem dX10_acts__44 : decode cX10_acts_ 44 = .ok (.iload_n 2, 1) := by decide +kernel
theorem dX10_acts__45 : decode cX10_acts_ 45 = .ok (.if_icmp .ge 53, 3) := by decide +kernel
theorem dX10_acts__48 : decode cX10_acts_ 48 = .ok (.aload_n 0, 1) := by decide +kernel
theorem dX10_acts__49 : decode cX10_acts_ 49 = .ok (.invokevirtual 149, 3) := by decide +kernel
theorem dX10_acts__52 : decode cX10_acts_ 52 = .ok (.istore 5, 2) := by decide +kernel
theorem dX10_acts__54 : decode cX10_acts_ 54 = .ok (.iload_n 3, 1) := by decide +kernel
theorem dX10_acts__55 : decode cX10_acts_ 55 = .ok (.aload_n 0, 1) := by decide +kernel
theorem dX10_acts__56 : decode cX10_acts_ 56 = .ok (.aload_n 0, 1) := by decide +kernel
theorem dX10_acts__57 : decode cX10_acts_ 57 = .ok (.getfield 65, 3) := by decide +kernel
theorem dX10_acts__60 : decode cX10_acts_ 60 = .ok (.iload 4, 2) := by decide +kernel
theorem dX10_acts__62 : decode cX10_acts_ 62 = .ok (.iaload, 1) := by decide +kernel
theorem dX10_acts__63 : decode cX10_acts_ 63 = .ok (.aload_n 0, 1) := by decide +kernel
theorem dX10_acts__64 : decode cX10_acts_ 64 = .ok (.getfield 68, 3) := by decide +kernel
theorem dX10_acts__67 : decode cX10_acts_ 67 = .ok (.iload 4, 2) := by decide +kernel
theorem dX10_acts__69 : decode cX10_acts_ 69 = .ok (.iaload, 1) := by decide +kernel
theorem dX10_acts__70 : decode cX10_acts_ 70 = .ok (.invokevirtual 188, 3) := by decide +kernel
theorem dX10_acts__73 : decode cX10_acts_ 73 = .ok (.ifCond .eq 16, 3) := by decide +kernel
theorem dX10_acts__76 : decode cX10_acts_ 76 = .ok (.aload_n 0, 1) := by decide +kernel
theorem dX10_acts__77 : decode cX10_acts_ 77 = .ok (.invokevirtual 149, 3) := by decide +kernel
theorem dX10_acts__80 : decode cX10_acts_ 80 = .ok (.iload 5, 2) := by decide +kernel
theorem dX10_acts__82 : decode cX10_acts_ 82 = .ok (.if_icmp .eq 7, 3) := by decide +kernel
theorem dX10_acts__85 : decode cX10_acts_ 85 = .ok (.iconst 1, 1) := by decide +kernel
theorem dX10_acts__86 : decode cX10_acts_ 86 = .ok (.goto 4, 3) := by decide +kernel
theorem dX10_acts__89 : decode cX10_acts_ 89 = .ok (.iconst 0, 1) := by decide +kernel
theorem dX10_acts__90 : decode cX10_acts_ 90 = .ok (.iadd, 1) := by decide +kernel
theorem dX10_acts__91 : decode cX10_acts_ 91 = .ok (.istore_n 3, 1) := by decide +kernel
theorem dX10_acts__92 : decode cX10_acts_ 92 = .ok (.iinc 4 1, 3) := by decide +kernel
theorem dX10_acts__95 : decode cX10_acts_ 95 = .ok (.goto (-53), 3) := by decide +kernel
theorem dX10_acts__98 : decode cX10_acts_ 98 = .ok (.aload_n 0, 1) := by decide +kernel
theorem dX10_acts__99 : decode cX10_acts_ 99 = .ok (.iload_n 1, 1) := by decide +kernel
theorem dX10_acts__100 : decode cX10_acts_ 100 = .ok (.invokevirtual 121, 3) := by decide +kernel
theorem dX10_acts__103 : decode cX10_acts_ 103 = .ok (.iload_n 3, 1) := by decide +kernel
theorem dX10_acts__104 : decode cX10_acts_ 104 = .ok (.ireturn, 1) := by decide +kernel
theorem dX10_highestNow_0 : decode cX10_highestNow 0 = .ok (.iconst 0, 1) := by decide +kernel
theorem dX10_highestNow_1 : decode cX10_highestNow 1 = .ok (.istore_n 1, 1) := by decide +kernel
theorem dX10_highestNow_2 : decode cX10_highestNow 2 = .ok (.iconst 1, 1) := by decide +kernel
theorem dX10_highestNow_3 : decode cX10_highestNow 3 = .ok (.istore_n 2, 1) := by decide +kernel
theorem dX10_highestNow_4 : decode cX10_highestNow 4 = .ok (.iload_n 2, 1) := by decide +kernel
theorem dX10_highestNow_5 : decode cX10_highestNow 5 = .ok (.aload_n 0, 1) := by decide +kernel
theorem dX10_highestNow_6 : decode cX10_highestNow 6 = .ok (.getfield 7, 3) := by decide +kernel
theorem dX10_highestNow_9 : decode cX10_highestNow 9 = .ok (.if_icmp .ge 36, 3) := by decide +kernel
theorem dX10_highestNow_12 : decode cX10_highestNow 12 = .ok (.aload_n 0, 1) := by decide +kernel
theorem dX10_highestNow_13 : decode cX10_highestNow 13 = .ok (.iload_n 2, 1) := by decide +kernel
theorem dX10_highestNow_14 : decode cX10_highestNow 14 = .ok (.invokevirtual 179, 3) := by decide +kernel
theorem dX10_highestNow_17 : decode cX10_highestNow 17 = .ok (.istore_n 3, 1) := by decide +kernel
theorem dX10_highestNow_18 : decode cX10_highestNow 18 = .ok (.iload_n 1, 1) := by decide +kernel
theorem dX10_highestNow_19 : decode cX10_highestNow 19 = .ok (.iload_n 3, 1) := by decide +kernel
theorem dX10_highestNow_20 : decode cX10_highestNow 20 = .ok (.ifCond .eq 7, 3) := by decide +kernel
theorem dX10_highestNow_23 : decode cX10_highestNow 23 = .ok (.iconst 1, 1) := by decide +kernel
theorem dX10_highestNow_24 : decode cX10_highestNow 24 = .ok (.goto 4, 3) := by decide +kernel
theorem dX10_highestNow_27 : decode cX10_highestNow 27 = .ok (.iconst 0, 1) := by decide +kernel
theorem dX10_highestNow_28 : decode cX10_highestNow 28 = .ok (.iadd, 1) := by decide +kernel
theorem dX10_highestNow_29 : decode cX10_highestNow 29 = .ok (.istore_n 1, 1) := by decide +kernel
theorem dX10_highestNow_30 : decode cX10_highestNow 30 = .ok (.iload_n 3, 1) := by decide +kernel
theorem dX10_highestNow_31 : decode cX10_highestNow 31 = .ok (.ifCond .eq 7, 3) := by decide +kernel
theorem dX10_highestNow_34 : decode cX10_highestNow 34 = .ok (.iconst 1, 1) := by decide +kernel
theorem dX10_highestNow_35 : decode cX10_highestNow 35 = .ok (.goto 6, 3) := by decide +kernel
theorem dX10_highestNow_38 : decode cX10_highestNow 38 = .ok (.iload_n 2, 1) := by decide +kernel
theorem dX10_highestNow_39 : decode cX10_highestNow 39 = .ok (.iconst 1, 1) := by decide +kernel
theorem dX10_highestNow_40 : decode cX10_highestNow 40 = .ok (.iadd, 1) := by decide +kernel
theorem dX10_highestNow_41 : decode cX10_highestNow 41 = .ok (.istore_n 2, 1) := by decide +kernel
theorem dX10_highestNow_42 : decode cX10_highestNow 42 = .ok (.goto (-38), 3) := by decide +kernel
theorem dX10_highestNow_45 : decode cX10_highestNow 45 = .ok (.iload_n 1, 1) := by decide +kernel
theorem dX10_highestNow_46 : decode cX10_highestNow 46 = .ok (.ireturn, 1) := by decide +kernel
theorem dX10_highest_0 : decode cX10_highest 0 = .ok (.iload_n 1, 1) := by decide +kernel
theorem dX10_highest_1 : decode cX10_highest 1 = .ok (.invokestatic 114, 3) := by decide +kernel
theorem dX10_highest_4 : decode cX10_highest 4 = .ok (.ifCond .eq 12, 3) := by decide +kernel
theorem dX10_highest_7 : decode cX10_highest 7 = .ok (.iload_n 2, 1) := by decide +kernel
theorem dX10_highest_8 : decode cX10_highest 8 = .ok (.iconst 0, 1) := by decide +kernel
theorem dX10_highest_9 : decode cX10_highest 9 = .ok (.iconst 2, 1) := by decide +kernel
theorem dX10_highest_10 : decode cX10_highest 10 = .ok (.invokestatic 104, 3) := by decide +kernel
theorem dX10_highest_13 : decode cX10_highest 13 = .ok (.ifCond .ne 5, 3) := by decide +kernel
theorem dX10_highest_16 : decode cX10_highest 16 = .ok (.iconst (-1), 1) := by decide +kernel
theorem dX10_highest_17 : decode cX10_highest 17 = .ok (.ireturn, 1) := by decide +kernel
theorem dX10_highest_18 : decode cX10_highest 18 = .ok (.aload_n 0, 1) := by decide +kernel
theorem dX10_highest_19 : decode cX10_highest 19 = .ok (.getfield 16, 3) := by decide +kernel
theorem dX10_highest_22 : decode cX10_highest 22 = .ok (.iload_n 1, 1) := by decide +kernel
theorem dX10_highest_23 : decode cX10_highest 23 = .ok (.iaload, 1) := by decide +kernel
theorem dX10_highest_24 : decode cX10_highest 24 = .ok (.ifCond .ne 6, 3) := by decide +kernel
theorem dX10_highest_27 : decode cX10_highest 27 = .ok (.bipush (-11), 2) := by decide +kernel
theorem dX10_highest_29 : decode cX10_highest 29 = .ok (.ireturn, 1) := by decide +kernel
theorem dX10_highest_30 : decode cX10_highest 30 = .ok (.aload_n 0, 1) := by decide +kernel
theorem dX10_highest_31 : decode cX10_highest 31 = .ok (.iload_n 1, 1) := by decide +kernel
theorem dX10_highest_32 : decode cX10_highest 32 = .ok (.invokevirtual 146, 3) := by decide +kernel
theorem dX10_highest_35 : decode cX10_highest 35 = .ok (.aload_n 0, 1) := by decide +kernel
theorem dX10_highest_36 : decode cX10_highest 36 = .ok (.invokevirtual 224, 3) := by decide +kernel
theorem dX10_highest_39 : decode cX10_highest 39 = .ok (.istore_n 3, 1) := by decide +kernel
theorem dX10_highest_40 : decode cX10_highest 40 = .ok (.iload_n 2, 1) := by decide +kernel
theorem dX10_highest_41 : decode cX10_highest 41 = .ok (.ifCond .ne 7, 3) := by decide +kernel
theorem dX10_highest_44 : decode cX10_highest 44 = .ok (.iload_n 3, 1) := by decide +kernel
theorem dX10_highest_45 : decode cX10_highest 45 = .ok (.goto 19, 3) := by decide +kernel
theorem dX10_highest_48 : decode cX10_highest 48 = .ok (.iload_n 2, 1) := by decide +kernel
theorem dX10_highest_49 : decode cX10_highest 49 = .ok (.iconst 1, 1) := by decide +kernel
theorem dX10_highest_50 : decode cX10_highest 50 = .ok (.if_icmp .ne 10, 3) := by decide +kernel
theorem dX10_highest_53 : decode cX10_highest 53 = .ok (.aload_n 0, 1) := by decide +kernel
theorem dX10_highest_54 : decode cX10_highest 54 = .ok (.invokevirtual 149, 3) := by decide +kernel
theorem dX10_highest_57 : decode cX10_highest 57 = .ok (.goto 7, 3) := by decide +kernel
theorem dX10_highest_60 : decode cX10_highest 60 = .ok (.aload_n 0, 1) := by decide +kernel
theorem dX10_highest_61 : decode cX10_highest 61 = .ok (.invokevirtual 152, 3) := by decide +kernel
theorem dX10_highest_64 : decode cX10_highest 64 = .ok (.ireturn, 1) := by decide +kernel
theorem dX10_code_0 : decode cX10_code 0 = .ok (.iconst 0, 1) := by decide +kernel
theorem dX10_code_1 : decode cX10_code 1 = .ok (.istore_n 1, 1) := by decide +kernel
theorem dX10_code_2 : decode cX10_code 2 = .ok (.iconst 0, 1) := by decide +kernel
theorem dX10_code_3 : decode cX10_code 3 = .ok (.istore_n 2, 1) := by decide +kernel
theorem dX10_code_4 : decode cX10_code 4 = .ok (.iload_n 2, 1) := by decide +kernel
theorem dX10_code_5 : decode cX10_code 5 = .ok (.aload_n 0, 1) := by decide +kernel
theorem dX10_code_6 : decode cX10_code 6 = .ok (.getfield 111, 3) := by decide +kernel
theorem dX10_code_9 : decode cX10_code 9 = .ok (.if_icmp .ge 25, 3) := by decide +kernel
theorem dX10_code_12 : decode cX10_code 12 = .ok (.aload_n 0, 1) := by decide +kernel
theorem dX10_code_13 : decode cX10_code 13 = .ok (.getfield 7, 3) := by decide +kernel
theorem dX10_code_16 : decode cX10_code 16 = .ok (.iload_n 1, 1) := by decide +kernel
theorem dX10_code_17 : decode cX10_code 17 = .ok (.imul, 1) := by decide +kernel
theorem dX10_code_18 : decode cX10_code 18 = .ok (.aload_n 0, 1) := by decide +kernel
theorem dX10_code_19 : decode cX10_code 19 = .ok (.getfield 47, 3) := by decide +kernel
theorem dX10_code_22 : decode cX10_code 22 = .ok (.iload_n 2, 1) := by decide +kernel
theorem dX10_code_23 : decode cX10_code 23 = .ok (.iaload, 1) := by decide +kernel
theorem dX10_code_24 : decode cX10_code 24 = .ok (.iadd, 1) := by decide +kernel
theorem dX10_code_25 : decode cX10_code 25 = .ok (.iconst 1, 1) := by decide +kernel
theorem dX10_code_26 : decode cX10_code 26 = .ok (.isub, 1) := by decide +kernel
theorem dX10_code_27 : decode cX10_code 27 = .ok (.istore_n 1, 1) := by decide +kernel
theorem dX10_code_28 : decode cX10_code 28 = .ok (.iinc 2 1, 3) := by decide +kernel
theorem dX10_code_31 : decode cX10_code 31 = .ok (.goto (-27), 3) := by decide +kernel
theorem dX10_code_34 : decode cX10_code 34 = .ok (.iload_n 1, 1) := by decide +kernel
theorem dX10_code_35 : decode cX10_code 35 = .ok (.ireturn, 1) := by decide +kernel
theorem dX10_decodes_0 : decode cX10_decodes 0 = .ok (.iload_n 1, 1) := by decide +kernel
theorem dX10_decodes_1 : decode cX10_decodes 1 = .ok (.istore_n 2, 1) := by decide +kernel
theorem dX10_decodes_2 : decode cX10_decodes 2 = .ok (.aload_n 0, 1) := by decide +kernel
theorem dX10_decodes_3 : decode cX10_decodes 3 = .ok (.getfield 111, 3) := by decide +kernel
theorem dX10_decodes_6 : decode cX10_decodes 6 = .ok (.iconst 1, 1) := by decide +kernel
theorem dX10_decodes_7 : decode cX10_decodes 7 = .ok (.isub, 1) := by decide +kernel
theorem dX10_decodes_8 : decode cX10_decodes 8 = .ok (.istore_n 3, 1) := by decide +kernel
theorem dX10_decodes_9 : decode cX10_decodes 9 = .ok (.iload_n 3, 1) := by decide +kernel
theorem dX10_decodes_10 : decode cX10_decodes 10 = .ok (.ifCond .lt 30, 3) := by decide +kernel
theorem dX10_decodes_13 : decode cX10_decodes 13 = .ok (.aload_n 0, 1) := by decide +kernel
theorem dX10_decodes_14 : decode cX10_decodes 14 = .ok (.getfield 47, 3) := by decide +kernel
theorem dX10_decodes_17 : decode cX10_decodes 17 = .ok (.iload_n 3, 1) := by decide +kernel
theorem dX10_decodes_18 : decode cX10_decodes 18 = .ok (.iload_n 2, 1) := by decide +kernel
theorem dX10_decodes_19 : decode cX10_decodes 19 = .ok (.aload_n 0, 1) := by decide +kernel
theorem dX10_decodes_20 : decode cX10_decodes 20 = .ok (.getfield 7, 3) := by decide +kernel
theorem dX10_decodes_23 : decode cX10_decodes 23 = .ok (.irem, 1) := by decide +kernel
theorem dX10_decodes_24 : decode cX10_decodes 24 = .ok (.iconst 1, 1) := by decide +kernel
theorem dX10_decodes_25 : decode cX10_decodes 25 = .ok (.iadd, 1) := by decide +kernel
theorem dX10_decodes_26 : decode cX10_decodes 26 = .ok (.iastore, 1) := by decide +kernel
theorem dX10_decodes_27 : decode cX10_decodes 27 = .ok (.iload_n 2, 1) := by decide +kernel
theorem dX10_decodes_28 : decode cX10_decodes 28 = .ok (.aload_n 0, 1) := by decide +kernel
theorem dX10_decodes_29 : decode cX10_decodes 29 = .ok (.getfield 7, 3) := by decide +kernel
theorem dX10_decodes_32 : decode cX10_decodes 32 = .ok (.idiv, 1) := by decide +kernel
theorem dX10_decodes_33 : decode cX10_decodes 33 = .ok (.istore_n 2, 1) := by decide +kernel
theorem dX10_decodes_34 : decode cX10_decodes 34 = .ok (.iinc 3 (-1), 3) := by decide +kernel
theorem dX10_decodes_37 : decode cX10_decodes 37 = .ok (.goto (-28), 3) := by decide +kernel
theorem dX10_decodes_40 : decode cX10_decodes 40 = .ok (.return_, 1) := by decide +kernel
theorem dX10_comesTo_0 : decode cX10_comesTo 0 = .ok (.aload_n 0, 1) := by decide +kernel
theorem dX10_comesTo_1 : decode cX10_comesTo 1 = .ok (.invokevirtual 227, 3) := by decide +kernel
theorem dX10_comesTo_4 : decode cX10_comesTo 4 = .ok (.istore_n 1, 1) := by decide +kernel
theorem dX10_comesTo_5 : decode cX10_comesTo 5 = .ok (.aload_n 0, 1) := by decide +kernel
theorem dX10_comesTo_6 : decode cX10_comesTo 6 = .ok (.getfield 71, 3) := by decide +kernel
theorem dX10_comesTo_9 : decode cX10_comesTo 9 = .ok (.iload_n 1, 1) := by decide +kernel
theorem dX10_comesTo_10 : decode cX10_comesTo 10 = .ok (.bipush 32, 2) := by decide +kernel
theorem dX10_comesTo_12 : decode cX10_comesTo 12 = .ok (.idiv, 1) := by decide +kernel
theorem dX10_comesTo_13 : decode cX10_comesTo 13 = .ok (.iaload, 1) := by decide +kernel
theorem dX10_comesTo_14 : decode cX10_comesTo 14 = .ok (.iload_n 1, 1) := by decide +kernel
theorem dX10_comesTo_15 : decode cX10_comesTo 15 = .ok (.bipush 32, 2) := by decide +kernel
theorem dX10_comesTo_17 : decode cX10_comesTo 17 = .ok (.irem, 1) := by decide +kernel
theorem dX10_comesTo_18 : decode cX10_comesTo 18 = .ok (.ishr, 1) := by decide +kernel
theorem dX10_comesTo_19 : decode cX10_comesTo 19 = .ok (.iconst 1, 1) := by decide +kernel
theorem dX10_comesTo_20 : decode cX10_comesTo 20 = .ok (.iand, 1) := by decide +kernel
theorem dX10_comesTo_21 : decode cX10_comesTo 21 = .ok (.ifCond .ne 41, 3) := by decide +kernel
theorem dX10_comesTo_24 : decode cX10_comesTo 24 = .ok (.aload_n 0, 1) := by decide +kernel
theorem dX10_comesTo_25 : decode cX10_comesTo 25 = .ok (.getfield 71, 3) := by decide +kernel
theorem dX10_comesTo_28 : decode cX10_comesTo 28 = .ok (.iload_n 1, 1) := by decide +kernel
theorem dX10_comesTo_29 : decode cX10_comesTo 29 = .ok (.bipush 32, 2) := by decide +kernel
theorem dX10_comesTo_31 : decode cX10_comesTo 31 = .ok (.idiv, 1) := by decide +kernel
theorem dX10_comesTo_32 : decode cX10_comesTo 32 = .ok (.dup2, 1) := by decide +kernel
theorem dX10_comesTo_33 : decode cX10_comesTo 33 = .ok (.iaload, 1) := by decide +kernel
theorem dX10_comesTo_34 : decode cX10_comesTo 34 = .ok (.iconst 1, 1) := by decide +kernel
theorem dX10_comesTo_35 : decode cX10_comesTo 35 = .ok (.iload_n 1, 1) := by decide +kernel
theorem dX10_comesTo_36 : decode cX10_comesTo 36 = .ok (.bipush 32, 2) := by decide +kernel
theorem dX10_comesTo_38 : decode cX10_comesTo 38 = .ok (.irem, 1) := by decide +kernel
theorem dX10_comesTo_39 : decode cX10_comesTo 39 = .ok (.ishl, 1) := by decide +kernel
theorem dX10_comesTo_40 : decode cX10_comesTo 40 = .ok (.ior, 1) := by decide +kernel
theorem dX10_comesTo_41 : decode cX10_comesTo 41 = .ok (.iastore, 1) := by decide +kernel
theorem dX10_comesTo_42 : decode cX10_comesTo 42 = .ok (.aload_n 0, 1) := by decide +kernel
theorem dX10_comesTo_43 : decode cX10_comesTo 43 = .ok (.getfield 74, 3) := by decide +kernel
theorem dX10_comesTo_46 : decode cX10_comesTo 46 = .ok (.aload_n 0, 1) := by decide +kernel
theorem dX10_comesTo_47 : decode cX10_comesTo 47 = .ok (.getfield 230, 3) := by decide +kernel
theorem dX10_comesTo_50 : decode cX10_comesTo 50 = .ok (.iload_n 1, 1) := by decide +kernel
theorem dX10_comesTo_51 : decode cX10_comesTo 51 = .ok (.iastore, 1) := by decide +kernel
theorem dX10_comesTo_52 : decode cX10_comesTo 52 = .ok (.aload_n 0, 1) := by decide +kernel
theorem dX10_comesTo_53 : decode cX10_comesTo 53 = .ok (.dup, 1) := by decide +kernel
theorem dX10_comesTo_54 : decode cX10_comesTo 54 = .ok (.getfield 230, 3) := by decide +kernel
theorem dX10_comesTo_57 : decode cX10_comesTo 57 = .ok (.iconst 1, 1) := by decide +kernel
theorem dX10_comesTo_58 : decode cX10_comesTo 58 = .ok (.iadd, 1) := by decide +kernel
theorem dX10_comesTo_59 : decode cX10_comesTo 59 = .ok (.putfield 230, 3) := by decide +kernel
theorem dX10_comesTo_62 : decode cX10_comesTo 62 = .ok (.return_, 1) := by decide +kernel
theorem dX10_findAll_0 : decode cX10_findAll 0 = .ok (.iconst 0, 1) := by decide +kernel
theorem dX10_findAll_1 : decode cX10_findAll 1 = .ok (.istore_n 1, 1) := by decide +kernel
theorem dX10_findAll_2 : decode cX10_findAll 2 = .ok (.iload_n 1, 1) := by decide +kernel
theorem dX10_findAll_3 : decode cX10_findAll 3 = .ok (.sipush 489, 3) := by decide +kernel
theorem dX10_findAll_6 : decode cX10_findAll 6 = .ok (.if_icmp .ge 16, 3) := by decide +kernel
theorem dX10_findAll_9 : decode cX10_findAll 9 = .ok (.aload_n 0, 1) := by decide +kernel
theorem dX10_findAll_10 : decode cX10_findAll 10 = .ok (.getfield 71, 3) := by decide +kernel
theorem dX10_findAll_13 : decode cX10_findAll 13 = .ok (.iload_n 1, 1) := by decide +kernel
theorem dX10_findAll_14 : decode cX10_findAll 14 = .ok (.iconst 0, 1) := by decide +kernel
theorem dX10_findAll_15 : decode cX10_findAll 15 = .ok (.iastore, 1) := by decide +kernel
theorem dX10_findAll_16 : decode cX10_findAll 16 = .ok (.iinc 1 1, 3) := by decide +kernel
theorem dX10_findAll_19 : decode cX10_findAll 19 = .ok (.goto (-17), 3) := by decide +kernel
theorem dX10_findAll_22 : decode cX10_findAll 22 = .ok (.aload_n 0, 1) := by decide +kernel
theorem dX10_findAll_23 : decode cX10_findAll 23 = .ok (.iconst 0, 1) := by decide +kernel
theorem dX10_findAll_24 : decode cX10_findAll 24 = .ok (.putfield 230, 3) := by decide +kernel
theorem dX10_findAll_27 : decode cX10_findAll 27 = .ok (.aload_n 0, 1) := by decide +kernel
theorem dX10_findAll_28 : decode cX10_findAll 28 = .ok (.invokevirtual 233, 3) := by decide +kernel
theorem dX10_findAll_31 : decode cX10_findAll 31 = .ok (.iconst 0, 1) := by decide +kernel
theorem dX10_findAll_32 : decode cX10_findAll 32 = .ok (.istore_n 1, 1) := by decide +kernel
theorem dX10_findAll_33 : decode cX10_findAll 33 = .ok (.iload_n 1, 1) := by decide +kernel
theorem dX10_findAll_34 : decode cX10_findAll 34 = .ok (.aload_n 0, 1) := by decide +kernel
theorem dX10_findAll_35 : decode cX10_findAll 35 = .ok (.getfield 230, 3) := by decide +kernel
theorem dX10_findAll_38 : decode cX10_findAll 38 = .ok (.if_icmp .ge 69, 3) := by decide +kernel
theorem dX10_findAll_41 : decode cX10_findAll 41 = .ok (.iconst 1, 1) := by decide +kernel
theorem dX10_findAll_42 : decode cX10_findAll 42 = .ok (.istore_n 2, 1) := by decide +kernel
theorem dX10_findAll_43 : decode cX10_findAll 43 = .ok (.iload_n 2, 1) := by decide +kernel
theorem dX10_findAll_44 : decode cX10_findAll 44 = .ok (.aload_n 0, 1) := by decide +kernel
theorem dX10_findAll_45 : decode cX10_findAll 45 = .ok (.getfield 7, 3) := by decide +kernel
theorem dX10_findAll_48 : decode cX10_findAll 48 = .ok (.if_icmp .ge 53, 3) := by decide +kernel
theorem dX10_findAll_51 : decode cX10_findAll 51 = .ok (.aload_n 0, 1) := by decide +kernel
theorem dX10_findAll_52 : decode cX10_findAll 52 = .ok (.aload_n 0, 1) := by decide +kernel
theorem dX10_findAll_53 : decode cX10_findAll 53 = .ok (.getfield 74, 3) := by decide +kernel
theorem dX10_findAll_56 : decode cX10_findAll 56 = .ok (.iload_n 1, 1) := by decide +kernel
theorem dX10_findAll_57 : decode cX10_findAll 57 = .ok (.iaload, 1) := by decide +kernel
theorem dX10_findAll_58 : decode cX10_findAll 58 = .ok (.invokevirtual 236, 3) := by decide +kernel
theorem dX10_findAll_61 : decode cX10_findAll 61 = .ok (.aload_n 0, 1) := by decide +kernel
theorem dX10_findAll_62 : decode cX10_findAll 62 = .ok (.iload_n 2, 1) := by decide +kernel
theorem dX10_findAll_63 : decode cX10_findAll 63 = .ok (.invokevirtual 179, 3) := by decide +kernel
theorem dX10_findAll_66 : decode cX10_findAll 66 = .ok (.ifCond .eq 7, 3) := by decide +kernel
theorem dX10_findAll_69 : decode cX10_findAll 69 = .ok (.aload_n 0, 1) := by decide +kernel
theorem dX10_findAll_70 : decode cX10_findAll 70 = .ok (.invokevirtual 233, 3) := by decide +kernel
theorem dX10_findAll_73 : decode cX10_findAll 73 = .ok (.aload_n 0, 1) := by decide +kernel
theorem dX10_findAll_74 : decode cX10_findAll 74 = .ok (.aload_n 0, 1) := by decide +kernel
theorem dX10_findAll_75 : decode cX10_findAll 75 = .ok (.getfield 74, 3) := by decide +kernel
theorem dX10_findAll_78 : decode cX10_findAll 78 = .ok (.iload_n 1, 1) := by decide +kernel
theorem dX10_findAll_79 : decode cX10_findAll 79 = .ok (.iaload, 1) := by decide +kernel
theorem dX10_findAll_80 : decode cX10_findAll 80 = .ok (.invokevirtual 236, 3) := by decide +kernel
theorem dX10_findAll_83 : decode cX10_findAll 83 = .ok (.aload_n 0, 1) := by decide +kernel
theorem dX10_findAll_84 : decode cX10_findAll 84 = .ok (.iload_n 2, 1) := by decide +kernel
theorem dX10_findAll_85 : decode cX10_findAll 85 = .ok (.invokevirtual 182, 3) := by decide +kernel
theorem dX10_findAll_88 : decode cX10_findAll 88 = .ok (.ifCond .eq 7, 3) := by decide +kernel
theorem dX10_findAll_91 : decode cX10_findAll 91 = .ok (.aload_n 0, 1) := by decide +kernel
theorem dX10_findAll_92 : decode cX10_findAll 92 = .ok (.invokevirtual 233, 3) := by decide +kernel
theorem dX10_findAll_95 : decode cX10_findAll 95 = .ok (.iinc 2 1, 3) := by decide +kernel
theorem dX10_findAll_98 : decode cX10_findAll 98 = .ok (.goto (-55), 3) := by decide +kernel
theorem dX10_findAll_101 : decode cX10_findAll 101 = .ok (.iinc 1 1, 3) := by decide +kernel
theorem dX10_findAll_104 : decode cX10_findAll 104 = .ok (.goto (-71), 3) := by decide +kernel
theorem dX10_findAll_107 : decode cX10_findAll 107 = .ok (.return_, 1) := by decide +kernel
theorem dX10_all_0 : decode cX10_all 0 = .ok (.iload_n 1, 1) := by decide +kernel
theorem dX10_all_1 : decode cX10_all 1 = .ok (.invokestatic 114, 3) := by decide +kernel
theorem dX10_all_4 : decode cX10_all 4 = .ok (.ifCond .eq 8, 3) := by decide +kernel
theorem dX10_all_7 : decode cX10_all 7 = .ok (.iload_n 2, 1) := by decide +kernel
theorem dX10_all_8 : decode cX10_all 8 = .ok (.iconst (-1), 1) := by decide +kernel
theorem dX10_all_9 : decode cX10_all 9 = .ok (.if_icmp .ge 5, 3) := by decide +kernel
theorem dX10_all_12 : decode cX10_all 12 = .ok (.iconst (-1), 1) := by decide +kernel
theorem dX10_all_13 : decode cX10_all 13 = .ok (.ireturn, 1) := by decide +kernel
theorem dX10_all_14 : decode cX10_all 14 = .ok (.aload_n 0, 1) := by decide +kernel
theorem dX10_all_15 : decode cX10_all 15 = .ok (.getfield 16, 3) := by decide +kernel
theorem dX10_all_18 : decode cX10_all 18 = .ok (.iload_n 1, 1) := by decide +kernel
theorem dX10_all_19 : decode cX10_all 19 = .ok (.iaload, 1) := by decide +kernel
theorem dX10_all_20 : decode cX10_all 20 = .ok (.ifCond .ne 6, 3) := by decide +kernel
theorem dX10_all_23 : decode cX10_all 23 = .ok (.bipush (-11), 2) := by decide +kernel
theorem dX10_all_25 : decode cX10_all 25 = .ok (.ireturn, 1) := by decide +kernel
theorem dX10_all_26 : decode cX10_all 26 = .ok (.aload_n 0, 1) := by decide +kernel
theorem dX10_all_27 : decode cX10_all 27 = .ok (.iload_n 1, 1) := by decide +kernel
theorem dX10_all_28 : decode cX10_all 28 = .ok (.invokevirtual 146, 3) := by decide +kernel
theorem dX10_all_31 : decode cX10_all 31 = .ok (.aload_n 0, 1) := by decide +kernel
theorem dX10_all_32 : decode cX10_all 32 = .ok (.invokevirtual 239, 3) := by decide +kernel
theorem dX10_all_35 : decode cX10_all 35 = .ok (.iload_n 2, 1) := by decide +kernel
theorem dX10_all_36 : decode cX10_all 36 = .ok (.ifCond .ge 8, 3) := by decide +kernel
theorem dX10_all_39 : decode cX10_all 39 = .ok (.aload_n 0, 1) := by decide +kernel
theorem dX10_all_40 : decode cX10_all 40 = .ok (.getfield 230, 3) := by decide +kernel
theorem dX10_all_43 : decode cX10_all 43 = .ok (.ireturn, 1) := by decide +kernel
theorem dX10_all_44 : decode cX10_all 44 = .ok (.iload_n 2, 1) := by decide +kernel
theorem dX10_all_45 : decode cX10_all 45 = .ok (.istore_n 3, 1) := by decide +kernel
theorem dX10_all_46 : decode cX10_all 46 = .ok (.iconst 0, 1) := by decide +kernel
theorem dX10_all_47 : decode cX10_all 47 = .ok (.istore 4, 2) := by decide +kernel
theorem dX10_all_49 : decode cX10_all 49 = .ok (.iload 4, 2) := by decide +kernel
theorem dX10_all_51 : decode cX10_all 51 = .ok (.sipush 15648, 3) := by decide +kernel
theorem dX10_all_54 : decode cX10_all 54 = .ok (.if_icmp .ge 57, 3) := by decide +kernel
theorem dX10_all_57 : decode cX10_all 57 = .ok (.iload_n 2, 1) := by decide +kernel
theorem dX10_all_58 : decode cX10_all 58 = .ok (.aload_n 0, 1) := by decide +kernel
theorem dX10_all_59 : decode cX10_all 59 = .ok (.getfield 230, 3) := by decide +kernel
theorem dX10_all_62 : decode cX10_all 62 = .ok (.if_icmp .ge 49, 3) := by decide +kernel
theorem dX10_all_65 : decode cX10_all 65 = .ok (.aload_n 0, 1) := by decide +kernel
theorem dX10_all_66 : decode cX10_all 66 = .ok (.getfield 71, 3) := by decide +kernel
theorem dX10_all_69 : decode cX10_all 69 = .ok (.iload 4, 2) := by decide +kernel
theorem dX10_all_71 : decode cX10_all 71 = .ok (.bipush 32, 2) := by decide +kernel
theorem dX10_all_73 : decode cX10_all 73 = .ok (.idiv, 1) := by decide +kernel
theorem dX10_all_74 : decode cX10_all 74 = .ok (.iaload, 1) := by decide +kernel
theorem dX10_all_75 : decode cX10_all 75 = .ok (.iload 4, 2) := by decide +kernel
theorem dX10_all_77 : decode cX10_all 77 = .ok (.bipush 32, 2) := by decide +kernel
theorem dX10_all_79 : decode cX10_all 79 = .ok (.irem, 1) := by decide +kernel
theorem dX10_all_80 : decode cX10_all 80 = .ok (.ishr, 1) := by decide +kernel
theorem dX10_all_81 : decode cX10_all 81 = .ok (.iconst 1, 1) := by decide +kernel
theorem dX10_all_82 : decode cX10_all 82 = .ok (.iand, 1) := by decide +kernel
theorem dX10_all_83 : decode cX10_all 83 = .ok (.iconst 1, 1) := by decide +kernel
theorem dX10_all_84 : decode cX10_all 84 = .ok (.if_icmp .ne 21, 3) := by decide +kernel
theorem dX10_all_87 : decode cX10_all 87 = .ok (.iload_n 3, 1) := by decide +kernel
theorem dX10_all_88 : decode cX10_all 88 = .ok (.ifCond .ne 14, 3) := by decide +kernel
theorem dX10_all_91 : decode cX10_all 91 = .ok (.aload_n 0, 1) := by decide +kernel
theorem dX10_all_92 : decode cX10_all 92 = .ok (.iload 4, 2) := by decide +kernel
theorem dX10_all_94 : decode cX10_all 94 = .ok (.invokevirtual 236, 3) := by decide +kernel
theorem dX10_all_97 : decode cX10_all 97 = .ok (.aload_n 0, 1) := by decide +kernel
theorem dX10_all_98 : decode cX10_all 98 = .ok (.invokevirtual 149, 3) := by decide +kernel
theorem dX10_all_101 : decode cX10_all 101 = .ok (.ireturn, 1) := by decide +kernel
theorem dX10_all_102 : decode cX10_all 102 = .ok (.iinc 3 (-1), 3) := by decide +kernel
theorem dX10_all_105 : decode cX10_all 105 = .ok (.iinc 4 1, 3) := by decide +kernel
theorem dX10_all_108 : decode cX10_all 108 = .ok (.goto (-59), 3) := by decide +kernel
theorem dX10_all_111 : decode cX10_all 111 = .ok (.bipush (-3), 2) := by decide +kernel
theorem dX10_all_113 : decode cX10_all 113 = .ok (.ireturn, 1) := by decide +kernel
theorem dX10_stands_0 : decode cX10_stands 0 = .ok (.iload_n 1, 1) := by decide +kernel
theorem dX10_stands_1 : decode cX10_stands 1 = .ok (.invokestatic 114, 3) := by decide +kernel
theorem dX10_stands_4 : decode cX10_stands 4 = .ok (.ifCond .ne 5, 3) := by decide +kernel
theorem dX10_stands_7 : decode cX10_stands 7 = .ok (.iconst (-1), 1) := by decide +kernel
theorem dX10_stands_8 : decode cX10_stands 8 = .ok (.ireturn, 1) := by decide +kernel
theorem dX10_stands_9 : decode cX10_stands 9 = .ok (.aload_n 0, 1) := by decide +kernel
theorem dX10_stands_10 : decode cX10_stands 10 = .ok (.getfield 16, 3) := by decide +kernel
theorem dX10_stands_13 : decode cX10_stands 13 = .ok (.iload_n 1, 1) := by decide +kernel
theorem dX10_stands_14 : decode cX10_stands 14 = .ok (.iaload, 1) := by decide +kernel
theorem dX10_stands_15 : decode cX10_stands 15 = .ok (.ifCond .ne 6, 3) := by decide +kernel
theorem dX10_stands_18 : decode cX10_stands 18 = .ok (.bipush (-11), 2) := by decide +kernel
theorem dX10_stands_20 : decode cX10_stands 20 = .ok (.ireturn, 1) := by decide +kernel
theorem dX10_stands_21 : decode cX10_stands 21 = .ok (.aload_n 0, 1) := by decide +kernel
theorem dX10_stands_22 : decode cX10_stands 22 = .ok (.iload_n 1, 1) := by decide +kernel
theorem dX10_stands_23 : decode cX10_stands 23 = .ok (.invokevirtual 146, 3) := by decide +kernel
theorem dX10_stands_26 : decode cX10_stands 26 = .ok (.aload_n 0, 1) := by decide +kernel
theorem dX10_stands_27 : decode cX10_stands 27 = .ok (.invokevirtual 227, 3) := by decide +kernel
theorem dX10_stands_30 : decode cX10_stands 30 = .ok (.istore_n 2, 1) := by decide +kernel
theorem dX10_stands_31 : decode cX10_stands 31 = .ok (.aload_n 0, 1) := by decide +kernel
theorem dX10_stands_32 : decode cX10_stands 32 = .ok (.invokevirtual 239, 3) := by decide +kernel
theorem dX10_stands_35 : decode cX10_stands 35 = .ok (.iconst 0, 1) := by decide +kernel
theorem dX10_stands_36 : decode cX10_stands 36 = .ok (.istore_n 3, 1) := by decide +kernel
theorem dX10_stands_37 : decode cX10_stands 37 = .ok (.iconst 0, 1) := by decide +kernel
theorem dX10_stands_38 : decode cX10_stands 38 = .ok (.istore 4, 2) := by decide +kernel
theorem dX10_stands_40 : decode cX10_stands 40 = .ok (.iload 4, 2) := by decide +kernel
theorem dX10_stands_42 : decode cX10_stands 42 = .ok (.aload_n 0, 1) := by decide +kernel
theorem dX10_stands_43 : decode cX10_stands 43 = .ok (.getfield 230, 3) := by decide +kernel
theorem dX10_stands_46 : decode cX10_stands 46 = .ok (.if_icmp .ge 28, 3) := by decide +kernel
theorem dX10_stands_49 : decode cX10_stands 49 = .ok (.iload_n 3, 1) := by decide +kernel
theorem dX10_stands_50 : decode cX10_stands 50 = .ok (.aload_n 0, 1) := by decide +kernel
theorem dX10_stands_51 : decode cX10_stands 51 = .ok (.getfield 74, 3) := by decide +kernel
theorem dX10_stands_54 : decode cX10_stands 54 = .ok (.iload 4, 2) := by decide +kernel
theorem dX10_stands_56 : decode cX10_stands 56 = .ok (.iaload, 1) := by decide +kernel
theorem dX10_stands_57 : decode cX10_stands 57 = .ok (.iload_n 2, 1) := by decide +kernel
theorem dX10_stands_58 : decode cX10_stands 58 = .ok (.if_icmp .ge 7, 3) := by decide +kernel
theorem dX10_stands_61 : decode cX10_stands 61 = .ok (.iconst 1, 1) := by decide +kernel
theorem dX10_stands_62 : decode cX10_stands 62 = .ok (.goto 4, 3) := by decide +kernel
theorem dX10_stands_65 : decode cX10_stands 65 = .ok (.iconst 0, 1) := by decide +kernel
theorem dX10_stands_66 : decode cX10_stands 66 = .ok (.iadd, 1) := by decide +kernel
theorem dX10_stands_67 : decode cX10_stands 67 = .ok (.istore_n 3, 1) := by decide +kernel
theorem dX10_stands_68 : decode cX10_stands 68 = .ok (.iinc 4 1, 3) := by decide +kernel
theorem dX10_stands_71 : decode cX10_stands 71 = .ok (.goto (-31), 3) := by decide +kernel
theorem dX10_stands_74 : decode cX10_stands 74 = .ok (.iload_n 3, 1) := by decide +kernel
theorem dX10_stands_75 : decode cX10_stands 75 = .ok (.ireturn, 1) := by decide +kernel
