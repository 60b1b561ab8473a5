theorem dX4_isTold_45 : decode cX4_isTold 45 = .ok (.aload_n 0, 1) := by decide +kernel
theorem dX4_isTold_46 : decode cX4_isTold 46 = .ok (.getfield 9, 3) := by decide +kernel
theorem dX4_isTold_49 : decode cX4_isTold 49 = .ok (.iload 5, 2) := by decide +kernel
theorem dX4_isTold_51 : decode cX4_isTold 51 = .ok (.iload_n 3, 1) := by decide +kernel
theorem dX4_isTold_52 : decode cX4_isTold 52 = .ok (.bipush 10, 2) := by decide +kernel
theorem dX4_isTold_54 : decode cX4_isTold 54 = .ok (.irem, 1) := by decide +kernel
theorem dX4_isTold_55 : decode cX4_isTold 55 = .ok (.iastore, 1) := by decide +kernel
theorem dX4_isTold_56 : decode cX4_isTold 56 = .ok (.iload_n 3, 1) := by decide +kernel
theorem dX4_isTold_57 : decode cX4_isTold 57 = .ok (.bipush 10, 2) := by decide +kernel
theorem dX4_isTold_59 : decode cX4_isTold 59 = .ok (.idiv, 1) := by decide +kernel
theorem dX4_isTold_60 : decode cX4_isTold 60 = .ok (.istore_n 3, 1) := by decide +kernel
theorem dX4_isTold_61 : decode cX4_isTold 61 = .ok (.aload_n 0, 1) := by decide +kernel
theorem dX4_isTold_62 : decode cX4_isTold 62 = .ok (.getfield 9, 3) := by decide +kernel
theorem dX4_isTold_65 : decode cX4_isTold 65 = .ok (.iload 5, 2) := by decide +kernel
theorem dX4_isTold_67 : decode cX4_isTold 67 = .ok (.iaload, 1) := by decide +kernel
theorem dX4_isTold_68 : decode cX4_isTold 68 = .ok (.iload 4, 2) := by decide +kernel
theorem dX4_isTold_70 : decode cX4_isTold 70 = .ok (.if_icmp .ge 5, 3) := by decide +kernel
theorem dX4_isTold_73 : decode cX4_isTold 73 = .ok (.iconst 0, 1) := by decide +kernel
theorem dX4_isTold_74 : decode cX4_isTold 74 = .ok (.ireturn, 1) := by decide +kernel
theorem dX4_isTold_75 : decode cX4_isTold 75 = .ok (.aload_n 0, 1) := by decide +kernel
theorem dX4_isTold_76 : decode cX4_isTold 76 = .ok (.getfield 9, 3) := by decide +kernel
theorem dX4_isTold_79 : decode cX4_isTold 79 = .ok (.iload 5, 2) := by decide +kernel
theorem dX4_isTold_81 : decode cX4_isTold 81 = .ok (.iaload, 1) := by decide +kernel
theorem dX4_isTold_82 : decode cX4_isTold 82 = .ok (.istore 4, 2) := by decide +kernel
theorem dX4_isTold_84 : decode cX4_isTold 84 = .ok (.aload_n 0, 1) := by decide +kernel
theorem dX4_isTold_85 : decode cX4_isTold 85 = .ok (.dup, 1) := by decide +kernel
theorem dX4_isTold_86 : decode cX4_isTold 86 = .ok (.getfield 23, 3) := by decide +kernel
theorem dX4_isTold_89 : decode cX4_isTold 89 = .ok (.aload_n 0, 1) := by decide +kernel
theorem dX4_isTold_90 : decode cX4_isTold 90 = .ok (.getfield 9, 3) := by decide +kernel
theorem dX4_isTold_93 : decode cX4_isTold 93 = .ok (.iload 5, 2) := by decide +kernel
theorem dX4_isTold_95 : decode cX4_isTold 95 = .ok (.iaload, 1) := by decide +kernel
theorem dX4_isTold_96 : decode cX4_isTold 96 = .ok (.iadd, 1) := by decide +kernel
theorem dX4_isTold_97 : decode cX4_isTold 97 = .ok (.putfield 23, 3) := by decide +kernel
theorem dX4_isTold_100 : decode cX4_isTold 100 = .ok (.iinc 5 (-1), 3) := by decide +kernel
theorem dX4_isTold_103 : decode cX4_isTold 103 = .ok (.goto (-63), 3) := by decide +kernel
theorem dX4_isTold_106 : decode cX4_isTold 106 = .ok (.aload_n 0, 1) := by decide +kernel
theorem dX4_isTold_107 : decode cX4_isTold 107 = .ok (.getfield 23, 3) := by decide +kernel
theorem dX4_isTold_110 : decode cX4_isTold 110 = .ok (.bipush 6, 2) := by decide +kernel
theorem dX4_isTold_112 : decode cX4_isTold 112 = .ok (.if_icmp .gt 7, 3) := by decide +kernel
theorem dX4_isTold_115 : decode cX4_isTold 115 = .ok (.iconst 1, 1) := by decide +kernel
theorem dX4_isTold_116 : decode cX4_isTold 116 = .ok (.goto 4, 3) := by decide +kernel
theorem dX4_isTold_119 : decode cX4_isTold 119 = .ok (.iconst 0, 1) := by decide +kernel
theorem dX4_isTold_120 : decode cX4_isTold 120 = .ok (.ireturn, 1) := by decide +kernel
theorem dX4_lengthOf_0 : decode cX4_lengthOf 0 = .ok (.iload_n 1, 1) := by decide +kernel
theorem dX4_lengthOf_1 : decode cX4_lengthOf 1 = .ok (.aload_n 0, 1) := by decide +kernel
theorem dX4_lengthOf_2 : decode cX4_lengthOf 2 = .ok (.getfield 19, 3) := by decide +kernel
theorem dX4_lengthOf_5 : decode cX4_lengthOf 5 = .ok (.if_icmp .ge 12, 3) := by decide +kernel
theorem dX4_lengthOf_8 : decode cX4_lengthOf 8 = .ok (.aload_n 0, 1) := by decide +kernel
theorem dX4_lengthOf_9 : decode cX4_lengthOf 9 = .ok (.getfield 9, 3) := by decide +kernel
theorem dX4_lengthOf_12 : decode cX4_lengthOf 12 = .ok (.iload_n 1, 1) := by decide +kernel
theorem dX4_lengthOf_13 : decode cX4_lengthOf 13 = .ok (.iaload, 1) := by decide +kernel
theorem dX4_lengthOf_14 : decode cX4_lengthOf 14 = .ok (.goto 4, 3) := by decide +kernel
theorem dX4_lengthOf_17 : decode cX4_lengthOf 17 = .ok (.iconst 0, 1) := by decide +kernel
theorem dX4_lengthOf_18 : decode cX4_lengthOf 18 = .ok (.ireturn, 1) := by decide +kernel
theorem dX5_init_0 : decode cX5_init 0 = .ok (.aload_n 0, 1) := by decide +kernel
theorem dX5_init_1 : decode cX5_init 1 = .ok (.invokespecial 3, 3) := by decide +kernel
theorem dX5_init_4 : decode cX5_init 4 = .ok (.aload_n 0, 1) := by decide +kernel
theorem dX5_init_5 : decode cX5_init 5 = .ok (.iconst (-1), 1) := by decide +kernel
theorem dX5_init_6 : decode cX5_init 6 = .ok (.putfield 9, 3) := by decide +kernel
theorem dX5_init_9 : decode cX5_init 9 = .ok (.aload_n 0, 1) := by decide +kernel
theorem dX5_init_10 : decode cX5_init 10 = .ok (.bipush 40, 2) := by decide +kernel
theorem dX5_init_12 : decode cX5_init 12 = .ok (.newarray .long, 2) := by decide +kernel
theorem dX5_init_14 : decode cX5_init 14 = .ok (.putfield 15, 3) := by decide +kernel
theorem dX5_init_17 : decode cX5_init 17 = .ok (.return_, 1) := by decide +kernel
theorem dX5_isMissing_0 : decode cX5_isMissing 0 = .ok (.aload_n 0, 1) := by decide +kernel
theorem dX5_isMissing_1 : decode cX5_isMissing 1 = .ok (.getfield 9, 3) := by decide +kernel
theorem dX5_isMissing_4 : decode cX5_isMissing 4 = .ok (.iconst (-1), 1) := by decide +kernel
theorem dX5_isMissing_5 : decode cX5_isMissing 5 = .ok (.if_icmp .ne 7, 3) := by decide +kernel
theorem dX5_isMissing_8 : decode cX5_isMissing 8 = .ok (.iconst 1, 1) := by decide +kernel
theorem dX5_isMissing_9 : decode cX5_isMissing 9 = .ok (.goto 4, 3) := by decide +kernel
theorem dX5_isMissing_12 : decode cX5_isMissing 12 = .ok (.iconst 0, 1) := by decide +kernel
theorem dX5_isMissing_13 : decode cX5_isMissing 13 = .ok (.ireturn, 1) := by decide +kernel
theorem dX5_becomeMissing_0 : decode cX5_becomeMissing 0 = .ok (.aload_n 0, 1) := by decide +kernel
theorem dX5_becomeMissing_1 : decode cX5_becomeMissing 1 = .ok (.iconst (-1), 1) := by decide +kernel
theorem dX5_becomeMissing_2 : decode cX5_becomeMissing 2 = .ok (.putfield 9, 3) := by decide +kernel
theorem dX5_becomeMissing_5 : decode cX5_becomeMissing 5 = .ok (.aload_n 0, 1) := by decide +kernel
theorem dX5_becomeMissing_6 : decode cX5_becomeMissing 6 = .ok (.iconst 0, 1) := by decide +kernel
theorem dX5_becomeMissing_7 : decode cX5_becomeMissing 7 = .ok (.putfield 19, 3) := by decide +kernel
theorem dX5_becomeMissing_10 : decode cX5_becomeMissing 10 = .ok (.return_, 1) := by decide +kernel
theorem dX5_becomeRow_0 : decode cX5_becomeRow 0 = .ok (.aload_n 0, 1) := by decide +kernel
theorem dX5_becomeRow_1 : decode cX5_becomeRow 1 = .ok (.iload_n 1, 1) := by decide +kernel
theorem dX5_becomeRow_2 : decode cX5_becomeRow 2 = .ok (.putfield 9, 3) := by decide +kernel
theorem dX5_becomeRow_5 : decode cX5_becomeRow 5 = .ok (.aload_n 0, 1) := by decide +kernel
theorem dX5_becomeRow_6 : decode cX5_becomeRow 6 = .ok (.iload_n 2, 1) := by decide +kernel
theorem dX5_becomeRow_7 : decode cX5_becomeRow 7 = .ok (.putfield 19, 3) := by decide +kernel
theorem dX5_becomeRow_10 : decode cX5_becomeRow 10 = .ok (.aload_n 0, 1) := by decide +kernel
theorem dX5_becomeRow_11 : decode cX5_becomeRow 11 = .ok (.getfield 15, 3) := by decide +kernel
theorem dX5_becomeRow_14 : decode cX5_becomeRow 14 = .ok (.lconst 0, 1) := by decide +kernel
theorem dX5_becomeRow_15 : decode cX5_becomeRow 15 = .ok (.invokestatic 22, 3) := by decide +kernel
theorem dX5_becomeRow_18 : decode cX5_becomeRow 18 = .ok (.return_, 1) := by decide +kernel
theorem dX5_hasPlaces_0 : decode cX5_hasPlaces 0 = .ok (.iload_n 1, 1) := by decide +kernel
theorem dX5_hasPlaces_1 : decode cX5_hasPlaces 1 = .ok (.ifCond .lt 25, 3) := by decide +kernel
theorem dX5_hasPlaces_4 : decode cX5_hasPlaces 4 = .ok (.iload_n 2, 1) := by decide +kernel
theorem dX5_hasPlaces_5 : decode cX5_hasPlaces 5 = .ok (.ifCond .lt 21, 3) := by decide +kernel
theorem dX5_hasPlaces_8 : decode cX5_hasPlaces 8 = .ok (.iload_n 1, 1) := by decide +kernel
theorem dX5_hasPlaces_9 : decode cX5_hasPlaces 9 = .ok (.i2l, 1) := by decide +kernel
theorem dX5_hasPlaces_10 : decode cX5_hasPlaces 10 = .ok (.iload_n 2, 1) := by decide +kernel
theorem dX5_hasPlaces_11 : decode cX5_hasPlaces 11 = .ok (.i2l, 1) := by decide +kernel
theorem dX5_hasPlaces_12 : decode cX5_hasPlaces 12 = .ok (.ladd, 1) := by decide +kernel
theorem dX5_hasPlaces_13 : decode cX5_hasPlaces 13 = .ok (.aload_n 0, 1) := by decide +kernel
theorem dX5_hasPlaces_14 : decode cX5_hasPlaces 14 = .ok (.getfield 19, 3) := by decide +kernel
theorem dX5_hasPlaces_17 : decode cX5_hasPlaces 17 = .ok (.i2l, 1) := by decide +kernel
theorem dX5_hasPlaces_18 : decode cX5_hasPlaces 18 = .ok (.lcmp, 1) := by decide +kernel
theorem dX5_hasPlaces_19 : decode cX5_hasPlaces 19 = .ok (.ifCond .gt 7, 3) := by decide +kernel
theorem dX5_hasPlaces_22 : decode cX5_hasPlaces 22 = .ok (.iconst 1, 1) := by decide +kernel
theorem dX5_hasPlaces_23 : decode cX5_hasPlaces 23 = .ok (.goto 4, 3) := by decide +kernel
theorem dX5_hasPlaces_26 : decode cX5_hasPlaces 26 = .ok (.iconst 0, 1) := by decide +kernel
theorem dX5_hasPlaces_27 : decode cX5_hasPlaces 27 = .ok (.ireturn, 1) := by decide +kernel
theorem dX5_write_0 : decode cX5_write 0 = .ok (.aload_n 0, 1) := by decide +kernel
theorem dX5_write_1 : decode cX5_write 1 = .ok (.getfield 9, 3) := by decide +kernel
theorem dX5_write_4 : decode cX5_write 4 = .ok (.ifCond .ne 15, 3) := by decide +kernel
theorem dX5_write_7 : decode cX5_write 7 = .ok (.aload_n 0, 1) := by decide +kernel
theorem dX5_write_8 : decode cX5_write 8 = .ok (.getfield 15, 3) := by decide +kernel
theorem dX5_write_11 : decode cX5_write 11 = .ok (.iload_n 1, 1) := by decide +kernel
theorem dX5_write_12 : decode cX5_write 12 = .ok (.iload_n 2, 1) := by decide +kernel
theorem dX5_write_13 : decode cX5_write 13 = .ok (.i2b, 1) := by decide +kernel
theorem dX5_write_14 : decode cX5_write 14 = .ok (.i2l, 1) := by decide +kernel
theorem dX5_write_15 : decode cX5_write 15 = .ok (.lastore, 1) := by decide +kernel
theorem dX5_write_16 : decode cX5_write 16 = .ok (.goto 31, 3) := by decide +kernel
theorem dX5_write_19 : decode cX5_write 19 = .ok (.aload_n 0, 1) := by decide +kernel
theorem dX5_write_20 : decode cX5_write 20 = .ok (.getfield 9, 3) := by decide +kernel
theorem dX5_write_23 : decode cX5_write 23 = .ok (.iconst 1, 1) := by decide +kernel
theorem dX5_write_24 : decode cX5_write 24 = .ok (.if_icmp .ne 15, 3) := by decide +kernel
theorem dX5_write_27 : decode cX5_write 27 = .ok (.aload_n 0, 1) := by decide +kernel
theorem dX5_write_28 : decode cX5_write 28 = .ok (.getfield 15, 3) := by decide +kernel
theorem dX5_write_31 : decode cX5_write 31 = .ok (.iload_n 1, 1) := by decide +kernel
theorem dX5_write_32 : decode cX5_write 32 = .ok (.iload_n 2, 1) := by decide +kernel
theorem dX5_write_33 : decode cX5_write 33 = .ok (.i2c, 1) := by decide +kernel
theorem dX5_write_34 : decode cX5_write 34 = .ok (.i2l, 1) := by decide +kernel
theorem dX5_write_35 : decode cX5_write 35 = .ok (.lastore, 1) := by decide +kernel
theorem dX5_write_36 : decode cX5_write 36 = .ok (.goto 11, 3) := by decide +kernel
theorem dX5_write_39 : decode cX5_write 39 = .ok (.aload_n 0, 1) := by decide +kernel
theorem dX5_write_40 : decode cX5_write 40 = .ok (.getfield 15, 3) := by decide +kernel
theorem dX5_write_43 : decode cX5_write 43 = .ok (.iload_n 1, 1) := by decide +kernel
theorem dX5_write_44 : decode cX5_write 44 = .ok (.iload_n 2, 1) := by decide +kernel
theorem dX5_write_45 : decode cX5_write 45 = .ok (.i2l, 1) := by decide +kernel
theorem dX5_write_46 : decode cX5_write 46 = .ok (.lastore, 1) := by decide +kernel
theorem dX5_write_47 : decode cX5_write 47 = .ok (.return_, 1) := by decide +kernel
theorem dX6_init_0 : decode cX6_init 0 = .ok (.aload_n 0, 1) := by decide +kernel
theorem dX6_init_1 : decode cX6_init 1 = .ok (.invokespecial 3, 3) := by decide +kernel
theorem dX6_init_4 : decode cX6_init 4 = .ok (.aload_n 0, 1) := by decide +kernel
theorem dX6_init_5 : decode cX6_init 5 = .ok (.iconst 3, 1) := by decide +kernel
theorem dX6_init_6 : decode cX6_init 6 = .ok (.putfield 9, 3) := by decide +kernel
theorem dX6_init_9 : decode cX6_init 9 = .ok (.aload_n 0, 1) := by decide +kernel
theorem dX6_init_10 : decode cX6_init 10 = .ok (.iconst 1, 1) := by decide +kernel
theorem dX6_init_11 : decode cX6_init 11 = .ok (.putfield 15, 3) := by decide +kernel
theorem dX6_init_14 : decode cX6_init 14 = .ok (.aload_n 0, 1) := by decide +kernel
theorem dX6_init_15 : decode cX6_init 15 = .ok (.bipush 6, 2) := by decide +kernel
theorem dX6_init_17 : decode cX6_init 17 = .ok (.anewarray 18, 3) := by decide +kernel
theorem dX6_init_20 : decode cX6_init 20 = .ok (.putfield 20, 3) := by decide +kernel
theorem dX6_init_23 : decode cX6_init 23 = .ok (.aload_n 0, 1) := by decide +kernel
theorem dX6_init_24 : decode cX6_init 24 = .ok (.bipush 6, 2) := by decide +kernel
theorem dX6_init_26 : decode cX6_init 26 = .ok (.newarray .int, 2) := by decide +kernel
theorem dX6_init_28 : decode cX6_init 28 = .ok (.putfield 24, 3) := by decide +kernel
theorem dX6_init_31 : decode cX6_init 31 = .ok (.iconst 0, 1) := by decide +kernel
theorem dX6_init_32 : decode cX6_init 32 = .ok (.istore_n 1, 1) := by decide +kernel
theorem dX6_init_33 : decode cX6_init 33 = .ok (.iload_n 1, 1) := by decide +kernel
theorem dX6_init_34 : decode cX6_init 34 = .ok (.bipush 6, 2) := by decide +kernel
theorem dX6_init_36 : decode cX6_init 36 = .ok (.if_icmp .ge 22, 3) := by decide +kernel
theorem dX6_init_39 : decode cX6_init 39 = .ok (.aload_n 0, 1) := by decide +kernel
theorem dX6_init_40 : decode cX6_init 40 = .ok (.getfield 20, 3) := by decide +kernel
theorem dX6_init_43 : decode cX6_init 43 = .ok (.iload_n 1, 1) := by decide +kernel
theorem dX6_init_44 : decode cX6_init 44 = .ok (.new 18, 3) := by decide +kernel
theorem dX6_init_47 : decode cX6_init 47 = .ok (.dup, 1) := by decide +kernel
theorem dX6_init_48 : decode cX6_init 48 = .ok (.invokespecial 28, 3) := by decide +kernel
theorem dX6_init_51 : decode cX6_init 51 = .ok (.aastore, 1) := by decide +kernel
theorem dX6_init_52 : decode cX6_init 52 = .ok (.iinc 1 1, 3) := by decide +kernel
theorem dX6_init_55 : decode cX6_init 55 = .ok (.goto (-22), 3) := by decide +kernel
theorem dX6_init_58 : decode cX6_init 58 = .ok (.aload_n 0, 1) := by decide +kernel
theorem dX6_init_59 : decode cX6_init 59 = .ok (.getfield 24, 3) := by decide +kernel
theorem dX6_init_62 : decode cX6_init 62 = .ok (.iconst 1, 1) := by decide +kernel
theorem dX6_init_63 : decode cX6_init 63 = .ok (.invokestatic 29, 3) := by decide +kernel
theorem dX6_init_66 : decode cX6_init 66 = .ok (.return_, 1) := by decide +kernel
theorem dX6_becomeLike_0 : decode cX6_becomeLike 0 = .ok (.aload_n 0, 1) := by decide +kernel
theorem dX6_becomeLike_1 : decode cX6_becomeLike 1 = .ok (.aload_n 1, 1) := by decide +kernel
theorem dX6_becomeLike_2 : decode cX6_becomeLike 2 = .ok (.getfield 9, 3) := by decide +kernel
theorem dX6_becomeLike_5 : decode cX6_becomeLike 5 = .ok (.putfield 9, 3) := by decide +kernel
theorem dX6_becomeLike_8 : decode cX6_becomeLike 8 = .ok (.aload_n 0, 1) := by decide +kernel
theorem dX6_becomeLike_9 : decode cX6_becomeLike 9 = .ok (.aload_n 1, 1) := by decide +kernel
theorem dX6_becomeLike_10 : decode cX6_becomeLike 10 = .ok (.getfield 15, 3) := by decide +kernel
theorem dX6_becomeLike_13 : decode cX6_becomeLike 13 = .ok (.putfield 15, 3) := by decide +kernel
theorem dX6_becomeLike_16 : decode cX6_becomeLike 16 = .ok (.iconst 0, 1) := by decide +kernel
theorem dX6_becomeLike_17 : decode cX6_becomeLike 17 = .ok (.istore_n 2, 1) := by decide +kernel
theorem dX6_becomeLike_18 : decode cX6_becomeLike 18 = .ok (.iload_n 2, 1) := by decide +kernel
theorem dX6_becomeLike_19 : decode cX6_becomeLike 19 = .ok (.bipush 6, 2) := by decide +kernel
theorem dX6_becomeLike_21 : decode cX6_becomeLike 21 = .ok (.if_icmp .ge 24, 3) := by decide +kernel
theorem dX6_becomeLike_24 : decode cX6_becomeLike 24 = .ok (.aload_n 0, 1) := by decide +kernel
theorem dX6_becomeLike_25 : decode cX6_becomeLike 25 = .ok (.getfield 20, 3) := by decide +kernel
theorem dX6_becomeLike_28 : decode cX6_becomeLike 28 = .ok (.iload_n 2, 1) := by decide +kernel
theorem dX6_becomeLike_29 : decode cX6_becomeLike 29 = .ok (.aaload, 1) := by decide +kernel
theorem dX6_becomeLike_30 : decode cX6_becomeLike 30 = .ok (.aload_n 1, 1) := by decide +kernel
theorem dX6_becomeLike_31 : decode cX6_becomeLike 31 = .ok (.getfield 20, 3) := by decide +kernel
theorem dX6_becomeLike_34 : decode cX6_becomeLike 34 = .ok (.iload_n 2, 1) := by decide +kernel
theorem dX6_becomeLike_35 : decode cX6_becomeLike 35 = .ok (.aaload, 1) := by decide +kernel
theorem dX6_becomeLike_36 : decode cX6_becomeLike 36 = .ok (.invokevirtual 35, 3) := by decide +kernel
theorem dX6_becomeLike_39 : decode cX6_becomeLike 39 = .ok (.iinc 2 1, 3) := by decide +kernel
theorem dX6_becomeLike_42 : decode cX6_becomeLike 42 = .ok (.goto (-24), 3) := by decide +kernel
theorem dX6_becomeLike_45 : decode cX6_becomeLike 45 = .ok (.aload_n 1, 1) := by decide +kernel
theorem dX6_becomeLike_46 : decode cX6_becomeLike 46 = .ok (.getfield 24, 3) := by decide +kernel
theorem dX6_becomeLike_49 : decode cX6_becomeLike 49 = .ok (.iconst 0, 1) := by decide +kernel
theorem dX6_becomeLike_50 : decode cX6_becomeLike 50 = .ok (.aload_n 0, 1) := by decide +kernel
theorem dX6_becomeLike_51 : decode cX6_becomeLike 51 = .ok (.getfield 24, 3) := by decide +kernel
theorem dX6_becomeLike_54 : decode cX6_becomeLike 54 = .ok (.iconst 0, 1) := by decide +kernel
theorem dX6_becomeLike_55 : decode cX6_becomeLike 55 = .ok (.bipush 6, 2) := by decide +kernel
theorem dX6_becomeLike_57 : decode cX6_becomeLike 57 = .ok (.invokestatic 39, 3) := by decide +kernel
theorem dX6_becomeLike_60 : decode cX6_becomeLike 60 = .ok (.return_, 1) := by decide +kernel
theorem dX6_emptySlots_0 : decode cX6_emptySlots 0 = .ok (.iconst 0, 1) := by decide +kernel
theorem dX6_emptySlots_1 : decode cX6_emptySlots 1 = .ok (.istore_n 1, 1) := by decide +kernel
theorem dX6_emptySlots_2 : decode cX6_emptySlots 2 = .ok (.iload_n 1, 1) := by decide +kernel
theorem dX6_emptySlots_3 : decode cX6_emptySlots 3 = .ok (.bipush 6, 2) := by decide +kernel
theorem dX6_emptySlots_5 : decode cX6_emptySlots 5 = .ok (.if_icmp .ge 18, 3) := by decide +kernel
theorem dX6_emptySlots_8 : decode cX6_emptySlots 8 = .ok (.aload_n 0, 1) := by decide +kernel
theorem dX6_emptySlots_9 : decode cX6_emptySlots 9 = .ok (.getfield 20, 3) := by decide +kernel
theorem dX6_emptySlots_12 : decode cX6_emptySlots 12 = .ok (.iload_n 1, 1) := by decide +kernel
theorem dX6_emptySlots_13 : decode cX6_emptySlots 13 = .ok (.aaload, 1) := by decide +kernel
theorem dX6_emptySlots_14 : decode cX6_emptySlots 14 = .ok (.invokevirtual 45, 3) := by decide +kernel
theorem dX6_emptySlots_17 : decode cX6_emptySlots 17 = .ok (.iinc 1 1, 3) := by decide +kernel
theorem dX6_emptySlots_20 : decode cX6_emptySlots 20 = .ok (.goto (-18), 3) := by decide +kernel
theorem dX6_emptySlots_23 : decode cX6_emptySlots 23 = .ok (.return_, 1) := by decide +kernel
theorem dX6_heldSlots_0 : decode cX6_heldSlots 0 = .ok (.iconst 0, 1) := by decide +kernel
theorem dX6_heldSlots_1 : decode cX6_heldSlots 1 = .ok (.istore_n 1, 1) := by decide +kernel
theorem dX6_heldSlots_2 : decode cX6_heldSlots 2 = .ok (.iconst 0, 1) := by decide +kernel
theorem dX6_heldSlots_3 : decode cX6_heldSlots 3 = .ok (.istore_n 2, 1) := by decide +kernel
theorem dX6_heldSlots_4 : decode cX6_heldSlots 4 = .ok (.iload_n 2, 1) := by decide +kernel
theorem dX6_heldSlots_5 : decode cX6_heldSlots 5 = .ok (.bipush 6, 2) := by decide +kernel
theorem dX6_heldSlots_7 : decode cX6_heldSlots 7 = .ok (.if_icmp .ge 27, 3) := by decide +kernel
theorem dX6_heldSlots_10 : decode cX6_heldSlots 10 = .ok (.aload_n 0, 1) := by decide +kernel
theorem dX6_heldSlots_11 : decode cX6_heldSlots 11 = .ok (.getfield 20, 3) := by decide +kernel
theorem dX6_heldSlots_14 : decode cX6_heldSlots 14 = .ok (.iload_n 2, 1) := by decide +kernel
theorem dX6_heldSlots_15 : decode cX6_heldSlots 15 = .ok (.aaload, 1) := by decide +kernel
theorem dX6_heldSlots_16 : decode cX6_heldSlots 16 = .ok (.getfield 48, 3) := by decide +kernel
theorem dX6_heldSlots_19 : decode cX6_heldSlots 19 = .ok (.ifCond .eq 9, 3) := by decide +kernel
theorem dX6_heldSlots_22 : decode cX6_heldSlots 22 = .ok (.iload_n 1, 1) := by decide +kernel
theorem dX6_heldSlots_23 : decode cX6_heldSlots 23 = .ok (.iconst 1, 1) := by decide +kernel
theorem dX6_heldSlots_24 : decode cX6_heldSlots 24 = .ok (.iload_n 2, 1) := by decide +kernel
theorem dX6_heldSlots_25 : decode cX6_heldSlots 25 = .ok (.ishl, 1) := by decide +kernel
theorem dX6_heldSlots_26 : decode cX6_heldSlots 26 = .ok (.ior, 1) := by decide +kernel
theorem dX6_heldSlots_27 : decode cX6_heldSlots 27 = .ok (.istore_n 1, 1) := by decide +kernel
theorem dX6_heldSlots_28 : decode cX6_heldSlots 28 = .ok (.iinc 2 1, 3) := by decide +kernel
theorem dX6_heldSlots_31 : decode cX6_heldSlots 31 = .ok (.goto (-27), 3) := by decide +kernel
theorem dX6_heldSlots_34 : decode cX6_heldSlots 34 = .ok (.iload_n 1, 1) := by decide +kernel
theorem dX6_heldSlots_35 : decode cX6_heldSlots 35 = .ok (.ireturn, 1) := by decide +kernel
theorem dX6_lettersInAll_0 : decode cX6_lettersInAll 0 = .ok (.iconst 0, 1) := by decide +kernel
theorem dX6_lettersInAll_1 : decode cX6_lettersInAll 1 = .ok (.istore_n 1, 1) := by decide +kernel
theorem dX6_lettersInAll_2 : decode cX6_lettersInAll 2 = .ok (.iconst 0, 1) := by decide +kernel
theorem dX6_lettersInAll_3 : decode cX6_lettersInAll 3 = .ok (.istore_n 2, 1) := by decide +kernel
theorem dX6_lettersInAll_4 : decode cX6_lettersInAll 4 = .ok (.iload_n 2, 1) := by decide +kernel
theorem dX6_lettersInAll_5 : decode cX6_lettersInAll 5 = .ok (.bipush 6, 2) := by decide +kernel
theorem dX6_lettersInAll_7 : decode cX6_lettersInAll 7 = .ok (.if_icmp .ge 21, 3) := by decide +kernel
theorem dX6_lettersInAll_10 : decode cX6_lettersInAll 10 = .ok (.iload_n 1, 1) := by decide +kernel
theorem dX6_lettersInAll_11 : decode cX6_lettersInAll 11 = .ok (.aload_n 0, 1) := by decide +kernel
theorem dX6_lettersInAll_12 : decode cX6_lettersInAll 12 = .ok (.getfield 20, 3) := by decide +kernel
theorem dX6_lettersInAll_15 : decode cX6_lettersInAll 15 = .ok (.iload_n 2, 1) := by decide +kernel
theorem dX6_lettersInAll_16 : decode cX6_lettersInAll 16 = .ok (.aaload, 1) := by decide +kernel
theorem dX6_lettersInAll_17 : decode cX6_lettersInAll 17 = .ok (.getfield 51, 3) := by decide +kernel
theorem dX6_lettersInAll_20 : decode cX6_lettersInAll 20 = .ok (.iadd, 1) := by decide +kernel
theorem dX6_lettersInAll_21 : decode cX6_lettersInAll 21 = .ok (.istore_n 1, 1) := by decide +kernel
theorem dX6_lettersInAll_22 : decode cX6_lettersInAll 22 = .ok (.iinc 2 1, 3) := by decide +kernel
theorem dX6_lettersInAll_25 : decode cX6_lettersInAll 25 = .ok (.goto (-21), 3) := by decide +kernel
theorem dX6_lettersInAll_28 : decode cX6_lettersInAll 28 = .ok (.iload_n 1, 1) := by decide +kernel
theorem dX6_lettersInAll_29 : decode cX6_lettersInAll 29 = .ok (.ireturn, 1) := by decide +kernel
theorem dX6_draw_0 : decode cX6_draw 0 = .ok (.aload_n 0, 1) := by decide +kernel
theorem dX6_draw_1 : decode cX6_draw 1 = .ok (.aload_n 0, 1) := by decide +kernel
theorem dX6_draw_2 : decode cX6_draw 2 = .ok (.getfield 15, 3) := by decide +kernel
theorem dX6_draw_5 : decode cX6_draw 5 = .ok (.ldc 54, 2) := by decide +kernel
theorem dX6_draw_7 : decode cX6_draw 7 = .ok (.imul, 1) := by decide +kernel
theorem dX6_draw_8 : decode cX6_draw 8 = .ok (.sipush 12345, 3) := by decide +kernel
theorem dX6_draw_11 : decode cX6_draw 11 = .ok (.iadd, 1) := by decide +kernel
theorem dX6_draw_12 : decode cX6_draw 12 = .ok (.putfield 15, 3) := by decide +kernel
theorem dX6_draw_15 : decode cX6_draw 15 = .ok (.aload_n 0, 1) := by decide +kernel
theorem dX6_draw_16 : decode cX6_draw 16 = .ok (.getfield 15, 3) := by decide +kernel
theorem dX6_draw_19 : decode cX6_draw 19 = .ok (.bipush 16, 2) := by decide +kernel
theorem dX6_draw_21 : decode cX6_draw 21 = .ok (.iushr, 1) := by decide +kernel
theorem dX6_draw_22 : decode cX6_draw 22 = .ok (.ireturn, 1) := by decide +kernel
theorem dX7_init_0 : decode cX7_init 0 = .ok (.aload_n 0, 1) := by decide +kernel
theorem dX7_init_1 : decode cX7_init 1 = .ok (.invokespecial 3, 3) := by decide +kernel
theorem dX7_init_4 : decode cX7_init 4 = .ok (.aload_n 0, 1) := by decide +kernel
theorem dX7_init_5 : decode cX7_init 5 = .ok (.bipush 60, 2) := by decide +kernel
theorem dX7_init_7 : decode cX7_init 7 = .ok (.newarray .int, 2) := by decide +kernel
theorem dX7_init_9 : decode cX7_init 9 = .ok (.putfield 9, 3) := by decide +kernel
theorem dX7_init_12 : decode cX7_init 12 = .ok (.return_, 1) := by decide +kernel
theorem dX7_append_0 : decode cX7_append 0 = .ok (.iconst 0, 1) := by decide +kernel
theorem dX7_append_1 : decode cX7_append 1 = .ok (.istore 4, 2) := by decide +kernel
theorem dX7_append_3 : decode cX7_append 3 = .ok (.iload 4, 2) := by decide +kernel
theorem dX7_append_5 : decode cX7_append 5 = .ok (.iload_n 3, 1) := by decide +kernel
theorem dX7_append_6 : decode cX7_append 6 = .ok (.if_icmp .ge 40, 3) := by decide +kernel
theorem dX7_append_9 : decode cX7_append 9 = .ok (.aload_n 0, 1) := by decide +kernel
theorem dX7_append_10 : decode cX7_append 10 = .ok (.getfield 9, 3) := by decide +kernel
theorem dX7_append_13 : decode cX7_append 13 = .ok (.aload_n 0, 1) := by decide +kernel
theorem dX7_append_14 : decode cX7_append 14 = .ok (.getfield 15, 3) := by decide +kernel
theorem dX7_append_17 : decode cX7_append 17 = .ok (.lload_n 1, 1) := by decide +kernel
theorem dX7_append_18 : decode cX7_append 18 = .ok (.bipush 8, 2) := by decide +kernel
theorem dX7_append_20 : decode cX7_append 20 = .ok (.iload 4, 2) := by decide +kernel
theorem dX7_append_22 : decode cX7_append 22 = .ok (.imul, 1) := by decide +kernel
theorem dX7_append_23 : decode cX7_append 23 = .ok (.lushr, 1) := by decide +kernel
theorem dX7_append_24 : decode cX7_append 24 = .ok (.l2i, 1) := by decide +kernel
theorem dX7_append_25 : decode cX7_append 25 = .ok (.sipush 255, 3) := by decide +kernel
theorem dX7_append_28 : decode cX7_append 28 = .ok (.iand, 1) := by decide +kernel
theorem dX7_append_29 : decode cX7_append 29 = .ok (.iastore, 1) := by decide +kernel
theorem dX7_append_30 : decode cX7_append 30 = .ok (.aload_n 0, 1) := by decide +kernel
theorem dX7_append_31 : decode cX7_append 31 = .ok (.dup, 1) := by decide +kernel
theorem dX7_append_32 : decode cX7_append 32 = .ok (.getfield 15, 3) := by decide +kernel
theorem dX7_append_35 : decode cX7_append 35 = .ok (.iconst 1, 1) := by decide +kernel
theorem dX7_append_36 : decode cX7_append 36 = .ok (.iadd, 1) := by decide +kernel
theorem dX7_append_37 : decode cX7_append 37 = .ok (.putfield 15, 3) := by decide +kernel
theorem dX7_append_40 : decode cX7_append 40 = .ok (.iinc 4 1, 3) := by decide +kernel
theorem dX7_append_43 : decode cX7_append 43 = .ok (.goto (-40), 3) := by decide +kernel
theorem dX7_append_46 : decode cX7_append 46 = .ok (.return_, 1) := by decide +kernel
theorem dX7_useUp_0 : decode cX7_useUp 0 = .ok (.aload_n 0, 1) := by decide +kernel
theorem dX7_useUp_1 : decode cX7_useUp 1 = .ok (.iconst 0, 1) := by decide +kernel
theorem dX7_useUp_2 : decode cX7_useUp 2 = .ok (.putfield 15, 3) := by decide +kernel
theorem dX7_useUp_5 : decode cX7_useUp 5 = .ok (.return_, 1) := by decide +kernel
theorem dX7_rewind_0 : decode cX7_rewind 0 = .ok (.aload_n 0, 1) := by decide +kernel
theorem dX7_rewind_1 : decode cX7_rewind 1 = .ok (.iconst 0, 1) := by decide +kernel
theorem dX7_rewind_2 : decode cX7_rewind 2 = .ok (.putfield 19, 3) := by decide +kernel
theorem dX7_rewind_5 : decode cX7_rewind 5 = .ok (.return_, 1) := by decide +kernel
theorem dX7_goesOn_0 : decode cX7_goesOn 0 = .ok (.aload_n 0, 1) := by decide +kernel
theorem dX7_goesOn_1 : decode cX7_goesOn 1 = .ok (.getfield 19, 3) := by decide +kernel
theorem dX7_goesOn_4 : decode cX7_goesOn 4 = .ok (.aload_n 0, 1) := by decide +kernel
theorem dX7_goesOn_5 : decode cX7_goesOn 5 = .ok (.getfield 15, 3) := by decide +kernel
theorem dX7_goesOn_8 : decode cX7_goesOn 8 = .ok (.if_icmp .ge 30, 3) := by decide +kernel
theorem dX7_goesOn_11 : decode cX7_goesOn 11 = .ok (.aload_n 0, 1) := by decide +kernel
theorem dX7_goesOn_12 : decode cX7_goesOn 12 = .ok (.getfield 9, 3) := by decide +kernel
theorem dX7_goesOn_15 : decode cX7_goesOn 15 = .ok (.aload_n 0, 1) := by decide +kernel
theorem dX7_goesOn_16 : decode cX7_goesOn 16 = .ok (.getfield 19, 3) := by decide +kernel
theorem dX7_goesOn_19 : decode cX7_goesOn 19 = .ok (.iaload, 1) := by decide +kernel
theorem dX7_goesOn_20 : decode cX7_goesOn 20 = .ok (.bipush 32, 2) := by decide +kernel
theorem dX7_goesOn_22 : decode cX7_goesOn 22 = .ok (.if_icmp .ne 16, 3) := by decide +kernel
theorem dX7_goesOn_25 : decode cX7_goesOn 25 = .ok (.aload_n 0, 1) := by decide +kernel
theorem dX7_goesOn_26 : decode cX7_goesOn 26 = .ok (.dup, 1) := by decide +kernel
theorem dX7_goesOn_27 : decode cX7_goesOn 27 = .ok (.getfield 19, 3) := by decide +kernel
theorem dX7_goesOn_30 : decode cX7_goesOn 30 = .ok (.iconst 1, 1) := by decide +kernel
theorem dX7_goesOn_31 : decode cX7_goesOn 31 = .ok (.iadd, 1) := by decide +kernel
theorem dX7_goesOn_32 : decode cX7_goesOn 32 = .ok (.putfield 19, 3) := by decide +kernel
theorem dX7_goesOn_35 : decode cX7_goesOn 35 = .ok (.goto (-35), 3) := by decide +kernel
theorem dX7_goesOn_38 : decode cX7_goesOn 38 = .ok (.aload_n 0, 1) := by decide +kernel
theorem dX7_goesOn_39 : decode cX7_goesOn 39 = .ok (.getfield 19, 3) := by decide +kernel
theorem dX7_goesOn_42 : decode cX7_goesOn 42 = .ok (.aload_n 0, 1) := by decide +kernel
theorem dX7_goesOn_43 : decode cX7_goesOn 43 = .ok (.getfield 15, 3) := by decide +kernel
theorem dX7_goesOn_46 : decode cX7_goesOn 46 = .ok (.if_icmp .ge 7, 3) := by decide +kernel
theorem dX7_goesOn_49 : decode cX7_goesOn 49 = .ok (.iconst 1, 1) := by decide +kernel
theorem dX7_goesOn_50 : decode cX7_goesOn 50 = .ok (.goto 4, 3) := by decide +kernel
theorem dX7_goesOn_53 : decode cX7_goesOn 53 = .ok (.iconst 0, 1) := by decide +kernel
theorem dX7_goesOn_54 : decode cX7_goesOn 54 = .ok (.ireturn, 1) := by decide +kernel
theorem dX7_readsTableau_0 : decode cX7_readsTableau 0 = .ok (.aload_n 1, 1) := by decide +kernel
theorem dX7_readsTableau_1 : decode cX7_readsTableau 1 = .ok (.invokevirtual 22, 3) := by decide +kernel
theorem dX7_readsTableau_4 : decode cX7_readsTableau 4 = .ok (.aload_n 0, 1) := by decide +kernel
theorem dX7_readsTableau_5 : decode cX7_readsTableau 5 = .ok (.invokevirtual 27, 3) := by decide +kernel
theorem dX7_readsTableau_8 : decode cX7_readsTableau 8 = .ok (.iconst 0, 1) := by decide +kernel
theorem dX7_readsTableau_9 : decode cX7_readsTableau 9 = .ok (.istore_n 3, 1) := by decide +kernel
theorem dX7_readsTableau_10 : decode cX7_readsTableau 10 = .ok (.iconst 0, 1) := by decide +kernel
theorem dX7_readsTableau_11 : decode cX7_readsTableau 11 = .ok (.istore 4, 2) := by decide +kernel
theorem dX7_readsTableau_13 : decode cX7_readsTableau 13 = .ok (.iload 4, 2) := by decide +kernel
theorem dX7_readsTableau_15 : decode cX7_readsTableau 15 = .ok (.bipush 60, 2) := by decide +kernel
theorem dX7_readsTableau_17 : decode cX7_readsTableau 17 = .ok (.if_icmp .ge 105, 3) := by decide +kernel
theorem dX7_readsTableau_20 : decode cX7_readsTableau 20 = .ok (.aload_n 0, 1) := by decide +kernel
theorem dX7_readsTableau_21 : decode cX7_readsTableau 21 = .ok (.invokevirtual 30, 3) := by decide +kernel
theorem dX7_readsTableau_24 : decode cX7_readsTableau 24 = .ok (.ifCond .eq 98, 3) := by decide +kernel
theorem dX7_readsTableau_27 : decode cX7_readsTableau 27 = .ok (.aload_n 0, 1) := by decide +kernel
theorem dX7_readsTableau_28 : decode cX7_readsTableau 28 = .ok (.getfield 9, 3) := by decide +kernel
theorem dX7_readsTableau_31 : decode cX7_readsTableau 31 = .ok (.aload_n 0, 1) := by decide +kernel
theorem dX7_readsTableau_32 : decode cX7_readsTableau 32 = .ok (.getfield 19, 3) := by decide +kernel
theorem dX7_readsTableau_35 : decode cX7_readsTableau 35 = .ok (.iaload, 1) := by decide +kernel
theorem dX7_readsTableau_36 : decode cX7_readsTableau 36 = .ok (.bipush 47, 2) := by decide +kernel
theorem dX7_readsTableau_38 : decode cX7_readsTableau 38 = .ok (.if_icmp .ne 17, 3) := by decide +kernel
theorem dX7_readsTableau_41 : decode cX7_readsTableau 41 = .ok (.aload_n 1, 1) := by decide +kernel
theorem dX7_readsTableau_42 : decode cX7_readsTableau 42 = .ok (.iload_n 3, 1) := by decide +kernel
theorem dX7_readsTableau_43 : decode cX7_readsTableau 43 = .ok (.invokevirtual 34, 3) := by decide +kernel
theorem dX7_readsTableau_46 : decode cX7_readsTableau 46 = .ok (.ifCond .eq 9, 3) := by decide +kernel
theorem dX7_readsTableau_49 : decode cX7_readsTableau 49 = .ok (.iinc 3 1, 3) := by decide +kernel
theorem dX7_readsTableau_52 : decode cX7_readsTableau 52 = .ok (.goto 54, 3) := by decide +kernel
theorem dX7_readsTableau_55 : decode cX7_readsTableau 55 = .ok (.aload_n 0, 1) := by decide +kernel
theorem dX7_readsTableau_56 : decode cX7_readsTableau 56 = .ok (.iconst 1, 1) := by decide +kernel
theorem dX7_readsTableau_57 : decode cX7_readsTableau 57 = .ok (.iload_n 2, 1) := by decide +kernel
theorem dX7_readsTableau_58 : decode cX7_readsTableau 58 = .ok (.invokevirtual 38, 3) := by decide +kernel
theorem dX7_readsTableau_61 : decode cX7_readsTableau 61 = .ok (.ifCond .eq 43, 3) := by decide +kernel
theorem dX7_readsTableau_64 : decode cX7_readsTableau 64 = .ok (.aload_n 1, 1) := by decide +kernel
theorem dX7_readsTableau_65 : decode cX7_readsTableau 65 = .ok (.iload_n 3, 1) := by decide +kernel
theorem dX7_readsTableau_66 : decode cX7_readsTableau 66 = .ok (.aload_n 0, 1) := by decide +kernel
theorem dX7_readsTableau_67 : decode cX7_readsTableau 67 = .ok (.getfield 9, 3) := by decide +kernel
theorem dX7_readsTableau_70 : decode cX7_readsTableau 70 = .ok (.aload_n 0, 1) := by decide +kernel
theorem dX7_readsTableau_71 : decode cX7_readsTableau 71 = .ok (.getfield 19, 3) := by decide +kernel
theorem dX7_readsTableau_74 : decode cX7_readsTableau 74 = .ok (.iaload, 1) := by decide +kernel
theorem dX7_readsTableau_75 : decode cX7_readsTableau 75 = .ok (.bipush 48, 2) := by decide +kernel
theorem dX7_readsTableau_77 : decode cX7_readsTableau 77 = .ok (.isub, 1) := by decide +kernel
theorem dX7_readsTableau_78 : decode cX7_readsTableau 78 = .ok (.invokevirtual 42, 3) := by decide +kernel
theorem dX7_readsTableau_81 : decode cX7_readsTableau 81 = .ok (.ifCond .eq 23, 3) := by decide +kernel
theorem dX7_readsTableau_84 : decode cX7_readsTableau 84 = .ok (.aload_n 1, 1) := by decide +kernel
theorem dX7_readsTableau_85 : decode cX7_readsTableau 85 = .ok (.iload_n 3, 1) := by decide +kernel
theorem dX7_readsTableau_86 : decode cX7_readsTableau 86 = .ok (.aload_n 0, 1) := by decide +kernel
theorem dX7_readsTableau_87 : decode cX7_readsTableau 87 = .ok (.getfield 9, 3) := by decide +kernel
theorem dX7_readsTableau_90 : decode cX7_readsTableau 90 = .ok (.aload_n 0, 1) := by decide +kernel
theorem dX7_readsTableau_91 : decode cX7_readsTableau 91 = .ok (.getfield 19, 3) := by decide +kernel
theorem dX7_readsTableau_94 : decode cX7_readsTableau 94 = .ok (.iaload, 1) := by decide +kernel
theorem dX7_readsTableau_95 : decode cX7_readsTableau 95 = .ok (.bipush 48, 2) := by decide +kernel
theorem dX7_readsTableau_97 : decode cX7_readsTableau 97 = .ok (.isub, 1) := by decide +kernel
theorem dX7_readsTableau_98 : decode cX7_readsTableau 98 = .ok (.invokevirtual 45, 3) := by decide +kernel
theorem dX7_readsTableau_101 : decode cX7_readsTableau 101 = .ok (.goto 5, 3) := by decide +kernel
theorem dX7_readsTableau_104 : decode cX7_readsTableau 104 = .ok (.iconst 0, 1) := by decide +kernel
theorem dX7_readsTableau_105 : decode cX7_readsTableau 105 = .ok (.ireturn, 1) := by decide +kernel
theorem dX7_readsTableau_106 : decode cX7_readsTableau 106 = .ok (.aload_n 0, 1) := by decide +kernel
theorem dX7_readsTableau_107 : decode cX7_readsTableau 107 = .ok (.dup, 1) := by decide +kernel
theorem dX7_readsTableau_108 : decode cX7_readsTableau 108 = .ok (.getfield 19, 3) := by decide +kernel
theorem dX7_readsTableau_111 : decode cX7_readsTableau 111 = .ok (.iconst 1, 1) := by decide +kernel
theorem dX7_readsTableau_112 : decode cX7_readsTableau 112 = .ok (.iadd, 1) := by decide +kernel
theorem dX7_readsTableau_113 : decode cX7_readsTableau 113 = .ok (.putfield 19, 3) := by decide +kernel
theorem dX7_readsTableau_116 : decode cX7_readsTableau 116 = .ok (.iinc 4 1, 3) := by decide +kernel
theorem dX7_readsTableau_119 : decode cX7_readsTableau 119 = .ok (.goto (-106), 3) := by decide +kernel
theorem dX7_readsTableau_122 : decode cX7_readsTableau 122 = .ok (.iload_n 3, 1) := by decide +kernel
theorem dX7_readsTableau_123 : decode cX7_readsTableau 123 = .ok (.ifCond .eq 11, 3) := by decide +kernel
theorem dX7_readsTableau_126 : decode cX7_readsTableau 126 = .ok (.aload_n 1, 1) := by decide +kernel
theorem dX7_readsTableau_127 : decode cX7_readsTableau 127 = .ok (.iload_n 3, 1) := by decide +kernel
theorem dX7_readsTableau_128 : decode cX7_readsTableau 128 = .ok (.invokevirtual 34, 3) := by decide +kernel
theorem dX7_readsTableau_131 : decode cX7_readsTableau 131 = .ok (.ifCond .eq 7, 3) := by decide +kernel
theorem dX7_readsTableau_134 : decode cX7_readsTableau 134 = .ok (.iconst 1, 1) := by decide +kernel
theorem dX7_readsTableau_135 : decode cX7_readsTableau 135 = .ok (.goto 4, 3) := by decide +kernel
theorem dX7_readsTableau_138 : decode cX7_readsTableau 138 = .ok (.iconst 0, 1) := by decide +kernel
theorem dX7_readsTableau_139 : decode cX7_readsTableau 139 = .ok (.ireturn, 1) := by decide +kernel
theorem dX7_readsAct_0 : decode cX7_readsAct 0 = .ok (.aload_n 0, 1) := by decide +kernel
theorem dX7_readsAct_1 : decode cX7_readsAct 1 = .ok (.invokevirtual 49, 3) := by decide +kernel
theorem dX7_readsAct_4 : decode cX7_readsAct 4 = .ok (.ifCond .eq 30, 3) := by decide +kernel
theorem dX7_readsAct_7 : decode cX7_readsAct 7 = .ok (.aload_n 0, 1) := by decide +kernel
theorem dX7_readsAct_8 : decode cX7_readsAct 8 = .ok (.getfield 52, 3) := by decide +kernel
theorem dX7_readsAct_11 : decode cX7_readsAct 11 = .ok (.iconst 5, 1) := by decide +kernel
theorem dX7_readsAct_12 : decode cX7_readsAct 12 = .ok (.if_icmp .eq 11, 3) := by decide +kernel
theorem dX7_readsAct_15 : decode cX7_readsAct 15 = .ok (.aload_n 0, 1) := by decide +kernel
theorem dX7_readsAct_16 : decode cX7_readsAct 16 = .ok (.iload_n 1, 1) := by decide +kernel
theorem dX7_readsAct_17 : decode cX7_readsAct 17 = .ok (.invokevirtual 55, 3) := by decide +kernel
theorem dX7_readsAct_20 : decode cX7_readsAct 20 = .ok (.ifCond .eq 14, 3) := by decide +kernel
theorem dX7_readsAct_23 : decode cX7_readsAct 23 = .ok (.aload_n 0, 1) := by decide +kernel
theorem dX7_readsAct_24 : decode cX7_readsAct 24 = .ok (.invokevirtual 58, 3) := by decide +kernel
theorem dX7_readsAct_27 : decode cX7_readsAct 27 = .ok (.ifCond .eq 7, 3) := by decide +kernel
theorem dX7_readsAct_30 : decode cX7_readsAct 30 = .ok (.iconst 1, 1) := by decide +kernel
theorem dX7_readsAct_31 : decode cX7_readsAct 31 = .ok (.goto 4, 3) := by decide +kernel
theorem dX7_readsAct_34 : decode cX7_readsAct 34 = .ok (.iconst 0, 1) := by decide +kernel
theorem dX7_readsAct_35 : decode cX7_readsAct 35 = .ok (.ireturn, 1) := by decide +kernel
theorem dX7_readsName_0 : decode cX7_readsName 0 = .ok (.aload_n 0, 1) := by decide +kernel
theorem dX7_readsName_1 : decode cX7_readsName 1 = .ok (.invokevirtual 30, 3) := by decide +kernel
theorem dX7_readsName_4 : decode cX7_readsName 4 = .ok (.pop, 1) := by decide +kernel
theorem dX7_readsName_5 : decode cX7_readsName 5 = .ok (.aload_n 0, 1) := by decide +kernel
theorem dX7_readsName_6 : decode cX7_readsName 6 = .ok (.invokevirtual 61, 3) := by decide +kernel
theorem dX7_readsName_9 : decode cX7_readsName 9 = .ok (.istore_n 1, 1) := by decide +kernel
theorem dX7_readsName_10 : decode cX7_readsName 10 = .ok (.iconst 0, 1) := by decide +kernel
theorem dX7_readsName_11 : decode cX7_readsName 11 = .ok (.istore_n 2, 1) := by decide +kernel
theorem dX7_readsName_12 : decode cX7_readsName 12 = .ok (.iload_n 2, 1) := by decide +kernel
theorem dX7_readsName_13 : decode cX7_readsName 13 = .ok (.iconst 5, 1) := by decide +kernel
theorem dX7_readsName_14 : decode cX7_readsName 14 = .ok (.if_icmp .gt 33, 3) := by decide +kernel
theorem dX7_readsName_17 : decode cX7_readsName 17 = .ok (.aload_n 0, 1) := by decide +kernel
theorem dX7_readsName_18 : decode cX7_readsName 18 = .ok (.iload_n 2, 1) := by decide +kernel
theorem dX7_readsName_19 : decode cX7_readsName 19 = .ok (.invokestatic 65, 3) := by decide +kernel
theorem dX7_readsName_22 : decode cX7_readsName 22 = .ok (.iload_n 1, 1) := by decide +kernel
theorem dX7_readsName_23 : decode cX7_readsName 23 = .ok (.invokevirtual 69, 3) := by decide +kernel
theorem dX7_readsName_26 : decode cX7_readsName 26 = .ok (.ifCond .eq 15, 3) := by decide +kernel
theorem dX7_readsName_29 : decode cX7_readsName 29 = .ok (.aload_n 0, 1) := by decide +kernel
theorem dX7_readsName_30 : decode cX7_readsName 30 = .ok (.iload_n 2, 1) := by decide +kernel
theorem dX7_readsName_31 : decode cX7_readsName 31 = .ok (.putfield 52, 3) := by decide +kernel
theorem dX7_readsName_34 : decode cX7_readsName 34 = .ok (.aload_n 0, 1) := by decide +kernel
theorem dX7_readsName_35 : decode cX7_readsName 35 = .ok (.iload_n 1, 1) := by decide +kernel
theorem dX7_readsName_36 : decode cX7_readsName 36 = .ok (.putfield 19, 3) := by decide +kernel
theorem dX7_readsName_39 : decode cX7_readsName 39 = .ok (.iconst 1, 1) := by decide +kernel
theorem dX7_readsName_40 : decode cX7_readsName 40 = .ok (.ireturn, 1) := by decide +kernel
theorem dX7_readsName_41 : decode cX7_readsName 41 = .ok (.iinc 2 1, 3) := by decide +kernel
theorem dX7_readsName_44 : decode cX7_readsName 44 = .ok (.goto (-32), 3) := by decide +kernel
theorem dX7_readsName_47 : decode cX7_readsName 47 = .ok (.iconst 0, 1) := by decide +kernel
theorem dX7_readsName_48 : decode cX7_readsName 48 = .ok (.ireturn, 1) := by decide +kernel
theorem dX7_endOfName_0 : decode cX7_endOfName 0 = .ok (.aload_n 0, 1) := by decide +kernel
theorem dX7_endOfName_1 : decode cX7_endOfName 1 = .ok (.getfield 19, 3) := by decide +kernel
theorem dX7_endOfName_4 : decode cX7_endOfName 4 = .ok (.istore_n 1, 1) := by decide +kernel
theorem dX7_endOfName_5 : decode cX7_endOfName 5 = .ok (.iload_n 1, 1) := by decide +kernel
theorem dX7_endOfName_6 : decode cX7_endOfName 6 = .ok (.aload_n 0, 1) := by decide +kernel
theorem dX7_endOfName_7 : decode cX7_endOfName 7 = .ok (.getfield 15, 3) := by decide +kernel
theorem dX7_endOfName_10 : decode cX7_endOfName 10 = .ok (.if_icmp .ge 31, 3) := by decide +kernel
theorem dX7_endOfName_13 : decode cX7_endOfName 13 = .ok (.aload_n 0, 1) := by decide +kernel
theorem dX7_endOfName_14 : decode cX7_endOfName 14 = .ok (.getfield 9, 3) := by decide +kernel
theorem dX7_endOfName_17 : decode cX7_endOfName 17 = .ok (.iload_n 1, 1) := by decide +kernel
theorem dX7_endOfName_18 : decode cX7_endOfName 18 = .ok (.iaload, 1) := by decide +kernel
theorem dX7_endOfName_19 : decode cX7_endOfName 19 = .ok (.bipush 97, 2) := by decide +kernel
theorem dX7_endOfName_21 : decode cX7_endOfName 21 = .ok (.if_icmp .lt 20, 3) := by decide +kernel
theorem dX7_endOfName_24 : decode cX7_endOfName 24 = .ok (.aload_n 0, 1) := by decide +kernel
theorem dX7_endOfName_25 : decode cX7_endOfName 25 = .ok (.getfield 9, 3) := by decide +kernel
theorem dX7_endOfName_28 : decode cX7_endOfName 28 = .ok (.iload_n 1, 1) := by decide +kernel
theorem dX7_endOfName_29 : decode cX7_endOfName 29 = .ok (.iaload, 1) := by decide +kernel
theorem dX7_endOfName_30 : decode cX7_endOfName 30 = .ok (.bipush 122, 2) := by decide +kernel
theorem dX7_endOfName_32 : decode cX7_endOfName 32 = .ok (.if_icmp .gt 9, 3) := by decide +kernel
theorem dX7_endOfName_35 : decode cX7_endOfName 35 = .ok (.iinc 1 1, 3) := by decide +kernel
theorem dX7_endOfName_38 : decode cX7_endOfName 38 = .ok (.goto (-33), 3) := by decide +kernel
theorem dX7_endOfName_41 : decode cX7_endOfName 41 = .ok (.iload_n 1, 1) := by decide +kernel
theorem dX7_endOfName_42 : decode cX7_endOfName 42 = .ok (.ireturn, 1) := by decide +kernel
theorem dX7_isName_0 : decode cX7_isName 0 = .ok (.iload_n 2, 1) := by decide +kernel
theorem dX7_isName_1 : decode cX7_isName 1 = .ok (.aload_n 0, 1) := by decide +kernel
theorem dX7_isName_2 : decode cX7_isName 2 = .ok (.getfield 19, 3) := by decide +kernel
theorem dX7_isName_5 : decode cX7_isName 5 = .ok (.isub, 1) := by decide +kernel
theorem dX7_isName_6 : decode cX7_isName 6 = .ok (.aload_n 1, 1) := by decide +kernel
theorem dX7_isName_7 : decode cX7_isName 7 = .ok (.invokevirtual 73, 3) := by decide +kernel
theorem dX7_isName_10 : decode cX7_isName 10 = .ok (.if_icmp .eq 5, 3) := by decide +kernel
theorem dX7_isName_13 : decode cX7_isName 13 = .ok (.iconst 0, 1) := by decide +kernel
theorem dX7_isName_14 : decode cX7_isName 14 = .ok (.ireturn, 1) := by decide +kernel
theorem dX7_isName_15 : decode cX7_isName 15 = .ok (.iconst 0, 1) := by decide +kernel
theorem dX7_isName_16 : decode cX7_isName 16 = .ok (.istore_n 3, 1) := by decide +kernel
theorem dX7_isName_17 : decode cX7_isName 17 = .ok (.iload_n 3, 1) := by decide +kernel
theorem dX7_isName_18 : decode cX7_isName 18 = .ok (.aload_n 1, 1) := by decide +kernel
theorem dX7_isName_19 : decode cX7_isName 19 = .ok (.invokevirtual 73, 3) := by decide +kernel
theorem dX7_isName_22 : decode cX7_isName 22 = .ok (.if_icmp .ge 30, 3) := by decide +kernel
theorem dX7_isName_25 : decode cX7_isName 25 = .ok (.aload_n 0, 1) := by decide +kernel
theorem dX7_isName_26 : decode cX7_isName 26 = .ok (.getfield 9, 3) := by decide +kernel
theorem dX7_isName_29 : decode cX7_isName 29 = .ok (.aload_n 0, 1) := by decide +kernel
theorem dX7_isName_30 : decode cX7_isName 30 = .ok (.getfield 19, 3) := by decide +kernel
theorem dX7_isName_33 : decode cX7_isName 33 = .ok (.iload_n 3, 1) := by decide +kernel
theorem dX7_isName_34 : decode cX7_isName 34 = .ok (.iadd, 1) := by decide +kernel
theorem dX7_isName_35 : decode cX7_isName 35 = .ok (.iaload, 1) := by decide +kernel
theorem dX7_isName_36 : decode cX7_isName 36 = .ok (.aload_n 1, 1) := by decide +kernel
theorem dX7_isName_37 : decode cX7_isName 37 = .ok (.iload_n 3, 1) := by decide +kernel
theorem dX7_isName_38 : decode cX7_isName 38 = .ok (.invokevirtual 77, 3) := by decide +kernel
theorem dX7_isName_41 : decode cX7_isName 41 = .ok (.if_icmp .eq 5, 3) := by decide +kernel
theorem dX7_isName_44 : decode cX7_isName 44 = .ok (.iconst 0, 1) := by decide +kernel
theorem dX7_isName_45 : decode cX7_isName 45 = .ok (.ireturn, 1) := by decide +kernel
theorem dX7_isName_46 : decode cX7_isName 46 = .ok (.iinc 3 1, 3) := by decide +kernel
theorem dX7_isName_49 : decode cX7_isName 49 = .ok (.goto (-32), 3) := by decide +kernel
theorem dX7_isName_52 : decode cX7_isName 52 = .ok (.iconst 1, 1) := by decide +kernel
theorem dX7_isName_53 : decode cX7_isName 53 = .ok (.ireturn, 1) := by decide +kernel
theorem dX7_nameOf_0 : decode cX7_nameOf 0 = .ok (.iload_n 0, 1) := by decide +kernel
theorem dX7_nameOf_1 : decode cX7_nameOf 1 = .ok (.tableswitch 50 0 4 #[35, 38, 41, 44, 47], 35) := by decide +kernel
theorem dX7_nameOf_36 : decode cX7_nameOf 36 = .ok (.ldc 81, 2) := by decide +kernel
theorem dX7_nameOf_38 : decode cX7_nameOf 38 = .ok (.areturn, 1) := by decide +kernel
theorem dX7_nameOf_39 : decode cX7_nameOf 39 = .ok (.ldc 83, 2) := by decide +kernel
theorem dX7_nameOf_41 : decode cX7_nameOf 41 = .ok (.areturn, 1) := by decide +kernel
theorem dX7_nameOf_42 : decode cX7_nameOf 42 = .ok (.ldc 85, 2) := by decide +kernel
theorem dX7_nameOf_44 : decode cX7_nameOf 44 = .ok (.areturn, 1) := by decide +kernel
theorem dX7_nameOf_45 : decode cX7_nameOf 45 = .ok (.ldc 87, 2) := by decide +kernel
theorem dX7_nameOf_47 : decode cX7_nameOf 47 = .ok (.areturn, 1) := by decide +kernel
theorem dX7_nameOf_48 : decode cX7_nameOf 48 = .ok (.ldc 89, 2) := by decide +kernel
theorem dX7_nameOf_50 : decode cX7_nameOf 50 = .ok (.areturn, 1) := by decide +kernel
theorem dX7_nameOf_51 : decode cX7_nameOf 51 = .ok (.ldc 91, 2) := by decide +kernel
theorem dX7_nameOf_53 : decode cX7_nameOf 53 = .ok (.areturn, 1) := by decide +kernel
theorem dX7_readsStep_0 : decode cX7_readsStep 0 = .ok (.aload_n 0, 1) := by decide +kernel
theorem dX7_readsStep_1 : decode cX7_readsStep 1 = .ok (.invokevirtual 30, 3) := by decide +kernel
theorem dX7_readsStep_4 : decode cX7_readsStep 4 = .ok (.ifCond .eq 14, 3) := by decide +kernel
theorem dX7_readsStep_7 : decode cX7_readsStep 7 = .ok (.aload_n 0, 1) := by decide +kernel
theorem dX7_readsStep_8 : decode cX7_readsStep 8 = .ok (.iconst 1, 1) := by decide +kernel
theorem dX7_readsStep_9 : decode cX7_readsStep 9 = .ok (.iload_n 1, 1) := by decide +kernel
theorem dX7_readsStep_10 : decode cX7_readsStep 10 = .ok (.iconst 1, 1) := by decide +kernel
theorem dX7_readsStep_11 : decode cX7_readsStep 11 = .ok (.isub, 1) := by decide +kernel
theorem dX7_readsStep_12 : decode cX7_readsStep 12 = .ok (.invokevirtual 38, 3) := by decide +kernel
theorem dX7_readsStep_15 : decode cX7_readsStep 15 = .ok (.ifCond .ne 5, 3) := by decide +kernel
theorem dX7_readsStep_18 : decode cX7_readsStep 18 = .ok (.iconst 0, 1) := by decide +kernel
theorem dX7_readsStep_19 : decode cX7_readsStep 19 = .ok (.ireturn, 1) := by decide +kernel
theorem dX7_readsStep_20 : decode cX7_readsStep 20 = .ok (.aload_n 0, 1) := by decide +kernel
theorem dX7_readsStep_21 : decode cX7_readsStep 21 = .ok (.aload_n 0, 1) := by decide +kernel
theorem dX7_readsStep_22 : decode cX7_readsStep 22 = .ok (.getfield 9, 3) := by decide +kernel
theorem dX7_readsStep_25 : decode cX7_readsStep 25 = .ok (.aload_n 0, 1) := by decide +kernel
theorem dX7_readsStep_26 : decode cX7_readsStep 26 = .ok (.getfield 19, 3) := by decide +kernel
theorem dX7_readsStep_29 : decode cX7_readsStep 29 = .ok (.iaload, 1) := by decide +kernel
theorem dX7_readsStep_30 : decode cX7_readsStep 30 = .ok (.bipush 48, 2) := by decide +kernel
theorem dX7_readsStep_32 : decode cX7_readsStep 32 = .ok (.isub, 1) := by decide +kernel
theorem dX7_readsStep_33 : decode cX7_readsStep 33 = .ok (.putfield 93, 3) := by decide +kernel
theorem dX7_readsStep_36 : decode cX7_readsStep 36 = .ok (.aload_n 0, 1) := by decide +kernel
theorem dX7_readsStep_37 : decode cX7_readsStep 37 = .ok (.dup, 1) := by decide +kernel
theorem dX7_readsStep_38 : decode cX7_readsStep 38 = .ok (.getfield 19, 3) := by decide +kernel
theorem dX7_readsStep_41 : decode cX7_readsStep 41 = .ok (.iconst 1, 1) := by decide +kernel
theorem dX7_readsStep_42 : decode cX7_readsStep 42 = .ok (.iadd, 1) := by decide +kernel
theorem dX7_readsStep_43 : decode cX7_readsStep 43 = .ok (.putfield 19, 3) := by decide +kernel
theorem dX7_readsStep_46 : decode cX7_readsStep 46 = .ok (.iconst 1, 1) := by decide +kernel
theorem dX7_readsStep_47 : decode cX7_readsStep 47 = .ok (.ireturn, 1) := by decide +kernel
theorem dX7_readsSemicolon_0 : decode cX7_readsSemicolon 0 = .ok (.aload_n 0, 1) := by decide +kernel
theorem dX7_readsSemicolon_1 : decode cX7_readsSemicolon 1 = .ok (.invokevirtual 30, 3) := by decide +kernel
theorem dX7_readsSemicolon_4 : decode cX7_readsSemicolon 4 = .ok (.ifCond .eq 17, 3) := by decide +kernel
theorem dX7_readsSemicolon_7 : decode cX7_readsSemicolon 7 = .ok (.aload_n 0, 1) := by decide +kernel
theorem dX7_readsSemicolon_8 : decode cX7_readsSemicolon 8 = .ok (.getfield 9, 3) := by decide +kernel
theorem dX7_readsSemicolon_11 : decode cX7_readsSemicolon 11 = .ok (.aload_n 0, 1) := by decide +kernel
theorem dX7_readsSemicolon_12 : decode cX7_readsSemicolon 12 = .ok (.getfield 19, 3) := by decide +kernel
theorem dX7_readsSemicolon_15 : decode cX7_readsSemicolon 15 = .ok (.iaload, 1) := by decide +kernel
theorem dX7_readsSemicolon_16 : decode cX7_readsSemicolon 16 = .ok (.bipush 59, 2) := by decide +kernel
theorem dX7_readsSemicolon_18 : decode cX7_readsSemicolon 18 = .ok (.if_icmp .eq 5, 3) := by decide +kernel
theorem dX7_readsSemicolon_21 : decode cX7_readsSemicolon 21 = .ok (.iconst 0, 1) := by decide +kernel
theorem dX7_readsSemicolon_22 : decode cX7_readsSemicolon 22 = .ok (.ireturn, 1) := by decide +kernel
theorem dX7_readsSemicolon_23 : decode cX7_readsSemicolon 23 = .ok (.aload_n 0, 1) := by decide +kernel
theorem dX7_readsSemicolon_24 : decode cX7_readsSemicolon 24 = .ok (.dup, 1) := by decide +kernel
theorem dX7_readsSemicolon_25 : decode cX7_readsSemicolon 25 = .ok (.getfield 19, 3) := by decide +kernel
theorem dX7_readsSemicolon_28 : decode cX7_readsSemicolon 28 = .ok (.iconst 1, 1) := by decide +kernel
theorem dX7_readsSemicolon_29 : decode cX7_readsSemicolon 29 = .ok (.iadd, 1) := by decide +kernel
theorem dX7_readsSemicolon_30 : decode cX7_readsSemicolon 30 = .ok (.putfield 19, 3) := by decide +kernel
theorem dX7_readsSemicolon_33 : decode cX7_readsSemicolon 33 = .ok (.iconst 1, 1) := by decide +kernel
theorem dX7_readsSemicolon_34 : decode cX7_readsSemicolon 34 = .ok (.ireturn, 1) := by decide +kernel
theorem dX7_isDigit_0 : decode cX7_isDigit 0 = .ok (.aload_n 0, 1) := by decide +kernel
theorem dX7_isDigit_1 : decode cX7_isDigit 1 = .ok (.getfield 9, 3) := by decide +kernel
theorem dX7_isDigit_4 : decode cX7_isDigit 4 = .ok (.aload_n 0, 1) := by decide +kernel
theorem dX7_isDigit_5 : decode cX7_isDigit 5 = .ok (.getfield 19, 3) := by decide +kernel
theorem dX7_isDigit_8 : decode cX7_isDigit 8 = .ok (.iaload, 1) := by decide +kernel
theorem dX7_isDigit_9 : decode cX7_isDigit 9 = .ok (.bipush 48, 2) := by decide +kernel
theorem dX7_isDigit_11 : decode cX7_isDigit 11 = .ok (.iload_n 1, 1) := by decide +kernel
theorem dX7_isDigit_12 : decode cX7_isDigit 12 = .ok (.iadd, 1) := by decide +kernel
theorem dX7_isDigit_13 : decode cX7_isDigit 13 = .ok (.if_icmp .lt 23, 3) := by decide +kernel
theorem dX7_isDigit_16 : decode cX7_isDigit 16 = .ok (.aload_n 0, 1) := by decide +kernel
theorem dX7_isDigit_17 : decode cX7_isDigit 17 = .ok (.getfield 9, 3) := by decide +kernel
theorem dX7_isDigit_20 : decode cX7_isDigit 20 = .ok (.aload_n 0, 1) := by decide +kernel
theorem dX7_isDigit_21 : decode cX7_isDigit 21 = .ok (.getfield 19, 3) := by decide +kernel
theorem dX7_isDigit_24 : decode cX7_isDigit 24 = .ok (.iaload, 1) := by decide +kernel
theorem dX7_isDigit_25 : decode cX7_isDigit 25 = .ok (.bipush 48, 2) := by decide +kernel
theorem dX7_isDigit_27 : decode cX7_isDigit 27 = .ok (.iload_n 2, 1) := by decide +kernel
theorem dX7_isDigit_28 : decode cX7_isDigit 28 = .ok (.iadd, 1) := by decide +kernel
theorem dX7_isDigit_29 : decode cX7_isDigit 29 = .ok (.if_icmp .gt 7, 3) := by decide +kernel
theorem dX7_isDigit_32 : decode cX7_isDigit 32 = .ok (.iconst 1, 1) := by decide +kernel
theorem dX7_isDigit_33 : decode cX7_isDigit 33 = .ok (.goto 4, 3) := by decide +kernel
theorem dX7_isDigit_36 : decode cX7_isDigit 36 = .ok (.iconst 0, 1) := by decide +kernel
theorem dX7_isDigit_37 : decode cX7_isDigit 37 = .ok (.ireturn, 1) := by decide +kernel
theorem dX8_init_0 : decode cX8_init 0 = .ok (.aload_n 0, 1) := by decide +kernel
theorem dX8_init_1 : decode cX8_init 1 = .ok (.invokespecial 3, 3) := by decide +kernel
theorem dX8_init_4 : decode cX8_init 4 = .ok (.aload_n 0, 1) := by decide +kernel
theorem dX8_init_5 : decode cX8_init 5 = .ok (.iconst 0, 1) := by decide +kernel
theorem dX8_init_6 : decode cX8_init 6 = .ok (.putfield 11, 3) := by decide +kernel
theorem dX8_init_9 : decode cX8_init 9 = .ok (.aload_n 0, 1) := by decide +kernel
theorem dX8_init_10 : decode cX8_init 10 = .ok (.bipush 6, 2) := by decide +kernel
theorem dX8_init_12 : decode cX8_init 12 = .ok (.newarray .int, 2) := by decide +kernel
theorem dX8_init_14 : decode cX8_init 14 = .ok (.putfield 15, 3) := by decide +kernel
theorem dX8_init_17 : decode cX8_init 17 = .ok (.aload_n 0, 1) := by decide +kernel
theorem dX8_init_18 : decode cX8_init 18 = .ok (.bipush 6, 2) := by decide +kernel
theorem dX8_init_20 : decode cX8_init 20 = .ok (.newarray .int, 2) := by decide +kernel
theorem dX8_init_22 : decode cX8_init 22 = .ok (.putfield 19, 3) := by decide +kernel
theorem dX8_init_25 : decode cX8_init 25 = .ok (.return_, 1) := by decide +kernel
theorem dX8_becomeNothing_0 : decode cX8_becomeNothing 0 = .ok (.aload_n 0, 1) := by decide +kernel
theorem dX8_becomeNothing_1 : decode cX8_becomeNothing 1 = .ok (.iconst 0, 1) := by decide +kernel
theorem dX8_becomeNothing_2 : decode cX8_becomeNothing 2 = .ok (.putfield 11, 3) := by decide +kernel
theorem dX8_becomeNothing_5 : decode cX8_becomeNothing 5 = .ok (.aload_n 0, 1) := by decide +kernel
theorem dX8_becomeNothing_6 : decode cX8_becomeNothing 6 = .ok (.iconst 0, 1) := by decide +kernel
theorem dX8_becomeNothing_7 : decode cX8_becomeNothing 7 = .ok (.putfield 22, 3) := by decide +kernel
theorem dX8_becomeNothing_10 : decode cX8_becomeNothing 10 = .ok (.aload_n 0, 1) := by decide +kernel
theorem dX8_becomeNothing_11 : decode cX8_becomeNothing 11 = .ok (.iconst 0, 1) := by decide +kernel
theorem dX8_becomeNothing_12 : decode cX8_becomeNothing 12 = .ok (.putfield 25, 3) := by decide +kernel
theorem dX8_becomeNothing_15 : decode cX8_becomeNothing 15 = .ok (.return_, 1) := by decide +kernel
theorem dX8_becomeWordOf_0 : decode cX8_becomeWordOf 0 = .ok (.aload_n 0, 1) := by decide +kernel
theorem dX8_becomeWordOf_1 : decode cX8_becomeWordOf 1 = .ok (.iconst 1, 1) := by decide +kernel
theorem dX8_becomeWordOf_2 : decode cX8_becomeWordOf 2 = .ok (.putfield 11, 3) := by decide +kernel
theorem dX8_becomeWordOf_5 : decode cX8_becomeWordOf 5 = .ok (.aload_n 0, 1) := by decide +kernel
theorem dX8_becomeWordOf_6 : decode cX8_becomeWordOf 6 = .ok (.iload_n 1, 1) := by decide +kernel
theorem dX8_becomeWordOf_7 : decode cX8_becomeWordOf 7 = .ok (.putfield 22, 3) := by decide +kernel
theorem dX8_becomeWordOf_10 : decode cX8_becomeWordOf 10 = .ok (.aload_n 0, 1) := by decide +kernel
theorem dX8_becomeWordOf_11 : decode cX8_becomeWordOf 11 = .ok (.iconst 0, 1) := by decide +kernel
theorem dX8_becomeWordOf_12 : decode cX8_becomeWordOf 12 = .ok (.putfield 25, 3) := by decide +kernel
theorem dX8_becomeWordOf_15 : decode cX8_becomeWordOf 15 = .ok (.return_, 1) := by decide +kernel
theorem dX8_becomesWord_0 : decode cX8_becomesWord 0 = .ok (.iload_n 1, 1) := by decide +kernel
theorem dX8_becomesWord_1 : decode cX8_becomesWord 1 = .ok (.invokestatic 28, 3) := by decide +kernel
theorem dX8_becomesWord_4 : decode cX8_becomesWord 4 = .ok (.istore_n 3, 1) := by decide +kernel
theorem dX8_becomesWord_5 : decode cX8_becomesWord 5 = .ok (.iload_n 1, 1) := by decide +kernel
theorem dX8_becomesWord_6 : decode cX8_becomesWord 6 = .ok (.ifCond .lt 9, 3) := by decide +kernel
theorem dX8_becomesWord_9 : decode cX8_becomesWord 9 = .ok (.iload_n 3, 1) := by decide +kernel
theorem dX8_becomesWord_10 : decode cX8_becomesWord 10 = .ok (.bipush 6, 2) := by decide +kernel
theorem dX8_becomesWord_12 : decode cX8_becomesWord 12 = .ok (.if_icmp .le 5, 3) := by decide +kernel
theorem dX8_becomesWord_15 : decode cX8_becomesWord 15 = .ok (.iconst 0, 1) := by decide +kernel
theorem dX8_becomesWord_16 : decode cX8_becomesWord 16 = .ok (.ireturn, 1) := by decide +kernel
theorem dX8_becomesWord_17 : decode cX8_becomesWord 17 = .ok (.aload_n 0, 1) := by decide +kernel
theorem dX8_becomesWord_18 : decode cX8_becomesWord 18 = .ok (.iload_n 3, 1) := by decide +kernel
theorem dX8_becomesWord_19 : decode cX8_becomesWord 19 = .ok (.invokevirtual 32, 3) := by decide +kernel
theorem dX8_becomesWord_22 : decode cX8_becomesWord 22 = .ok (.iload_n 1, 1) := by decide +kernel
theorem dX8_becomesWord_23 : decode cX8_becomesWord 23 = .ok (.istore 4, 2) := by decide +kernel
theorem dX8_becomesWord_25 : decode cX8_becomesWord 25 = .ok (.iload_n 3, 1) := by decide +kernel
theorem dX8_becomesWord_26 : decode cX8_becomesWord 26 = .ok (.iconst 1, 1) := by decide +kernel
theorem dX8_becomesWord_27 : decode cX8_becomesWord 27 = .ok (.isub, 1) := by decide +kernel
theorem dX8_becomesWord_28 : decode cX8_becomesWord 28 = .ok (.istore 5, 2) := by decide +kernel
theorem dX8_becomesWord_30 : decode cX8_becomesWord 30 = .ok (.iload 5, 2) := by decide +kernel
theorem dX8_becomesWord_32 : decode cX8_becomesWord 32 = .ok (.ifCond .lt 52, 3) := by decide +kernel
theorem dX8_becomesWord_35 : decode cX8_becomesWord 35 = .ok (.aload_n 0, 1) := by decide +kernel
theorem dX8_becomesWord_36 : decode cX8_becomesWord 36 = .ok (.getfield 15, 3) := by decide +kernel
theorem dX8_becomesWord_39 : decode cX8_becomesWord 39 = .ok (.iload 5, 2) := by decide +kernel
theorem dX8_becomesWord_41 : decode cX8_becomesWord 41 = .ok (.iload 4, 2) := by decide +kernel
theorem dX8_becomesWord_43 : decode cX8_becomesWord 43 = .ok (.bipush 10, 2) := by decide +kernel
theorem dX8_becomesWord_45 : decode cX8_becomesWord 45 = .ok (.irem, 1) := by decide +kernel
theorem dX8_becomesWord_46 : decode cX8_becomesWord 46 = .ok (.iastore, 1) := by decide +kernel
theorem dX8_becomesWord_47 : decode cX8_becomesWord 47 = .ok (.iload 4, 2) := by decide +kernel
theorem dX8_becomesWord_49 : decode cX8_becomesWord 49 = .ok (.bipush 10, 2) := by decide +kernel
theorem dX8_becomesWord_51 : decode cX8_becomesWord 51 = .ok (.idiv, 1) := by decide +kernel
theorem dX8_becomesWord_52 : decode cX8_becomesWord 52 = .ok (.istore 4, 2) := by decide +kernel
theorem dX8_becomesWord_54 : decode cX8_becomesWord 54 = .ok (.aload_n 0, 1) := by decide +kernel
theorem dX8_becomesWord_55 : decode cX8_becomesWord 55 = .ok (.getfield 15, 3) := by decide +kernel
theorem dX8_becomesWord_58 : decode cX8_becomesWord 58 = .ok (.iload 5, 2) := by decide +kernel
theorem dX8_becomesWord_60 : decode cX8_becomesWord 60 = .ok (.iaload, 1) := by decide +kernel
theorem dX8_becomesWord_61 : decode cX8_becomesWord 61 = .ok (.iconst 1, 1) := by decide +kernel
theorem dX8_becomesWord_62 : decode cX8_becomesWord 62 = .ok (.if_icmp .lt 14, 3) := by decide +kernel
theorem dX8_becomesWord_65 : decode cX8_becomesWord 65 = .ok (.aload_n 0, 1) := by decide +kernel
theorem dX8_becomesWord_66 : decode cX8_becomesWord 66 = .ok (.getfield 15, 3) := by decide +kernel
theorem dX8_becomesWord_69 : decode cX8_becomesWord 69 = .ok (.iload 5, 2) := by decide +kernel
theorem dX8_becomesWord_71 : decode cX8_becomesWord 71 = .ok (.iaload, 1) := by decide +kernel
theorem dX8_becomesWord_72 : decode cX8_becomesWord 72 = .ok (.iload_n 2, 1) := by decide +kernel
theorem dX8_becomesWord_73 : decode cX8_becomesWord 73 = .ok (.if_icmp .le 5, 3) := by decide +kernel
theorem dX8_becomesWord_76 : decode cX8_becomesWord 76 = .ok (.iconst 0, 1) := by decide +kernel
theorem dX8_becomesWord_77 : decode cX8_becomesWord 77 = .ok (.ireturn, 1) := by decide +kernel
theorem dX8_becomesWord_78 : decode cX8_becomesWord 78 = .ok (.iinc 5 (-1), 3) := by decide +kernel
theorem dX8_becomesWord_81 : decode cX8_becomesWord 81 = .ok (.goto (-51), 3) := by decide +kernel
theorem dX8_becomesWord_84 : decode cX8_becomesWord 84 = .ok (.iconst 1, 1) := by decide +kernel
theorem dX8_becomesWord_85 : decode cX8_becomesWord 85 = .ok (.ireturn, 1) := by decide +kernel
theorem dX8_becomeLike_0 : decode cX8_becomeLike 0 = .ok (.aload_n 0, 1) := by decide +kernel
theorem dX8_becomeLike_1 : decode cX8_becomeLike 1 = .ok (.aload_n 1, 1) := by decide +kernel
theorem dX8_becomeLike_2 : decode cX8_becomeLike 2 = .ok (.getfield 11, 3) := by decide +kernel
theorem dX8_becomeLike_5 : decode cX8_becomeLike 5 = .ok (.putfield 11, 3) := by decide +kernel
theorem dX8_becomeLike_8 : decode cX8_becomeLike 8 = .ok (.aload_n 0, 1) := by decide +kernel
theorem dX8_becomeLike_9 : decode cX8_becomeLike 9 = .ok (.aload_n 1, 1) := by decide +kernel
theorem dX8_becomeLike_10 : decode cX8_becomeLike 10 = .ok (.getfield 22, 3) := by decide +kernel
theorem dX8_becomeLike_13 : decode cX8_becomeLike 13 = .ok (.putfield 22, 3) := by decide +kernel
theorem dX8_becomeLike_16 : decode cX8_becomeLike 16 = .ok (.aload_n 0, 1) := by decide +kernel
theorem dX8_becomeLike_17 : decode cX8_becomeLike 17 = .ok (.aload_n 1, 1) := by decide +kernel
theorem dX8_becomeLike_18 : decode cX8_becomeLike 18 = .ok (.getfield 25, 3) := by decide +kernel
theorem dX8_becomeLike_21 : decode cX8_becomeLike 21 = .ok (.putfield 25, 3) := by decide +kernel
theorem dX8_becomeLike_24 : decode cX8_becomeLike 24 = .ok (.aload_n 1, 1) := by decide +kernel
theorem dX8_becomeLike_25 : decode cX8_becomeLike 25 = .ok (.getfield 15, 3) := by decide +kernel
theorem dX8_becomeLike_28 : decode cX8_becomeLike 28 = .ok (.iconst 0, 1) := by decide +kernel
theorem dX8_becomeLike_29 : decode cX8_becomeLike 29 = .ok (.aload_n 0, 1) := by decide +kernel
theorem dX8_becomeLike_30 : decode cX8_becomeLike 30 = .ok (.getfield 15, 3) := by decide +kernel
theorem dX8_becomeLike_33 : decode cX8_becomeLike 33 = .ok (.iconst 0, 1) := by decide +kernel
theorem dX8_becomeLike_34 : decode cX8_becomeLike 34 = .ok (.aload_n 0, 1) := by decide +kernel
theorem dX8_becomeLike_35 : decode cX8_becomeLike 35 = .ok (.getfield 22, 3) := by decide +kernel
theorem dX8_becomeLike_38 : decode cX8_becomeLike 38 = .ok (.invokestatic 36, 3) := by decide +kernel
theorem dX8_becomeLike_41 : decode cX8_becomeLike 41 = .ok (.aload_n 1, 1) := by decide +kernel
theorem dX8_becomeLike_42 : decode cX8_becomeLike 42 = .ok (.getfield 19, 3) := by decide +kernel
theorem dX8_becomeLike_45 : decode cX8_becomeLike 45 = .ok (.iconst 0, 1) := by decide +kernel
theorem dX8_becomeLike_46 : decode cX8_becomeLike 46 = .ok (.aload_n 0, 1) := by decide +kernel
theorem dX8_becomeLike_47 : decode cX8_becomeLike 47 = .ok (.getfield 19, 3) := by decide +kernel
theorem dX8_becomeLike_50 : decode cX8_becomeLike 50 = .ok (.iconst 0, 1) := by decide +kernel
theorem dX8_becomeLike_51 : decode cX8_becomeLike 51 = .ok (.aload_n 0, 1) := by decide +kernel
theorem dX8_becomeLike_52 : decode cX8_becomeLike 52 = .ok (.getfield 25, 3) := by decide +kernel
theorem dX8_becomeLike_55 : decode cX8_becomeLike 55 = .ok (.invokestatic 36, 3) := by decide +kernel
theorem dX8_becomeLike_58 : decode cX8_becomeLike 58 = .ok (.return_, 1) := by decide +kernel
theorem dX8_isSameAs_0 : decode cX8_isSameAs 0 = .ok (.aload_n 0, 1) := by decide +kernel
theorem dX8_isSameAs_1 : decode cX8_isSameAs 1 = .ok (.getfield 11, 3) := by decide +kernel
theorem dX8_isSameAs_4 : decode cX8_isSameAs 4 = .ok (.aload_n 1, 1) := by decide +kernel
theorem dX8_isSameAs_5 : decode cX8_isSameAs 5 = .ok (.getfield 11, 3) := by decide +kernel
theorem dX8_isSameAs_8 : decode cX8_isSameAs 8 = .ok (.if_icmp .ne 25, 3) := by decide +kernel
theorem dX8_isSameAs_11 : decode cX8_isSameAs 11 = .ok (.aload_n 0, 1) := by decide +kernel
theorem dX8_isSameAs_12 : decode cX8_isSameAs 12 = .ok (.getfield 22, 3) := by decide +kernel
theorem dX8_isSameAs_15 : decode cX8_isSameAs 15 = .ok (.aload_n 1, 1) := by decide +kernel
theorem dX8_isSameAs_16 : decode cX8_isSameAs 16 = .ok (.getfield 22, 3) := by decide +kernel
theorem dX8_isSameAs_19 : decode cX8_isSameAs 19 = .ok (.if_icmp .ne 14, 3) := by decide +kernel
theorem dX8_isSameAs_22 : decode cX8_isSameAs 22 = .ok (.aload_n 0, 1) := by decide +kernel
theorem dX8_isSameAs_23 : decode cX8_isSameAs 23 = .ok (.getfield 25, 3) := by decide +kernel
theorem dX8_isSameAs_26 : decode cX8_isSameAs 26 = .ok (.aload_n 1, 1) := by decide +kernel
theorem dX8_isSameAs_27 : decode cX8_isSameAs 27 = .ok (.getfield 25, 3) := by decide +kernel
theorem dX8_isSameAs_30 : decode cX8_isSameAs 30 = .ok (.if_icmp .eq 5, 3) := by decide +kernel
theorem dX8_isSameAs_33 : decode cX8_isSameAs 33 = .ok (.iconst 0, 1) := by decide +kernel
theorem dX8_isSameAs_34 : decode cX8_isSameAs 34 = .ok (.ireturn, 1) := by decide +kernel
theorem dX8_isSameAs_35 : decode cX8_isSameAs 35 = .ok (.iconst 0, 1) := by decide +kernel
theorem dX8_isSameAs_36 : decode cX8_isSameAs 36 = .ok (.istore_n 2, 1) := by decide +kernel
theorem dX8_isSameAs_37 : decode cX8_isSameAs 37 = .ok (.iload_n 2, 1) := by decide +kernel
theorem dX8_isSameAs_38 : decode cX8_isSameAs 38 = .ok (.aload_n 0, 1) := by decide +kernel
theorem dX8_isSameAs_39 : decode cX8_isSameAs 39 = .ok (.getfield 22, 3) := by decide +kernel
theorem dX8_isSameAs_42 : decode cX8_isSameAs 42 = .ok (.if_icmp .ge 26, 3) := by decide +kernel
theorem dX8_isSameAs_45 : decode cX8_isSameAs 45 = .ok (.aload_n 0, 1) := by decide +kernel
theorem dX8_isSameAs_46 : decode cX8_isSameAs 46 = .ok (.getfield 15, 3) := by decide +kernel
theorem dX8_isSameAs_49 : decode cX8_isSameAs 49 = .ok (.iload_n 2, 1) := by decide +kernel
theorem dX8_isSameAs_50 : decode cX8_isSameAs 50 = .ok (.iaload, 1) := by decide +kernel
theorem dX8_isSameAs_51 : decode cX8_isSameAs 51 = .ok (.aload_n 1, 1) := by decide +kernel
theorem dX8_isSameAs_52 : decode cX8_isSameAs 52 = .ok (.getfield 15, 3) := by decide +kernel
theorem dX8_isSameAs_55 : decode cX8_isSameAs 55 = .ok (.iload_n 2, 1) := by decide +kernel
theorem dX8_isSameAs_56 : decode cX8_isSameAs 56 = .ok (.iaload, 1) := by decide +kernel
theorem dX8_isSameAs_57 : decode cX8_isSameAs 57 = .ok (.if_icmp .eq 5, 3) := by decide +kernel
theorem dX8_isSameAs_60 : decode cX8_isSameAs 60 = .ok (.iconst 0, 1) := by decide +kernel
theorem dX8_isSameAs_61 : decode cX8_isSameAs 61 = .ok (.ireturn, 1) := by decide +kernel
theorem dX8_isSameAs_62 : decode cX8_isSameAs 62 = .ok (.iinc 2 1, 3) := by decide +kernel
theorem dX8_isSameAs_65 : decode cX8_isSameAs 65 = .ok (.goto (-28), 3) := by decide +kernel
theorem dX8_isSameAs_68 : decode cX8_isSameAs 68 = .ok (.iconst 0, 1) := by decide +kernel
theorem dX8_isSameAs_69 : decode cX8_isSameAs 69 = .ok (.istore_n 2, 1) := by decide +kernel
theorem dX8_isSameAs_70 : decode cX8_isSameAs 70 = .ok (.iload_n 2, 1) := by decide +kernel
theorem dX8_isSameAs_71 : decode cX8_isSameAs 71 = .ok (.aload_n 0, 1) := by decide +kernel
theorem dX8_isSameAs_72 : decode cX8_isSameAs 72 = .ok (.getfield 25, 3) := by decide +kernel
theorem dX8_isSameAs_75 : decode cX8_isSameAs 75 = .ok (.if_icmp .ge 26, 3) := by decide +kernel
theorem dX8_isSameAs_78 : decode cX8_isSameAs 78 = .ok (.aload_n 0, 1) := by decide +kernel
theorem dX8_isSameAs_79 : decode cX8_isSameAs 79 = .ok (.getfield 19, 3) := by decide +kernel
theorem dX8_isSameAs_82 : decode cX8_isSameAs 82 = .ok (.iload_n 2, 1) := by decide +kernel
theorem dX8_isSameAs_83 : decode cX8_isSameAs 83 = .ok (.iaload, 1) := by decide +kernel
theorem dX8_isSameAs_84 : decode cX8_isSameAs 84 = .ok (.aload_n 1, 1) := by decide +kernel
theorem dX8_isSameAs_85 : decode cX8_isSameAs 85 = .ok (.getfield 19, 3) := by decide +kernel
theorem dX8_isSameAs_88 : decode cX8_isSameAs 88 = .ok (.iload_n 2, 1) := by decide +kernel
theorem dX8_isSameAs_89 : decode cX8_isSameAs 89 = .ok (.iaload, 1) := by decide +kernel
theorem dX8_isSameAs_90 : decode cX8_isSameAs 90 = .ok (.if_icmp .eq 5, 3) := by decide +kernel
theorem dX8_isSameAs_93 : decode cX8_isSameAs 93 = .ok (.iconst 0, 1) := by decide +kernel
theorem dX8_isSameAs_94 : decode cX8_isSameAs 94 = .ok (.ireturn, 1) := by decide +kernel
theorem dX8_isSameAs_95 : decode cX8_isSameAs 95 = .ok (.iinc 2 1, 3) := by decide +kernel
theorem dX8_isSameAs_98 : decode cX8_isSameAs 98 = .ok (.goto (-28), 3) := by decide +kernel
theorem dX8_isSameAs_101 : decode cX8_isSameAs 101 = .ok (.iconst 1, 1) := by decide +kernel
theorem dX8_isSameAs_102 : decode cX8_isSameAs 102 = .ok (.ireturn, 1) := by decide +kernel
theorem dX8_number_0 : decode cX8_number 0 = .ok (.aload_n 0, 1) := by decide +kernel
theorem dX8_number_1 : decode cX8_number 1 = .ok (.iconst 0, 1) := by decide +kernel
theorem dX8_number_2 : decode cX8_number 2 = .ok (.aload_n 0, 1) := by decide +kernel
theorem dX8_number_3 : decode cX8_number 3 = .ok (.getfield 22, 3) := by decide +kernel
theorem dX8_number_6 : decode cX8_number 6 = .ok (.invokevirtual 42, 3) := by decide +kernel
theorem dX8_number_9 : decode cX8_number 9 = .ok (.ireturn, 1) := by decide +kernel
theorem dX8_numberOfRow_0 : decode cX8_numberOfRow 0 = .ok (.iconst 0, 1) := by decide +kernel
theorem dX8_numberOfRow_1 : decode cX8_numberOfRow 1 = .ok (.istore_n 2, 1) := by decide +kernel
theorem dX8_numberOfRow_2 : decode cX8_numberOfRow 2 = .ok (.iload_n 1, 1) := by decide +kernel
theorem dX8_numberOfRow_3 : decode cX8_numberOfRow 3 = .ok (.iconst 1, 1) := by decide +kernel
theorem dX8_numberOfRow_4 : decode cX8_numberOfRow 4 = .ok (.iadd, 1) := by decide +kernel
theorem dX8_numberOfRow_5 : decode cX8_numberOfRow 5 = .ok (.istore_n 3, 1) := by decide +kernel
theorem dX8_numberOfRow_6 : decode cX8_numberOfRow 6 = .ok (.iload_n 3, 1) := by decide +kernel
theorem dX8_numberOfRow_7 : decode cX8_numberOfRow 7 = .ok (.aload_n 0, 1) := by decide +kernel
theorem dX8_numberOfRow_8 : decode cX8_numberOfRow 8 = .ok (.getfield 25, 3) := by decide +kernel
theorem dX8_numberOfRow_11 : decode cX8_numberOfRow 11 = .ok (.if_icmp .ge 18, 3) := by decide +kernel
theorem dX8_numberOfRow_14 : decode cX8_numberOfRow 14 = .ok (.iload_n 2, 1) := by decide +kernel
theorem dX8_numberOfRow_15 : decode cX8_numberOfRow 15 = .ok (.aload_n 0, 1) := by decide +kernel
theorem dX8_numberOfRow_16 : decode cX8_numberOfRow 16 = .ok (.getfield 19, 3) := by decide +kernel
theorem dX8_numberOfRow_19 : decode cX8_numberOfRow 19 = .ok (.iload_n 3, 1) := by decide +kernel
theorem dX8_numberOfRow_20 : decode cX8_numberOfRow 20 = .ok (.iaload, 1) := by decide +kernel
theorem dX8_numberOfRow_21 : decode cX8_numberOfRow 21 = .ok (.iadd, 1) := by decide +kernel
theorem dX8_numberOfRow_22 : decode cX8_numberOfRow 22 = .ok (.istore_n 2, 1) := by decide +kernel
theorem dX8_numberOfRow_23 : decode cX8_numberOfRow 23 = .ok (.iinc 3 1, 3) := by decide +kernel
theorem dX8_numberOfRow_26 : decode cX8_numberOfRow 26 = .ok (.goto (-20), 3) := by decide +kernel
theorem dX8_numberOfRow_29 : decode cX8_numberOfRow 29 = .ok (.aload_n 0, 1) := by decide +kernel
theorem dX8_numberOfRow_30 : decode cX8_numberOfRow 30 = .ok (.iload_n 2, 1) := by decide +kernel
theorem dX8_numberOfRow_31 : decode cX8_numberOfRow 31 = .ok (.aload_n 0, 1) := by decide +kernel
theorem dX8_numberOfRow_32 : decode cX8_numberOfRow 32 = .ok (.getfield 19, 3) := by decide +kernel
theorem dX8_numberOfRow_35 : decode cX8_numberOfRow 35 = .ok (.iload_n 1, 1) := by decide +kernel
theorem dX8_numberOfRow_36 : decode cX8_numberOfRow 36 = .ok (.iaload, 1) := by decide +kernel
theorem dX8_numberOfRow_37 : decode cX8_numberOfRow 37 = .ok (.invokevirtual 42, 3) := by decide +kernel
theorem dX8_numberOfRow_40 : decode cX8_numberOfRow 40 = .ok (.ireturn, 1) := by decide +kernel
theorem dX8_numberFrom_0 : decode cX8_numberFrom 0 = .ok (.iconst 0, 1) := by decide +kernel
theorem dX8_numberFrom_1 : decode cX8_numberFrom 1 = .ok (.istore_n 3, 1) := by decide +kernel
theorem dX8_numberFrom_2 : decode cX8_numberFrom 2 = .ok (.iload_n 1, 1) := by decide +kernel
theorem dX8_numberFrom_3 : decode cX8_numberFrom 3 = .ok (.istore 4, 2) := by decide +kernel
theorem dX8_numberFrom_5 : decode cX8_numberFrom 5 = .ok (.iload 4, 2) := by decide +kernel
theorem dX8_numberFrom_7 : decode cX8_numberFrom 7 = .ok (.iload_n 1, 1) := by decide +kernel
theorem dX8_numberFrom_8 : decode cX8_numberFrom 8 = .ok (.iload_n 2, 1) := by decide +kernel
theorem dX8_numberFrom_9 : decode cX8_numberFrom 9 = .ok (.iadd, 1) := by decide +kernel
theorem dX8_numberFrom_10 : decode cX8_numberFrom 10 = .ok (.if_icmp .ge 22, 3) := by decide +kernel
theorem dX8_numberFrom_13 : decode cX8_numberFrom 13 = .ok (.iload_n 3, 1) := by decide +kernel
theorem dX8_numberFrom_14 : decode cX8_numberFrom 14 = .ok (.bipush 10, 2) := by decide +kernel
theorem dX8_numberFrom_16 : decode cX8_numberFrom 16 = .ok (.imul, 1) := by decide +kernel
theorem dX8_numberFrom_17 : decode cX8_numberFrom 17 = .ok (.aload_n 0, 1) := by decide +kernel
theorem dX8_numberFrom_18 : decode cX8_numberFrom 18 = .ok (.getfield 15, 3) := by decide +kernel
theorem dX8_numberFrom_21 : decode cX8_numberFrom 21 = .ok (.iload 4, 2) := by decide +kernel
theorem dX8_numberFrom_23 : decode cX8_numberFrom 23 = .ok (.iaload, 1) := by decide +kernel
theorem dX8_numberFrom_24 : decode cX8_numberFrom 24 = .ok (.iadd, 1) := by decide +kernel
theorem dX8_numberFrom_25 : decode cX8_numberFrom 25 = .ok (.istore_n 3, 1) := by decide +kernel
theorem dX8_numberFrom_26 : decode cX8_numberFrom 26 = .ok (.iinc 4 1, 3) := by decide +kernel
theorem dX8_numberFrom_29 : decode cX8_numberFrom 29 = .ok (.goto (-24), 3) := by decide +kernel
theorem dX8_numberFrom_32 : decode cX8_numberFrom 32 = .ok (.iload_n 3, 1) := by decide +kernel
theorem dX8_numberFrom_33 : decode cX8_numberFrom 33 = .ok (.ireturn, 1) := by decide +kernel
theorem dX8_content_0 : decode cX8_content 0 = .ok (.iconst 0, 1) := by decide +kernel
theorem dX8_content_1 : decode cX8_content 1 = .ok (.istore_n 2, 1) := by decide +kernel
theorem dX8_content_2 : decode cX8_content 2 = .ok (.iconst 1, 1) := by decide +kernel
theorem dX8_content_3 : decode cX8_content 3 = .ok (.istore_n 3, 1) := by decide +kernel
theorem dX8_content_4 : decode cX8_content 4 = .ok (.iload_n 3, 1) := by decide +kernel
theorem dX8_content_5 : decode cX8_content 5 = .ok (.iload_n 1, 1) := by decide +kernel
theorem dX8_content_6 : decode cX8_content 6 = .ok (.if_icmp .gt 52, 3) := by decide +kernel
theorem dX8_content_9 : decode cX8_content 9 = .ok (.iconst 0, 1) := by decide +kernel
theorem dX8_content_10 : decode cX8_content 10 = .ok (.istore 4, 2) := by decide +kernel
theorem dX8_content_12 : decode cX8_content 12 = .ok (.iconst 0, 1) := by decide +kernel
theorem dX8_content_13 : decode cX8_content 13 = .ok (.istore 5, 2) := by decide +kernel
theorem dX8_content_15 : decode cX8_content 15 = .ok (.iload 5, 2) := by decide +kernel
theorem dX8_content_17 : decode cX8_content 17 = .ok (.aload_n 0, 1) := by decide +kernel
theorem dX8_content_18 : decode cX8_content 18 = .ok (.getfield 22, 3) := by decide +kernel
theorem dX8_content_21 : decode cX8_content 21 = .ok (.if_icmp .ge 23, 3) := by decide +kernel
theorem dX8_content_24 : decode cX8_content 24 = .ok (.aload_n 0, 1) := by decide +kernel
theorem dX8_content_25 : decode cX8_content 25 = .ok (.getfield 15, 3) := by decide +kernel
theorem dX8_content_28 : decode cX8_content 28 = .ok (.iload 5, 2) := by decide +kernel
theorem dX8_content_30 : decode cX8_content 30 = .ok (.iaload, 1) := by decide +kernel
theorem dX8_content_31 : decode cX8_content 31 = .ok (.iload_n 3, 1) := by decide +kernel
theorem dX8_content_32 : decode cX8_content 32 = .ok (.if_icmp .ne 6, 3) := by decide +kernel
theorem dX8_content_35 : decode cX8_content 35 = .ok (.iinc 4 1, 3) := by decide +kernel
theorem dX8_content_38 : decode cX8_content 38 = .ok (.iinc 5 1, 3) := by decide +kernel
theorem dX8_content_41 : decode cX8_content 41 = .ok (.goto (-26), 3) := by decide +kernel
theorem dX8_content_44 : decode cX8_content 44 = .ok (.iload_n 2, 1) := by decide +kernel
theorem dX8_content_45 : decode cX8_content 45 = .ok (.bipush 10, 2) := by decide +kernel
theorem dX8_content_47 : decode cX8_content 47 = .ok (.imul, 1) := by decide +kernel
theorem dX8_content_48 : decode cX8_content 48 = .ok (.iload 4, 2) := by decide +kernel
theorem dX8_content_50 : decode cX8_content 50 = .ok (.iadd, 1) := by decide +kernel
theorem dX8_content_51 : decode cX8_content 51 = .ok (.istore_n 2, 1) := by decide +kernel
theorem dX8_content_52 : decode cX8_content 52 = .ok (.iinc 3 1, 3) := by decide +kernel
theorem dX8_content_55 : decode cX8_content 55 = .ok (.goto (-51), 3) := by decide +kernel
theorem dX8_content_58 : decode cX8_content 58 = .ok (.iload_n 2, 1) := by decide +kernel
theorem dX8_content_59 : decode cX8_content 59 = .ok (.ireturn, 1) := by decide +kernel
theorem dX9_init_0 : decode cX9_init 0 = .ok (.aload_n 0, 1) := by decide +kernel
theorem dX9_init_1 : decode cX9_init 1 = .ok (.invokespecial 1, 3) := by decide +kernel
theorem dX9_init_4 : decode cX9_init 4 = .ok (.aload_n 0, 1) := by decide +kernel
theorem dX9_init_5 : decode cX9_init 5 = .ok (.new 7, 3) := by decide +kernel
theorem dX9_init_8 : decode cX9_init 8 = .ok (.dup, 1) := by decide +kernel
theorem dX9_init_9 : decode cX9_init 9 = .ok (.invokespecial 9, 3) := by decide +kernel
theorem dX9_init_12 : decode cX9_init 12 = .ok (.putfield 10, 3) := by decide +kernel
theorem dX9_init_15 : decode cX9_init 15 = .ok (.aload_n 0, 1) := by decide +kernel
theorem dX9_init_16 : decode cX9_init 16 = .ok (.new 7, 3) := by decide +kernel
theorem dX9_init_19 : decode cX9_init 19 = .ok (.dup, 1) := by decide +kernel
theorem dX9_init_20 : decode cX9_init 20 = .ok (.invokespecial 9, 3) := by decide +kernel
theorem dX9_init_23 : decode cX9_init 23 = .ok (.putfield 16, 3) := by decide +kernel
theorem dX9_init_26 : decode cX9_init 26 = .ok (.aload_n 0, 1) := by decide +kernel
theorem dX9_init_27 : decode cX9_init 27 = .ok (.new 19, 3) := by decide +kernel
theorem dX9_init_30 : decode cX9_init 30 = .ok (.dup, 1) := by decide +kernel
theorem dX9_init_31 : decode cX9_init 31 = .ok (.invokespecial 21, 3) := by decide +kernel
theorem dX9_init_34 : decode cX9_init 34 = .ok (.putfield 22, 3) := by decide +kernel
theorem dX9_init_37 : decode cX9_init 37 = .ok (.aload_n 0, 1) := by decide +kernel
theorem dX9_init_38 : decode cX9_init 38 = .ok (.iconst 4, 1) := by decide +kernel
theorem dX9_init_39 : decode cX9_init 39 = .ok (.anewarray 26, 3) := by decide +kernel
theorem dX9_init_42 : decode cX9_init 42 = .ok (.putfield 28, 3) := by decide +kernel
theorem dX9_init_45 : decode cX9_init 45 = .ok (.aload_n 0, 1) := by decide +kernel
theorem dX9_init_46 : decode cX9_init 46 = .ok (.new 32, 3) := by decide +kernel
theorem dX9_init_49 : decode cX9_init 49 = .ok (.dup, 1) := by decide +kernel
theorem dX9_init_50 : decode cX9_init 50 = .ok (.invokespecial 34, 3) := by decide +kernel
theorem dX9_init_53 : decode cX9_init 53 = .ok (.putfield 35, 3) := by decide +kernel
theorem dX9_init_56 : decode cX9_init 56 = .ok (.aload_n 0, 1) := by decide +kernel
theorem dX9_init_57 : decode cX9_init 57 = .ok (.new 39, 3) := by decide +kernel
theorem dX9_init_60 : decode cX9_init 60 = .ok (.dup, 1) := by decide +kernel
theorem dX9_init_61 : decode cX9_init 61 = .ok (.invokespecial 41, 3) := by decide +kernel
theorem dX9_init_64 : decode cX9_init 64 = .ok (.putfield 42, 3) := by decide +kernel
theorem dX9_init_67 : decode cX9_init 67 = .ok (.aload_n 0, 1) := by decide +kernel
theorem dX9_init_68 : decode cX9_init 68 = .ok (.new 46, 3) := by decide +kernel
theorem dX9_init_71 : decode cX9_init 71 = .ok (.dup, 1) := by decide +kernel
theorem dX9_init_72 : decode cX9_init 72 = .ok (.invokespecial 48, 3) := by decide +kernel
theorem dX9_init_75 : decode cX9_init 75 = .ok (.putfield 49, 3) := by decide +kernel
theorem dX9_init_78 : decode cX9_init 78 = .ok (.aload_n 0, 1) := by decide +kernel
theorem dX9_init_79 : decode cX9_init 79 = .ok (.new 53, 3) := by decide +kernel
theorem dX9_init_82 : decode cX9_init 82 = .ok (.dup, 1) := by decide +kernel
theorem dX9_init_83 : decode cX9_init 83 = .ok (.invokespecial 55, 3) := by decide +kernel
theorem dX9_init_86 : decode cX9_init 86 = .ok (.putfield 56, 3) := by decide +kernel
theorem dX9_init_89 : decode cX9_init 89 = .ok (.aload_n 0, 1) := by decide +kernel
theorem dX9_init_90 : decode cX9_init 90 = .ok (.new 60, 3) := by decide +kernel
theorem dX9_init_93 : decode cX9_init 93 = .ok (.dup, 1) := by decide +kernel
theorem dX9_init_94 : decode cX9_init 94 = .ok (.invokespecial 62, 3) := by decide +kernel
theorem dX9_init_97 : decode cX9_init 97 = .ok (.putfield 63, 3) := by decide +kernel
theorem dX9_init_100 : decode cX9_init 100 = .ok (.aload_n 0, 1) := by decide +kernel
theorem dX9_init_101 : decode cX9_init 101 = .ok (.new 60, 3) := by decide +kernel
theorem dX9_init_104 : decode cX9_init 104 = .ok (.dup, 1) := by decide +kernel
theorem dX9_init_105 : decode cX9_init 105 = .ok (.invokespecial 62, 3) := by decide +kernel
theorem dX9_init_108 : decode cX9_init 108 = .ok (.putfield 67, 3) := by decide +kernel
theorem dX9_init_111 : decode cX9_init 111 = .ok (.aload_n 0, 1) := by decide +kernel
theorem dX9_init_112 : decode cX9_init 112 = .ok (.new 60, 3) := by decide +kernel
theorem dX9_init_115 : decode cX9_init 115 = .ok (.dup, 1) := by decide +kernel
theorem dX9_init_116 : decode cX9_init 116 = .ok (.invokespecial 62, 3) := by decide +kernel
theorem dX9_init_119 : decode cX9_init 119 = .ok (.putfield 70, 3) := by decide +kernel
theorem dX9_init_122 : decode cX9_init 122 = .ok (.aload_n 0, 1) := by decide +kernel
theorem dX9_init_123 : decode cX9_init 123 = .ok (.new 73, 3) := by decide +kernel
theorem dX9_init_126 : decode cX9_init 126 = .ok (.dup, 1) := by decide +kernel
theorem dX9_init_127 : decode cX9_init 127 = .ok (.invokespecial 75, 3) := by decide +kernel
theorem dX9_init_130 : decode cX9_init 130 = .ok (.putfield 76, 3) := by decide +kernel
theorem dX9_init_133 : decode cX9_init 133 = .ok (.aload_n 0, 1) := by decide +kernel
theorem dX9_init_134 : decode cX9_init 134 = .ok (.new 73, 3) := by decide +kernel
theorem dX9_init_137 : decode cX9_init 137 = .ok (.dup, 1) := by decide +kernel
theorem dX9_init_138 : decode cX9_init 138 = .ok (.invokespecial 75, 3) := by decide +kernel
theorem dX9_init_141 : decode cX9_init 141 = .ok (.putfield 80, 3) := by decide +kernel
theorem dX9_init_144 : decode cX9_init 144 = .ok (.iconst 0, 1) := by decide +kernel
theorem dX9_init_145 : decode cX9_init 145 = .ok (.istore_n 1, 1) := by decide +kernel
theorem dX9_init_146 : decode cX9_init 146 = .ok (.iload_n 1, 1) := by decide +kernel
theorem dX9_init_147 : decode cX9_init 147 = .ok (.iconst 4, 1) := by decide +kernel
theorem dX9_init_148 : decode cX9_init 148 = .ok (.if_icmp .ge 22, 3) := by decide +kernel
theorem dX9_init_151 : decode cX9_init 151 = .ok (.aload_n 0, 1) := by decide +kernel
theorem dX9_init_152 : decode cX9_init 152 = .ok (.getfield 28, 3) := by decide +kernel
theorem dX9_init_155 : decode cX9_init 155 = .ok (.iload_n 1, 1) := by decide +kernel
theorem dX9_init_156 : decode cX9_init 156 = .ok (.new 26, 3) := by decide +kernel
theorem dX9_init_159 : decode cX9_init 159 = .ok (.dup, 1) := by decide +kernel
theorem dX9_init_160 : decode cX9_init 160 = .ok (.invokespecial 83, 3) := by decide +kernel
theorem dX9_init_163 : decode cX9_init 163 = .ok (.aastore, 1) := by decide +kernel
theorem dX9_init_164 : decode cX9_init 164 = .ok (.iinc 1 1, 3) := by decide +kernel
theorem dX9_init_167 : decode cX9_init 167 = .ok (.goto (-21), 3) := by decide +kernel
theorem dX9_init_170 : decode cX9_init 170 = .ok (.return_, 1) := by decide +kernel
theorem dX9_letters_0 : decode cX9_letters 0 = .ok (.iload_n 1, 1) := by decide +kernel
theorem dX9_letters_1 : decode cX9_letters 1 = .ok (.iconst 2, 1) := by decide +kernel
theorem dX9_letters_2 : decode cX9_letters 2 = .ok (.if_icmp .lt 8, 3) := by decide +kernel
theorem dX9_letters_5 : decode cX9_letters 5 = .ok (.iload_n 1, 1) := by decide +kernel
theorem dX9_letters_6 : decode cX9_letters 6 = .ok (.iconst 5, 1) := by decide +kernel
theorem dX9_letters_7 : decode cX9_letters 7 = .ok (.if_icmp .le 5, 3) := by decide +kernel
theorem dX9_letters_10 : decode cX9_letters 10 = .ok (.iconst (-1), 1) := by decide +kernel
theorem dX9_letters_11 : decode cX9_letters 11 = .ok (.ireturn, 1) := by decide +kernel
theorem dX9_letters_12 : decode cX9_letters 12 = .ok (.aload_n 0, 1) := by decide +kernel
theorem dX9_letters_13 : decode cX9_letters 13 = .ok (.getfield 10, 3) := by decide +kernel
theorem dX9_letters_16 : decode cX9_letters 16 = .ok (.getfield 84, 3) := by decide +kernel
theorem dX9_letters_19 : decode cX9_letters 19 = .ok (.istore_n 2, 1) := by decide +kernel
theorem dX9_letters_20 : decode cX9_letters 20 = .ok (.iload_n 1, 1) := by decide +kernel
theorem dX9_letters_21 : decode cX9_letters 21 = .ok (.iload_n 2, 1) := by decide +kernel
theorem dX9_letters_22 : decode cX9_letters 22 = .ok (.if_icmp .eq 18, 3) := by decide +kernel
theorem dX9_letters_25 : decode cX9_letters 25 = .ok (.aload_n 0, 1) := by decide +kernel
theorem dX9_letters_26 : decode cX9_letters 26 = .ok (.getfield 10, 3) := by decide +kernel
theorem dX9_letters_29 : decode cX9_letters 29 = .ok (.iload_n 1, 1) := by decide +kernel
theorem dX9_letters_30 : decode cX9_letters 30 = .ok (.putfield 84, 3) := by decide +kernel
theorem dX9_letters_33 : decode cX9_letters 33 = .ok (.aload_n 0, 1) := by decide +kernel
theorem dX9_letters_34 : decode cX9_letters 34 = .ok (.getfield 10, 3) := by decide +kernel
theorem dX9_letters_37 : decode cX9_letters 37 = .ok (.invokevirtual 88, 3) := by decide +kernel
theorem dX9_letters_40 : decode cX9_letters 40 = .ok (.iload_n 2, 1) := by decide +kernel
theorem dX9_letters_41 : decode cX9_letters 41 = .ok (.ireturn, 1) := by decide +kernel
theorem dX9_word_0 : decode cX9_word 0 = .ok (.iload_n 1, 1) := by decide +kernel
theorem dX9_word_1 : decode cX9_word 1 = .ok (.invokestatic 91, 3) := by decide +kernel
theorem dX9_word_4 : decode cX9_word 4 = .ok (.ifCond .eq 21, 3) := by decide +kernel
theorem dX9_word_7 : decode cX9_word 7 = .ok (.aload_n 0, 1) := by decide +kernel
theorem dX9_word_8 : decode cX9_word 8 = .ok (.getfield 76, 3) := by decide +kernel
theorem dX9_word_11 : decode cX9_word 11 = .ok (.iload_n 2, 1) := by decide +kernel
theorem dX9_word_12 : decode cX9_word 12 = .ok (.aload_n 0, 1) := by decide +kernel
theorem dX9_word_13 : decode cX9_word 13 = .ok (.getfield 10, 3) := by decide +kernel
theorem dX9_word_16 : decode cX9_word 16 = .ok (.getfield 84, 3) := by decide +kernel
theorem dX9_word_19 : decode cX9_word 19 = .ok (.invokevirtual 95, 3) := by decide +kernel
theorem dX9_word_22 : decode cX9_word 22 = .ok (.ifCond .ne 5, 3) := by decide +kernel
theorem dX9_word_25 : decode cX9_word 25 = .ok (.iconst (-1), 1) := by decide +kernel
theorem dX9_word_26 : decode cX9_word 26 = .ok (.ireturn, 1) := by decide +kernel
theorem dX9_word_27 : decode cX9_word 27 = .ok (.aload_n 0, 1) := by decide +kernel
theorem dX9_word_28 : decode cX9_word 28 = .ok (.getfield 10, 3) := by decide +kernel
theorem dX9_word_31 : decode cX9_word 31 = .ok (.getfield 99, 3) := by decide +kernel
theorem dX9_word_34 : decode cX9_word 34 = .ok (.iload_n 1, 1) := by decide +kernel
theorem dX9_word_35 : decode cX9_word 35 = .ok (.aaload, 1) := by decide +kernel
theorem dX9_word_36 : decode cX9_word 36 = .ok (.aload_n 0, 1) := by decide +kernel
theorem dX9_word_37 : decode cX9_word 37 = .ok (.getfield 76, 3) := by decide +kernel
theorem dX9_word_40 : decode cX9_word 40 = .ok (.invokevirtual 103, 3) := by decide +kernel
theorem dX9_word_43 : decode cX9_word 43 = .ok (.aload_n 0, 1) := by decide +kernel
theorem dX9_word_44 : decode cX9_word 44 = .ok (.getfield 76, 3) := by decide +kernel
theorem dX9_word_47 : decode cX9_word 47 = .ok (.getfield 107, 3) := by decide +kernel
theorem dX9_word_50 : decode cX9_word 50 = .ok (.ireturn, 1) := by decide +kernel
theorem dX9_feed_0 : decode cX9_feed 0 = .ok (.iload_n 3, 1) := by decide +kernel
theorem dX9_feed_1 : decode cX9_feed 1 = .ok (.iconst 1, 1) := by decide +kernel
theorem dX9_feed_2 : decode cX9_feed 2 = .ok (.if_icmp .lt 9, 3) := by decide +kernel
theorem dX9_feed_5 : decode cX9_feed 5 = .ok (.iload_n 3, 1) := by decide +kernel
theorem dX9_feed_6 : decode cX9_feed 6 = .ok (.bipush 8, 2) := by decide +kernel
theorem dX9_feed_8 : decode cX9_feed 8 = .ok (.if_icmp .le 5, 3) := by decide +kernel
theorem dX9_feed_11 : decode cX9_feed 11 = .ok (.iconst (-1), 1) := by decide +kernel
theorem dX9_feed_12 : decode cX9_feed 12 = .ok (.ireturn, 1) := by decide +kernel
theorem dX9_feed_13 : decode cX9_feed 13 = .ok (.aload_n 0, 1) := by decide +kernel
theorem dX9_feed_14 : decode cX9_feed 14 = .ok (.getfield 22, 3) := by decide +kernel
theorem dX9_feed_17 : decode cX9_feed 17 = .ok (.getfield 110, 3) := by decide +kernel
theorem dX9_feed_20 : decode cX9_feed 20 = .ok (.iload_n 3, 1) := by decide +kernel
theorem dX9_feed_21 : decode cX9_feed 21 = .ok (.iadd, 1) := by decide +kernel
theorem dX9_feed_22 : decode cX9_feed 22 = .ok (.bipush 60, 2) := by decide +kernel
theorem dX9_feed_24 : decode cX9_feed 24 = .ok (.if_icmp .le 6, 3) := by decide +kernel
theorem dX9_feed_27 : decode cX9_feed 27 = .ok (.bipush (-2), 2) := by decide +kernel
theorem dX9_feed_29 : decode cX9_feed 29 = .ok (.ireturn, 1) := by decide +kernel
theorem dX9_feed_30 : decode cX9_feed 30 = .ok (.aload_n 0, 1) := by decide +kernel
theorem dX9_feed_31 : decode cX9_feed 31 = .ok (.getfield 22, 3) := by decide +kernel
theorem dX9_feed_34 : decode cX9_feed 34 = .ok (.lload_n 1, 1) := by decide +kernel
theorem dX9_feed_35 : decode cX9_feed 35 = .ok (.iload_n 3, 1) := by decide +kernel
theorem dX9_feed_36 : decode cX9_feed 36 = .ok (.invokevirtual 113, 3) := by decide +kernel
theorem dX9_feed_39 : decode cX9_feed 39 = .ok (.aload_n 0, 1) := by decide +kernel
theorem dX9_feed_40 : decode cX9_feed 40 = .ok (.getfield 22, 3) := by decide +kernel
theorem dX9_feed_43 : decode cX9_feed 43 = .ok (.getfield 110, 3) := by decide +kernel
theorem dX9_feed_46 : decode cX9_feed 46 = .ok (.ireturn, 1) := by decide +kernel
theorem dX9_tableau_0 : decode cX9_tableau 0 = .ok (.iload_n 1, 1) := by decide +kernel
theorem dX9_tableau_1 : decode cX9_tableau 1 = .ok (.invokestatic 91, 3) := by decide +kernel
theorem dX9_tableau_4 : decode cX9_tableau 4 = .ok (.ifCond .ne 5, 3) := by decide +kernel
theorem dX9_tableau_7 : decode cX9_tableau 7 = .ok (.iconst (-1), 1) := by decide +kernel
theorem dX9_tableau_8 : decode cX9_tableau 8 = .ok (.ireturn, 1) := by decide +kernel
theorem dX9_tableau_9 : decode cX9_tableau 9 = .ok (.aload_n 0, 1) := by decide +kernel
theorem dX9_tableau_10 : decode cX9_tableau 10 = .ok (.getfield 22, 3) := by decide +kernel
theorem dX9_tableau_13 : decode cX9_tableau 13 = .ok (.aload_n 0, 1) := by decide +kernel
theorem dX9_tableau_14 : decode cX9_tableau 14 = .ok (.getfield 42, 3) := by decide +kernel
theorem dX9_tableau_17 : decode cX9_tableau 17 = .ok (.aload_n 0, 1) := by decide +kernel
theorem dX9_tableau_18 : decode cX9_tableau 18 = .ok (.getfield 10, 3) := by decide +kernel
theorem dX9_tableau_21 : decode cX9_tableau 21 = .ok (.getfield 84, 3) := by decide +kernel
theorem dX9_tableau_24 : decode cX9_tableau 24 = .ok (.invokevirtual 117, 3) := by decide +kernel
theorem dX9_tableau_27 : decode cX9_tableau 27 = .ok (.istore_n 2, 1) := by decide +kernel
theorem dX9_tableau_28 : decode cX9_tableau 28 = .ok (.aload_n 0, 1) := by decide +kernel
theorem dX9_tableau_29 : decode cX9_tableau 29 = .ok (.getfield 22, 3) := by decide +kernel
theorem dX9_tableau_32 : decode cX9_tableau 32 = .ok (.invokevirtual 121, 3) := by decide +kernel
theorem dX9_tableau_35 : decode cX9_tableau 35 = .ok (.iload_n 2, 1) := by decide +kernel
theorem dX9_tableau_36 : decode cX9_tableau 36 = .ok (.ifCond .ne 14, 3) := by decide +kernel
theorem dX9_tableau_39 : decode cX9_tableau 39 = .ok (.bipush (-100), 2) := by decide +kernel
theorem dX9_tableau_41 : decode cX9_tableau 41 = .ok (.aload_n 0, 1) := by decide +kernel
theorem dX9_tableau_42 : decode cX9_tableau 42 = .ok (.getfield 22, 3) := by decide +kernel
theorem dX9_tableau_45 : decode cX9_tableau 45 = .ok (.getfield 124, 3) := by decide +kernel
theorem dX9_tableau_48 : decode cX9_tableau 48 = .ok (.isub, 1) := by decide +kernel
theorem dX9_tableau_49 : decode cX9_tableau 49 = .ok (.ireturn, 1) := by decide +kernel
theorem dX9_tableau_50 : decode cX9_tableau 50 = .ok (.aload_n 0, 1) := by decide +kernel
theorem dX9_tableau_51 : decode cX9_tableau 51 = .ok (.getfield 10, 3) := by decide +kernel
theorem dX9_tableau_54 : decode cX9_tableau 54 = .ok (.getfield 99, 3) := by decide +kernel
theorem dX9_tableau_57 : decode cX9_tableau 57 = .ok (.iload_n 1, 1) := by decide +kernel
theorem dX9_tableau_58 : decode cX9_tableau 58 = .ok (.aaload, 1) := by decide +kernel
theorem dX9_tableau_59 : decode cX9_tableau 59 = .ok (.astore_n 3, 1) := by decide +kernel
theorem dX9_tableau_60 : decode cX9_tableau 60 = .ok (.aload_n 0, 1) := by decide +kernel
theorem dX9_tableau_61 : decode cX9_tableau 61 = .ok (.getfield 42, 3) := by decide +kernel
theorem dX9_tableau_64 : decode cX9_tableau 64 = .ok (.aload_n 3, 1) := by decide +kernel
theorem dX9_tableau_65 : decode cX9_tableau 65 = .ok (.invokevirtual 127, 3) := by decide +kernel
theorem dX9_tableau_68 : decode cX9_tableau 68 = .ok (.aload_n 3, 1) := by decide +kernel
theorem dX9_tableau_69 : decode cX9_tableau 69 = .ok (.getfield 107, 3) := by decide +kernel
theorem dX9_tableau_72 : decode cX9_tableau 72 = .ok (.ireturn, 1) := by decide +kernel
theorem dX9_bare_0 : decode cX9_bare 0 = .ok (.iload_n 1, 1) := by decide +kernel
theorem dX9_bare_1 : decode cX9_bare 1 = .ok (.invokestatic 91, 3) := by decide +kernel
theorem dX9_bare_4 : decode cX9_bare 4 = .ok (.ifCond .ne 5, 3) := by decide +kernel
theorem dX9_bare_7 : decode cX9_bare 7 = .ok (.iconst (-1), 1) := by decide +kernel
theorem dX9_bare_8 : decode cX9_bare 8 = .ok (.ireturn, 1) := by decide +kernel
theorem dX9_bare_9 : decode cX9_bare 9 = .ok (.aload_n 0, 1) := by decide +kernel
theorem dX9_bare_10 : decode cX9_bare 10 = .ok (.iload_n 1, 1) := by decide +kernel
theorem dX9_bare_11 : decode cX9_bare 11 = .ok (.invokevirtual 130, 3) := by decide +kernel
theorem dX9_bare_14 : decode cX9_bare 14 = .ok (.ifCond .eq 7, 3) := by decide +kernel
theorem dX9_bare_17 : decode cX9_bare 17 = .ok (.iconst 1, 1) := by decide +kernel
theorem dX9_bare_18 : decode cX9_bare 18 = .ok (.goto 4, 3) := by decide +kernel
theorem dX9_bare_21 : decode cX9_bare 21 = .ok (.iconst 0, 1) := by decide +kernel
theorem dX9_bare_22 : decode cX9_bare 22 = .ok (.istore_n 2, 1) := by decide +kernel
theorem dX9_bare_23 : decode cX9_bare 23 = .ok (.aload_n 0, 1) := by decide +kernel
theorem dX9_bare_24 : decode cX9_bare 24 = .ok (.getfield 10, 3) := by decide +kernel
theorem dX9_bare_27 : decode cX9_bare 27 = .ok (.getfield 99, 3) := by decide +kernel
theorem dX9_bare_30 : decode cX9_bare 30 = .ok (.iload_n 1, 1) := by decide +kernel
theorem dX9_bare_31 : decode cX9_bare 31 = .ok (.aaload, 1) := by decide +kernel
theorem dX9_bare_32 : decode cX9_bare 32 = .ok (.invokevirtual 133, 3) := by decide +kernel
theorem dX9_bare_35 : decode cX9_bare 35 = .ok (.iload_n 2, 1) := by decide +kernel
theorem dX9_bare_36 : decode cX9_bare 36 = .ok (.ireturn, 1) := by decide +kernel
theorem dX9_of_0 : decode cX9_of 0 = .ok (.iload_n 1, 1) := by decide +kernel
theorem dX9_of_1 : decode cX9_of 1 = .ok (.invokestatic 91, 3) := by decide +kernel
theorem dX9_of_4 : decode cX9_of 4 = .ok (.ifCond .eq 12, 3) := by decide +kernel
theorem dX9_of_7 : decode cX9_of 7 = .ok (.iload_n 2, 1) := by decide +kernel
theorem dX9_of_8 : decode cX9_of 8 = .ok (.ifCond .lt 8, 3) := by decide +kernel
theorem dX9_of_11 : decode cX9_of 11 = .ok (.iload_n 2, 1) := by decide +kernel
theorem dX9_of_12 : decode cX9_of 12 = .ok (.iconst 4, 1) := by decide +kernel
theorem dX9_of_13 : decode cX9_of 13 = .ok (.if_icmp .le 5, 3) := by decide +kernel
theorem dX9_of_16 : decode cX9_of 16 = .ok (.iconst (-1), 1) := by decide +kernel
theorem dX9_of_17 : decode cX9_of 17 = .ok (.ireturn, 1) := by decide +kernel
theorem dX9_of_18 : decode cX9_of 18 = .ok (.aload_n 0, 1) := by decide +kernel
theorem dX9_of_19 : decode cX9_of 19 = .ok (.iload_n 1, 1) := by decide +kernel
theorem dX9_of_20 : decode cX9_of 20 = .ok (.invokevirtual 130, 3) := by decide +kernel
theorem dX9_of_23 : decode cX9_of 23 = .ok (.ifCond .ne 6, 3) := by decide +kernel
theorem dX9_of_26 : decode cX9_of 26 = .ok (.bipush (-11), 2) := by decide +kernel
theorem dX9_of_28 : decode cX9_of 28 = .ok (.ireturn, 1) := by decide +kernel
theorem dX9_of_29 : decode cX9_of 29 = .ok (.aload_n 0, 1) := by decide +kernel
theorem dX9_of_30 : decode cX9_of 30 = .ok (.getfield 10, 3) := by decide +kernel
theorem dX9_of_33 : decode cX9_of 33 = .ok (.getfield 99, 3) := by decide +kernel
theorem dX9_of_36 : decode cX9_of 36 = .ok (.iload_n 1, 1) := by decide +kernel
theorem dX9_of_37 : decode cX9_of 37 = .ok (.aaload, 1) := by decide +kernel
theorem dX9_of_38 : decode cX9_of 38 = .ok (.astore_n 3, 1) := by decide +kernel
theorem dX9_of_39 : decode cX9_of 39 = .ok (.iload_n 2, 1) := by decide +kernel
theorem dX9_of_40 : decode cX9_of 40 = .ok (.tableswitch 68 0 3 #[32, 46, 51, 56], 32) := by decide +kernel
theorem dX9_of_72 : decode cX9_of 72 = .ok (.aload_n 3, 1) := by decide +kernel
theorem dX9_of_73 : decode cX9_of 73 = .ok (.getfield 136, 3) := by decide +kernel
theorem dX9_of_76 : decode cX9_of 76 = .ok (.iconst 2, 1) := by decide +kernel
theorem dX9_of_77 : decode cX9_of 77 = .ok (.if_icmp .ne 7, 3) := by decide +kernel
theorem dX9_of_80 : decode cX9_of 80 = .ok (.iconst 1, 1) := by decide +kernel
theorem dX9_of_81 : decode cX9_of 81 = .ok (.goto 4, 3) := by decide +kernel
theorem dX9_of_84 : decode cX9_of 84 = .ok (.iconst 0, 1) := by decide +kernel
theorem dX9_of_85 : decode cX9_of 85 = .ok (.ireturn, 1) := by decide +kernel
theorem dX9_of_86 : decode cX9_of 86 = .ok (.aload_n 3, 1) := by decide +kernel
theorem dX9_of_87 : decode cX9_of 87 = .ok (.getfield 107, 3) := by decide +kernel
theorem dX9_of_90 : decode cX9_of 90 = .ok (.ireturn, 1) := by decide +kernel
theorem dX9_of_91 : decode cX9_of 91 = .ok (.aload_n 3, 1) := by decide +kernel
theorem dX9_of_92 : decode cX9_of 92 = .ok (.invokevirtual 139, 3) := by decide +kernel
theorem dX9_of_95 : decode cX9_of 95 = .ok (.ireturn, 1) := by decide +kernel
theorem dX9_of_96 : decode cX9_of 96 = .ok (.aload_n 3, 1) := by decide +kernel
theorem dX9_of_97 : decode cX9_of 97 = .ok (.aload_n 0, 1) := by decide +kernel
theorem dX9_of_98 : decode cX9_of 98 = .ok (.getfield 10, 3) := by decide +kernel
theorem dX9_of_101 : decode cX9_of 101 = .ok (.getfield 84, 3) := by decide +kernel
theorem dX9_of_104 : decode cX9_of 104 = .ok (.invokevirtual 143, 3) := by decide +kernel
theorem dX9_of_107 : decode cX9_of 107 = .ok (.ireturn, 1) := by decide +kernel
theorem dX9_of_108 : decode cX9_of 108 = .ok (.aload_n 3, 1) := by decide +kernel
theorem dX9_of_109 : decode cX9_of 109 = .ok (.getfield 147, 3) := by decide +kernel
theorem dX9_of_112 : decode cX9_of 112 = .ok (.ireturn, 1) := by decide +kernel
theorem dX9_row_0 : decode cX9_row 0 = .ok (.iload_n 1, 1) := by decide +kernel
theorem dX9_row_1 : decode cX9_row 1 = .ok (.invokestatic 91, 3) := by decide +kernel
theorem dX9_row_4 : decode cX9_row 4 = .ok (.ifCond .ne 5, 3) := by decide +kernel
theorem dX9_row_7 : decode cX9_row 7 = .ok (.iconst (-1), 1) := by decide +kernel
theorem dX9_row_8 : decode cX9_row 8 = .ok (.ireturn, 1) := by decide +kernel
theorem dX9_row_9 : decode cX9_row 9 = .ok (.aload_n 0, 1) := by decide +kernel
theorem dX9_row_10 : decode cX9_row 10 = .ok (.iload_n 1, 1) := by decide +kernel
theorem dX9_row_11 : decode cX9_row 11 = .ok (.invokevirtual 130, 3) := by decide +kernel
theorem dX9_row_14 : decode cX9_row 14 = .ok (.ifCond .ne 6, 3) := by decide +kernel
theorem dX9_row_17 : decode cX9_row 17 = .ok (.bipush (-11), 2) := by decide +kernel
theorem dX9_row_19 : decode cX9_row 19 = .ok (.ireturn, 1) := by decide +kernel
theorem dX9_row_20 : decode cX9_row 20 = .ok (.aload_n 0, 1) := by decide +kernel
theorem dX9_row_21 : decode cX9_row 21 = .ok (.getfield 10, 3) := by decide +kernel
theorem dX9_row_24 : decode cX9_row 24 = .ok (.getfield 99, 3) := by decide +kernel
theorem dX9_row_27 : decode cX9_row 27 = .ok (.iload_n 1, 1) := by decide +kernel
theorem dX9_row_28 : decode cX9_row 28 = .ok (.aaload, 1) := by decide +kernel
theorem dX9_row_29 : decode cX9_row 29 = .ok (.astore_n 3, 1) := by decide +kernel
theorem dX9_row_30 : decode cX9_row 30 = .ok (.aload_n 3, 1) := by decide +kernel
theorem dX9_row_31 : decode cX9_row 31 = .ok (.getfield 136, 3) := by decide +kernel
theorem dX9_row_34 : decode cX9_row 34 = .ok (.iconst 2, 1) := by decide +kernel
theorem dX9_row_35 : decode cX9_row 35 = .ok (.if_icmp .eq 6, 3) := by decide +kernel
theorem dX9_row_38 : decode cX9_row 38 = .ok (.bipush (-13), 2) := by decide +kernel
theorem dX9_row_40 : decode cX9_row 40 = .ok (.ireturn, 1) := by decide +kernel
theorem dX9_row_41 : decode cX9_row 41 = .ok (.iload_n 2, 1) := by decide +kernel
theorem dX9_row_42 : decode cX9_row 42 = .ok (.ifCond .lt 11, 3) := by decide +kernel
theorem dX9_row_45 : decode cX9_row 45 = .ok (.iload_n 2, 1) := by decide +kernel
theorem dX9_row_46 : decode cX9_row 46 = .ok (.aload_n 3, 1) := by decide +kernel
theorem dX9_row_47 : decode cX9_row 47 = .ok (.getfield 147, 3) := by decide +kernel
theorem dX9_row_50 : decode cX9_row 50 = .ok (.if_icmp .lt 6, 3) := by decide +kernel
theorem dX9_row_53 : decode cX9_row 53 = .ok (.bipush (-12), 2) := by decide +kernel
theorem dX9_row_55 : decode cX9_row 55 = .ok (.ireturn, 1) := by decide +kernel
theorem dX9_row_56 : decode cX9_row 56 = .ok (.aload_n 3, 1) := by decide +kernel
theorem dX9_row_57 : decode cX9_row 57 = .ok (.iload_n 2, 1) := by decide +kernel
theorem dX9_row_58 : decode cX9_row 58 = .ok (.invokevirtual 150, 3) := by decide +kernel
theorem dX9_row_61 : decode cX9_row 61 = .ok (.ireturn, 1) := by decide +kernel
theorem dX9_taken_0 : decode cX9_taken 0 = .ok (.iload_n 1, 1) := by decide +kernel
theorem dX9_taken_1 : decode cX9_taken 1 = .ok (.invokestatic 91, 3) := by decide +kernel
theorem dX9_taken_4 : decode cX9_taken 4 = .ok (.ifCond .eq 12, 3) := by decide +kernel
theorem dX9_taken_7 : decode cX9_taken 7 = .ok (.iload_n 2, 1) := by decide +kernel
theorem dX9_taken_8 : decode cX9_taken 8 = .ok (.ifCond .lt 8, 3) := by decide +kernel
theorem dX9_taken_11 : decode cX9_taken 11 = .ok (.iload_n 2, 1) := by decide +kernel
theorem dX9_taken_12 : decode cX9_taken 12 = .ok (.iconst 1, 1) := by decide +kernel
theorem dX9_taken_13 : decode cX9_taken 13 = .ok (.if_icmp .le 5, 3) := by decide +kernel
theorem dX9_taken_16 : decode cX9_taken 16 = .ok (.iconst (-1), 1) := by decide +kernel
theorem dX9_taken_17 : decode cX9_taken 17 = .ok (.ireturn, 1) := by decide +kernel
theorem dX9_taken_18 : decode cX9_taken 18 = .ok (.aload_n 0, 1) := by decide +kernel
theorem dX9_taken_19 : decode cX9_taken 19 = .ok (.iload_n 1, 1) := by decide +kernel
theorem dX9_taken_20 : decode cX9_taken 20 = .ok (.invokevirtual 130, 3) := by decide +kernel
theorem dX9_taken_23 : decode cX9_taken 23 = .ok (.ifCond .ne 6, 3) := by decide +kernel
theorem dX9_taken_26 : decode cX9_taken 26 = .ok (.bipush (-11), 2) := by decide +kernel
theorem dX9_taken_28 : decode cX9_taken 28 = .ok (.ireturn, 1) := by decide +kernel
theorem dX9_taken_29 : decode cX9_taken 29 = .ok (.aload_n 0, 1) := by decide +kernel
theorem dX9_taken_30 : decode cX9_taken 30 = .ok (.getfield 10, 3) := by decide +kernel
theorem dX9_taken_33 : decode cX9_taken 33 = .ok (.getfield 99, 3) := by decide +kernel
theorem dX9_taken_36 : decode cX9_taken 36 = .ok (.iload_n 1, 1) := by decide +kernel
theorem dX9_taken_37 : decode cX9_taken 37 = .ok (.aaload, 1) := by decide +kernel
theorem dX9_taken_38 : decode cX9_taken 38 = .ok (.astore_n 3, 1) := by decide +kernel
theorem dX9_taken_39 : decode cX9_taken 39 = .ok (.iload_n 2, 1) := by decide +kernel
theorem dX9_taken_40 : decode cX9_taken 40 = .ok (.iconst 1, 1) := by decide +kernel
theorem dX9_taken_41 : decode cX9_taken 41 = .ok (.if_icmp .ne 7, 3) := by decide +kernel
theorem dX9_taken_44 : decode cX9_taken 44 = .ok (.iconst 2, 1) := by decide +kernel
theorem dX9_taken_45 : decode cX9_taken 45 = .ok (.goto 4, 3) := by decide +kernel
theorem dX9_taken_48 : decode cX9_taken 48 = .ok (.iconst 1, 1) := by decide +kernel
theorem dX9_taken_49 : decode cX9_taken 49 = .ok (.istore 4, 2) := by decide +kernel
theorem dX9_taken_51 : decode cX9_taken 51 = .ok (.aload_n 3, 1) := by decide +kernel
theorem dX9_taken_52 : decode cX9_taken 52 = .ok (.getfield 136, 3) := by decide +kernel
theorem dX9_taken_55 : decode cX9_taken 55 = .ok (.iload 4, 2) := by decide +kernel
theorem dX9_taken_57 : decode cX9_taken 57 = .ok (.if_icmp .ne 10, 3) := by decide +kernel
theorem dX9_taken_60 : decode cX9_taken 60 = .ok (.aload_n 3, 1) := by decide +kernel
theorem dX9_taken_61 : decode cX9_taken 61 = .ok (.getfield 107, 3) := by decide +kernel
theorem dX9_taken_64 : decode cX9_taken 64 = .ok (.goto 5, 3) := by decide +kernel
theorem dX9_taken_67 : decode cX9_taken 67 = .ok (.bipush (-13), 2) := by decide +kernel
theorem dX9_taken_69 : decode cX9_taken 69 = .ok (.ireturn, 1) := by decide +kernel
theorem dX9_signs_0 : decode cX9_signs 0 = .ok (.iload_n 1, 1) := by decide +kernel
theorem dX9_signs_1 : decode cX9_signs 1 = .ok (.invokestatic 91, 3) := by decide +kernel
theorem dX9_signs_4 : decode cX9_signs 4 = .ok (.ifCond .eq 20, 3) := by decide +kernel
theorem dX9_signs_7 : decode cX9_signs 7 = .ok (.aload_n 0, 1) := by decide +kernel
theorem dX9_signs_8 : decode cX9_signs 8 = .ok (.iload_n 2, 1) := by decide +kernel
theorem dX9_signs_9 : decode cX9_signs 9 = .ok (.invokevirtual 153, 3) := by decide +kernel
theorem dX9_signs_12 : decode cX9_signs 12 = .ok (.ifCond .eq 12, 3) := by decide +kernel
theorem dX9_signs_15 : decode cX9_signs 15 = .ok (.iload_n 3, 1) := by decide +kernel
theorem dX9_signs_16 : decode cX9_signs 16 = .ok (.ifCond .lt 8, 3) := by decide +kernel
theorem dX9_signs_19 : decode cX9_signs 19 = .ok (.iload_n 3, 1) := by decide +kernel
theorem dX9_signs_20 : decode cX9_signs 20 = .ok (.iconst 1, 1) := by decide +kernel
theorem dX9_signs_21 : decode cX9_signs 21 = .ok (.if_icmp .le 5, 3) := by decide +kernel
theorem dX9_signs_24 : decode cX9_signs 24 = .ok (.iconst (-1), 1) := by decide +kernel
theorem dX9_signs_25 : decode cX9_signs 25 = .ok (.ireturn, 1) := by decide +kernel
theorem dX9_signs_26 : decode cX9_signs 26 = .ok (.aload_n 0, 1) := by decide +kernel
theorem dX9_signs_27 : decode cX9_signs 27 = .ok (.iload_n 1, 1) := by decide +kernel
theorem dX9_signs_28 : decode cX9_signs 28 = .ok (.invokevirtual 130, 3) := by decide +kernel
theorem dX9_signs_31 : decode cX9_signs 31 = .ok (.ifCond .ne 6, 3) := by decide +kernel
theorem dX9_signs_34 : decode cX9_signs 34 = .ok (.bipush (-11), 2) := by decide +kernel
theorem dX9_signs_36 : decode cX9_signs 36 = .ok (.ireturn, 1) := by decide +kernel
theorem dX9_signs_37 : decode cX9_signs 37 = .ok (.aload_n 0, 1) := by decide +kernel
theorem dX9_signs_38 : decode cX9_signs 38 = .ok (.getfield 35, 3) := by decide +kernel
theorem dX9_signs_41 : decode cX9_signs 41 = .ok (.aload_n 0, 1) := by decide +kernel
theorem dX9_signs_42 : decode cX9_signs 42 = .ok (.getfield 10, 3) := by decide +kernel
theorem dX9_signs_45 : decode cX9_signs 45 = .ok (.getfield 99, 3) := by decide +kernel
theorem dX9_signs_48 : decode cX9_signs 48 = .ok (.iload_n 1, 1) := by decide +kernel
theorem dX9_signs_49 : decode cX9_signs 49 = .ok (.aaload, 1) := by decide +kernel
theorem dX9_signs_50 : decode cX9_signs 50 = .ok (.iload_n 2, 1) := by decide +kernel
theorem dX9_signs_51 : decode cX9_signs 51 = .ok (.invokevirtual 156, 3) := by decide +kernel
theorem dX9_signs_54 : decode cX9_signs 54 = .ok (.iload_n 3, 1) := by decide +kernel
theorem dX9_signs_55 : decode cX9_signs 55 = .ok (.ifCond .ne 13, 3) := by decide +kernel
theorem dX9_signs_58 : decode cX9_signs 58 = .ok (.aload_n 0, 1) := by decide +kernel
theorem dX9_signs_59 : decode cX9_signs 59 = .ok (.getfield 35, 3) := by decide +kernel
theorem dX9_signs_62 : decode cX9_signs 62 = .ok (.getfield 160, 3) := by decide +kernel
theorem dX9_signs_65 : decode cX9_signs 65 = .ok (.goto 10, 3) := by decide +kernel
theorem dX9_signs_68 : decode cX9_signs 68 = .ok (.aload_n 0, 1) := by decide +kernel
theorem dX9_signs_69 : decode cX9_signs 69 = .ok (.getfield 35, 3) := by decide +kernel
theorem dX9_signs_72 : decode cX9_signs 72 = .ok (.getfield 163, 3) := by decide +kernel
theorem dX9_signs_75 : decode cX9_signs 75 = .ok (.ireturn, 1) := by decide +kernel
theorem dX9_act_0 : decode cX9_act 0 = .ok (.iload_n 1, 1) := by decide +kernel
theorem dX9_act_1 : decode cX9_act 1 = .ok (.invokestatic 91, 3) := by decide +kernel
theorem dX9_act_4 : decode cX9_act 4 = .ok (.ifCond .eq 20, 3) := by decide +kernel
theorem dX9_act_7 : decode cX9_act 7 = .ok (.iload 4, 2) := by decide +kernel
theorem dX9_act_9 : decode cX9_act 9 = .ok (.invokestatic 91, 3) := by decide +kernel
theorem dX9_act_12 : decode cX9_act 12 = .ok (.ifCond .eq 12, 3) := by decide +kernel
theorem dX9_act_15 : decode cX9_act 15 = .ok (.iload_n 2, 1) := by decide +kernel
theorem dX9_act_16 : decode cX9_act 16 = .ok (.ifCond .lt 8, 3) := by decide +kernel
theorem dX9_act_19 : decode cX9_act 19 = .ok (.iload_n 2, 1) := by decide +kernel
theorem dX9_act_20 : decode cX9_act 20 = .ok (.iconst 5, 1) := by decide +kernel
theorem dX9_act_21 : decode cX9_act 21 = .ok (.if_icmp .le 5, 3) := by decide +kernel
theorem dX9_act_24 : decode cX9_act 24 = .ok (.iconst (-1), 1) := by decide +kernel
theorem dX9_act_25 : decode cX9_act 25 = .ok (.ireturn, 1) := by decide +kernel
theorem dX9_act_26 : decode cX9_act 26 = .ok (.iload_n 2, 1) := by decide +kernel
theorem dX9_act_27 : decode cX9_act 27 = .ok (.iconst 5, 1) := by decide +kernel
theorem dX9_act_28 : decode cX9_act 28 = .ok (.if_icmp .eq 13, 3) := by decide +kernel
theorem dX9_act_31 : decode cX9_act 31 = .ok (.aload_n 0, 1) := by decide +kernel
theorem dX9_act_32 : decode cX9_act 32 = .ok (.iload_n 3, 1) := by decide +kernel
theorem dX9_act_33 : decode cX9_act 33 = .ok (.invokevirtual 153, 3) := by decide +kernel
theorem dX9_act_36 : decode cX9_act 36 = .ok (.ifCond .ne 5, 3) := by decide +kernel
theorem dX9_act_39 : decode cX9_act 39 = .ok (.iconst (-1), 1) := by decide +kernel
theorem dX9_act_40 : decode cX9_act 40 = .ok (.ireturn, 1) := by decide +kernel
theorem dX9_act_41 : decode cX9_act 41 = .ok (.aload_n 0, 1) := by decide +kernel
theorem dX9_act_42 : decode cX9_act 42 = .ok (.iload_n 1, 1) := by decide +kernel
theorem dX9_act_43 : decode cX9_act 43 = .ok (.invokevirtual 130, 3) := by decide +kernel
theorem dX9_act_46 : decode cX9_act 46 = .ok (.ifCond .ne 6, 3) := by decide +kernel
theorem dX9_act_49 : decode cX9_act 49 = .ok (.bipush (-11), 2) := by decide +kernel
theorem dX9_act_51 : decode cX9_act 51 = .ok (.ireturn, 1) := by decide +kernel
theorem dX9_act_52 : decode cX9_act 52 = .ok (.aload_n 0, 1) := by decide +kernel
theorem dX9_act_53 : decode cX9_act 53 = .ok (.getfield 76, 3) := by decide +kernel
theorem dX9_act_56 : decode cX9_act 56 = .ok (.aload_n 0, 1) := by decide +kernel
theorem dX9_act_57 : decode cX9_act 57 = .ok (.getfield 10, 3) := by decide +kernel
theorem dX9_act_60 : decode cX9_act 60 = .ok (.getfield 99, 3) := by decide +kernel
theorem dX9_act_63 : decode cX9_act 63 = .ok (.iload_n 1, 1) := by decide +kernel
theorem dX9_act_64 : decode cX9_act 64 = .ok (.aaload, 1) := by decide +kernel
theorem dX9_act_65 : decode cX9_act 65 = .ok (.invokevirtual 103, 3) := by decide +kernel
theorem dX9_act_68 : decode cX9_act 68 = .ok (.aload_n 0, 1) := by decide +kernel
theorem dX9_act_69 : decode cX9_act 69 = .ok (.getfield 35, 3) := by decide +kernel
theorem dX9_act_72 : decode cX9_act 72 = .ok (.iload_n 2, 1) := by decide +kernel
theorem dX9_act_73 : decode cX9_act 73 = .ok (.aload_n 0, 1) := by decide +kernel
theorem dX9_act_74 : decode cX9_act 74 = .ok (.getfield 76, 3) := by decide +kernel
theorem dX9_act_77 : decode cX9_act 77 = .ok (.iload_n 3, 1) := by decide +kernel
theorem dX9_act_78 : decode cX9_act 78 = .ok (.aload_n 0, 1) := by decide +kernel
theorem dX9_act_79 : decode cX9_act 79 = .ok (.getfield 10, 3) := by decide +kernel
theorem dX9_act_82 : decode cX9_act 82 = .ok (.getfield 84, 3) := by decide +kernel
theorem dX9_act_85 : decode cX9_act 85 = .ok (.invokevirtual 166, 3) := by decide +kernel
theorem dX9_act_88 : decode cX9_act 88 = .ok (.istore 5, 2) := by decide +kernel
theorem dX9_act_90 : decode cX9_act 90 = .ok (.iload 5, 2) := by decide +kernel
theorem dX9_act_92 : decode cX9_act 92 = .ok (.ifCond .ne 15, 3) := by decide +kernel
theorem dX9_act_95 : decode cX9_act 95 = .ok (.iload_n 2, 1) := by decide +kernel
theorem dX9_act_96 : decode cX9_act 96 = .ok (.ifCond .eq 8, 3) := by decide +kernel
theorem dX9_act_99 : decode cX9_act 99 = .ok (.iload_n 2, 1) := by decide +kernel
theorem dX9_act_100 : decode cX9_act 100 = .ok (.iconst 1, 1) := by decide +kernel
theorem dX9_act_101 : decode cX9_act 101 = .ok (.if_icmp .ne 6, 3) := by decide +kernel
theorem dX9_act_104 : decode cX9_act 104 = .ok (.bipush (-3), 2) := by decide +kernel
theorem dX9_act_106 : decode cX9_act 106 = .ok (.ireturn, 1) := by decide +kernel
theorem dX9_act_107 : decode cX9_act 107 = .ok (.aload_n 0, 1) := by decide +kernel
theorem dX9_act_108 : decode cX9_act 108 = .ok (.getfield 10, 3) := by decide +kernel
theorem dX9_act_111 : decode cX9_act 111 = .ok (.getfield 99, 3) := by decide +kernel
theorem dX9_act_114 : decode cX9_act 114 = .ok (.iload 4, 2) := by decide +kernel
theorem dX9_act_116 : decode cX9_act 116 = .ok (.aaload, 1) := by decide +kernel
theorem dX9_act_117 : decode cX9_act 117 = .ok (.aload_n 0, 1) := by decide +kernel
theorem dX9_act_118 : decode cX9_act 118 = .ok (.getfield 76, 3) := by decide +kernel
theorem dX9_act_121 : decode cX9_act 121 = .ok (.invokevirtual 103, 3) := by decide +kernel
theorem dX9_act_124 : decode cX9_act 124 = .ok (.iload 5, 2) := by decide +kernel
theorem dX9_act_126 : decode cX9_act 126 = .ok (.ifCond .eq 7, 3) := by decide +kernel
theorem dX9_act_129 : decode cX9_act 129 = .ok (.iconst 1, 1) := by decide +kernel
theorem dX9_act_130 : decode cX9_act 130 = .ok (.goto 4, 3) := by decide +kernel
theorem dX9_act_133 : decode cX9_act 133 = .ok (.iconst 0, 1) := by decide +kernel
theorem dX9_act_134 : decode cX9_act 134 = .ok (.ireturn, 1) := by decide +kernel
theorem dX9_acts_0 : decode cX9_acts 0 = .ok (.iload_n 1, 1) := by decide +kernel
theorem dX9_acts_1 : decode cX9_acts 1 = .ok (.invokestatic 91, 3) := by decide +kernel
theorem dX9_acts_4 : decode cX9_acts 4 = .ok (.ifCond .ne 5, 3) := by decide +kernel
theorem dX9_acts_7 : decode cX9_acts 7 = .ok (.iconst (-1), 1) := by decide +kernel
theorem dX9_acts_8 : decode cX9_acts 8 = .ok (.ireturn, 1) := by decide +kernel
theorem dX9_acts_9 : decode cX9_acts 9 = .ok (.aload_n 0, 1) := by decide +kernel
theorem dX9_acts_10 : decode cX9_acts 10 = .ok (.iload_n 1, 1) := by decide +kernel
theorem dX9_acts_11 : decode cX9_acts 11 = .ok (.invokevirtual 130, 3) := by decide +kernel
theorem dX9_acts_14 : decode cX9_acts 14 = .ok (.ifCond .ne 6, 3) := by decide +kernel
theorem dX9_acts_17 : decode cX9_acts 17 = .ok (.bipush (-11), 2) := by decide +kernel
theorem dX9_acts_19 : decode cX9_acts 19 = .ok (.ireturn, 1) := by decide +kernel
theorem dX9_acts_20 : decode cX9_acts 20 = .ok (.aload_n 0, 1) := by decide +kernel
theorem dX9_acts_21 : decode cX9_acts 21 = .ok (.getfield 76, 3) := by decide +kernel
theorem dX9_acts_24 : decode cX9_acts 24 = .ok (.aload_n 0, 1) := by decide +kernel
theorem dX9_acts_25 : decode cX9_acts 25 = .ok (.getfield 10, 3) := by decide +kernel
theorem dX9_acts_28 : decode cX9_acts 28 = .ok (.getfield 99, 3) := by decide +kernel
theorem dX9_acts_31 : decode cX9_acts 31 = .ok (.iload_n 1, 1) := by decide +kernel
theorem dX9_acts_32 : decode cX9_acts 32 = .ok (.aaload, 1) := by decide +kernel
theorem dX9_acts_33 : decode cX9_acts 33 = .ok (.invokevirtual 103, 3) := by decide +kernel
theorem dX9_acts_36 : decode cX9_acts 36 = .ok (.aload_n 0, 1) := by decide +kernel
theorem dX9_acts_37 : decode cX9_acts 37 = .ok (.getfield 22, 3) := by decide +kernel
theorem dX9_acts_40 : decode cX9_acts 40 = .ok (.invokevirtual 170, 3) := by decide +kernel
theorem dX9_acts_43 : decode cX9_acts 43 = .ok (.iconst 0, 1) := by decide +kernel
theorem dX9_acts_44 : decode cX9_acts 44 = .ok (.istore_n 2, 1) := by decide +kernel
theorem dX9_acts_45 : decode cX9_acts 45 = .ok (.iconst 1, 1) := by decide +kernel
theorem dX9_acts_46 : decode cX9_acts 46 = .ok (.istore_n 3, 1) := by decide +kernel
theorem dX9_acts_47 : decode cX9_acts 47 = .ok (.iconst 0, 1) := by decide +kernel
theorem dX9_acts_48 : decode cX9_acts 48 = .ok (.istore 4, 2) := by decide +kernel
theorem dX9_acts_50 : decode cX9_acts 50 = .ok (.iload 4, 2) := by decide +kernel
theorem dX9_acts_52 : decode cX9_acts 52 = .ok (.bipush 60, 2) := by decide +kernel
theorem dX9_acts_54 : decode cX9_acts 54 = .ok (.if_icmp .ge 80, 3) := by decide +kernel
theorem dX9_acts_57 : decode cX9_acts 57 = .ok (.iload_n 3, 1) := by decide +kernel
theorem dX9_acts_58 : decode cX9_acts 58 = .ok (.ifCond .eq 76, 3) := by decide +kernel
theorem dX9_acts_61 : decode cX9_acts 61 = .ok (.aload_n 0, 1) := by decide +kernel
theorem dX9_acts_62 : decode cX9_acts 62 = .ok (.getfield 22, 3) := by decide +kernel
theorem dX9_acts_65 : decode cX9_acts 65 = .ok (.invokevirtual 173, 3) := by decide +kernel
theorem dX9_acts_68 : decode cX9_acts 68 = .ok (.ifCond .eq 66, 3) := by decide +kernel
theorem dX9_acts_71 : decode cX9_acts 71 = .ok (.aload_n 0, 1) := by decide +kernel
theorem dX9_acts_72 : decode cX9_acts 72 = .ok (.getfield 22, 3) := by decide +kernel
theorem dX9_acts_75 : decode cX9_acts 75 = .ok (.aload_n 0, 1) := by decide +kernel
theorem dX9_acts_76 : decode cX9_acts 76 = .ok (.getfield 10, 3) := by decide +kernel
theorem dX9_acts_79 : decode cX9_acts 79 = .ok (.getfield 84, 3) := by decide +kernel
theorem dX9_acts_82 : decode cX9_acts 82 = .ok (.invokevirtual 177, 3) := by decide +kernel
theorem dX9_acts_85 : decode cX9_acts 85 = .ok (.istore_n 3, 1) := by decide +kernel
theorem dX9_acts_86 : decode cX9_acts 86 = .ok (.iload_n 3, 1) := by decide +kernel
theorem dX9_acts_87 : decode cX9_acts 87 = .ok (.ifCond .eq 41, 3) := by decide +kernel
theorem dX9_acts_90 : decode cX9_acts 90 = .ok (.aload_n 0, 1) := by decide +kernel
theorem dX9_acts_91 : decode cX9_acts 91 = .ok (.getfield 35, 3) := by decide +kernel
theorem dX9_acts_94 : decode cX9_acts 94 = .ok (.aload_n 0, 1) := by decide +kernel
theorem dX9_acts_95 : decode cX9_acts 95 = .ok (.getfield 22, 3) := by decide +kernel
theorem dX9_acts_98 : decode cX9_acts 98 = .ok (.getfield 180, 3) := by decide +kernel
theorem dX9_acts_101 : decode cX9_acts 101 = .ok (.aload_n 0, 1) := by decide +kernel
theorem dX9_acts_102 : decode cX9_acts 102 = .ok (.getfield 76, 3) := by decide +kernel
theorem dX9_acts_105 : decode cX9_acts 105 = .ok (.aload_n 0, 1) := by decide +kernel
theorem dX9_acts_106 : decode cX9_acts 106 = .ok (.getfield 22, 3) := by decide +kernel
theorem dX9_acts_109 : decode cX9_acts 109 = .ok (.getfield 183, 3) := by decide +kernel
theorem dX9_acts_112 : decode cX9_acts 112 = .ok (.aload_n 0, 1) := by decide +kernel
theorem dX9_acts_113 : decode cX9_acts 113 = .ok (.getfield 10, 3) := by decide +kernel
theorem dX9_acts_116 : decode cX9_acts 116 = .ok (.getfield 84, 3) := by decide +kernel
theorem dX9_acts_119 : decode cX9_acts 119 = .ok (.invokevirtual 166, 3) := by decide +kernel
theorem dX9_acts_122 : decode cX9_acts 122 = .ok (.ifCond .eq 6, 3) := by decide +kernel
theorem dX9_acts_125 : decode cX9_acts 125 = .ok (.iinc 2 1, 3) := by decide +kernel
theorem dX9_acts_128 : decode cX9_acts 128 = .ok (.iinc 4 1, 3) := by decide +kernel
theorem dX9_acts_131 : decode cX9_acts 131 = .ok (.goto (-81), 3) := by decide +kernel
theorem dX9_acts_134 : decode cX9_acts 134 = .ok (.aload_n 0, 1) := by decide +kernel
theorem dX9_acts_135 : decode cX9_acts 135 = .ok (.getfield 22, 3) := by decide +kernel
theorem dX9_acts_138 : decode cX9_acts 138 = .ok (.invokevirtual 121, 3) := by decide +kernel
theorem dX9_acts_141 : decode cX9_acts 141 = .ok (.iload_n 3, 1) := by decide +kernel
theorem dX9_acts_142 : decode cX9_acts 142 = .ok (.ifCond .ne 14, 3) := by decide +kernel
theorem dX9_acts_145 : decode cX9_acts 145 = .ok (.bipush (-100), 2) := by decide +kernel
theorem dX9_acts_147 : decode cX9_acts 147 = .ok (.aload_n 0, 1) := by decide +kernel
theorem dX9_acts_148 : decode cX9_acts 148 = .ok (.getfield 22, 3) := by decide +kernel
theorem dX9_acts_151 : decode cX9_acts 151 = .ok (.getfield 124, 3) := by decide +kernel
theorem dX9_acts_154 : decode cX9_acts 154 = .ok (.isub, 1) := by decide +kernel
theorem dX9_acts_155 : decode cX9_acts 155 = .ok (.ireturn, 1) := by decide +kernel
theorem dX9_acts_156 : decode cX9_acts 156 = .ok (.aload_n 0, 1) := by decide +kernel
theorem dX9_acts_157 : decode cX9_acts 157 = .ok (.getfield 10, 3) := by decide +kernel
theorem dX9_acts_160 : decode cX9_acts 160 = .ok (.getfield 99, 3) := by decide +kernel
theorem dX9_acts_163 : decode cX9_acts 163 = .ok (.iload_n 1, 1) := by decide +kernel
theorem dX9_acts_164 : decode cX9_acts 164 = .ok (.aaload, 1) := by decide +kernel
theorem dX9_acts_165 : decode cX9_acts 165 = .ok (.aload_n 0, 1) := by decide +kernel
theorem dX9_acts_166 : decode cX9_acts 166 = .ok (.getfield 76, 3) := by decide +kernel
theorem dX9_acts_169 : decode cX9_acts 169 = .ok (.invokevirtual 103, 3) := by decide +kernel
theorem dX9_acts_172 : decode cX9_acts 172 = .ok (.iload_n 2, 1) := by decide +kernel
theorem dX9_acts_173 : decode cX9_acts 173 = .ok (.ireturn, 1) := by decide +kernel
theorem dX9_highest_0 : decode cX9_highest 0 = .ok (.iload_n 1, 1) := by decide +kernel
theorem dX9_highest_1 : decode cX9_highest 1 = .ok (.invokestatic 91, 3) := by decide +kernel
theorem dX9_highest_4 : decode cX9_highest 4 = .ok (.ifCond .eq 12, 3) := by decide +kernel
theorem dX9_highest_7 : decode cX9_highest 7 = .ok (.iload_n 2, 1) := by decide +kernel
theorem dX9_highest_8 : decode cX9_highest 8 = .ok (.ifCond .lt 8, 3) := by decide +kernel
theorem dX9_highest_11 : decode cX9_highest 11 = .ok (.iload_n 2, 1) := by decide +kernel
theorem dX9_highest_12 : decode cX9_highest 12 = .ok (.iconst 2, 1) := by decide +kernel
theorem dX9_highest_13 : decode cX9_highest 13 = .ok (.if_icmp .le 5, 3) := by decide +kernel
theorem dX9_highest_16 : decode cX9_highest 16 = .ok (.iconst (-1), 1) := by decide +kernel
theorem dX9_highest_17 : decode cX9_highest 17 = .ok (.ireturn, 1) := by decide +kernel
theorem dX9_highest_18 : decode cX9_highest 18 = .ok (.aload_n 0, 1) := by decide +kernel
theorem dX9_highest_19 : decode cX9_highest 19 = .ok (.iload_n 1, 1) := by decide +kernel
theorem dX9_highest_20 : decode cX9_highest 20 = .ok (.invokevirtual 130, 3) := by decide +kernel
theorem dX9_highest_23 : decode cX9_highest 23 = .ok (.ifCond .ne 6, 3) := by decide +kernel
theorem dX9_highest_26 : decode cX9_highest 26 = .ok (.bipush (-11), 2) := by decide +kernel
theorem dX9_highest_28 : decode cX9_highest 28 = .ok (.ireturn, 1) := by decide +kernel
theorem dX9_highest_29 : decode cX9_highest 29 = .ok (.aload_n 0, 1) := by decide +kernel
theorem dX9_highest_30 : decode cX9_highest 30 = .ok (.getfield 76, 3) := by decide +kernel
theorem dX9_highest_33 : decode cX9_highest 33 = .ok (.aload_n 0, 1) := by decide +kernel
theorem dX9_highest_34 : decode cX9_highest 34 = .ok (.getfield 10, 3) := by decide +kernel
theorem dX9_highest_37 : decode cX9_highest 37 = .ok (.getfield 99, 3) := by decide +kernel
theorem dX9_highest_40 : decode cX9_highest 40 = .ok (.iload_n 1, 1) := by decide +kernel
theorem dX9_highest_41 : decode cX9_highest 41 = .ok (.aaload, 1) := by decide +kernel
theorem dX9_highest_42 : decode cX9_highest 42 = .ok (.invokevirtual 103, 3) := by decide +kernel
theorem dX9_highest_45 : decode cX9_highest 45 = .ok (.aload_n 0, 1) := by decide +kernel
theorem dX9_highest_46 : decode cX9_highest 46 = .ok (.getfield 35, 3) := by decide +kernel
theorem dX9_highest_49 : decode cX9_highest 49 = .ok (.aload_n 0, 1) := by decide +kernel
theorem dX9_highest_50 : decode cX9_highest 50 = .ok (.getfield 76, 3) := by decide +kernel
theorem dX9_highest_53 : decode cX9_highest 53 = .ok (.aload_n 0, 1) := by decide +kernel
theorem dX9_highest_54 : decode cX9_highest 54 = .ok (.getfield 10, 3) := by decide +kernel
theorem dX9_highest_57 : decode cX9_highest 57 = .ok (.getfield 84, 3) := by decide +kernel
theorem dX9_highest_60 : decode cX9_highest 60 = .ok (.invokevirtual 186, 3) := by decide +kernel
theorem dX9_highest_63 : decode cX9_highest 63 = .ok (.istore_n 3, 1) := by decide +kernel
theorem dX9_highest_64 : decode cX9_highest 64 = .ok (.iload_n 2, 1) := by decide +kernel
theorem dX9_highest_65 : decode cX9_highest 65 = .ok (.ifCond .ne 5, 3) := by decide +kernel
theorem dX9_highest_68 : decode cX9_highest 68 = .ok (.iload_n 3, 1) := by decide +kernel
theorem dX9_highest_69 : decode cX9_highest 69 = .ok (.ireturn, 1) := by decide +kernel
theorem dX9_highest_70 : decode cX9_highest 70 = .ok (.iload_n 2, 1) := by decide +kernel
theorem dX9_highest_71 : decode cX9_highest 71 = .ok (.iconst 1, 1) := by decide +kernel
theorem dX9_highest_72 : decode cX9_highest 72 = .ok (.if_icmp .ne 13, 3) := by decide +kernel
theorem dX9_highest_75 : decode cX9_highest 75 = .ok (.aload_n 0, 1) := by decide +kernel
theorem dX9_highest_76 : decode cX9_highest 76 = .ok (.getfield 76, 3) := by decide +kernel
theorem dX9_highest_79 : decode cX9_highest 79 = .ok (.invokevirtual 139, 3) := by decide +kernel
theorem dX9_highest_82 : decode cX9_highest 82 = .ok (.goto 17, 3) := by decide +kernel
theorem dX9_highest_85 : decode cX9_highest 85 = .ok (.aload_n 0, 1) := by decide +kernel
theorem dX9_highest_86 : decode cX9_highest 86 = .ok (.getfield 76, 3) := by decide +kernel
theorem dX9_highest_89 : decode cX9_highest 89 = .ok (.aload_n 0, 1) := by decide +kernel
theorem dX9_highest_90 : decode cX9_highest 90 = .ok (.getfield 10, 3) := by decide +kernel
theorem dX9_highest_93 : decode cX9_highest 93 = .ok (.getfield 84, 3) := by decide +kernel
theorem dX9_highest_96 : decode cX9_highest 96 = .ok (.invokevirtual 143, 3) := by decide +kernel
theorem dX9_highest_99 : decode cX9_highest 99 = .ok (.ireturn, 1) := by decide +kernel
theorem dX9_all_0 : decode cX9_all 0 = .ok (.iload_n 1, 1) := by decide +kernel
theorem dX9_all_1 : decode cX9_all 1 = .ok (.invokestatic 91, 3) := by decide +kernel
theorem dX9_all_4 : decode cX9_all 4 = .ok (.ifCond .eq 8, 3) := by decide +kernel
theorem dX9_all_7 : decode cX9_all 7 = .ok (.iload_n 2, 1) := by decide +kernel
