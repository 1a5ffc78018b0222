theorem dFg_init_0 : decode cFg_init 0 = .ok (.aload_n 0, 1) := by decide +kernel
theorem dFg_init_1 : decode cFg_init 1 = .ok (.invokespecial 3, 3) := by decide +kernel
theorem dFg_init_4 : decode cFg_init 4 = .ok (.aload_n 0, 1) := by decide +kernel
theorem dFg_init_5 : decode cFg_init 5 = .ok (.iconst 4, 1) := by decide +kernel
theorem dFg_init_6 : decode cFg_init 6 = .ok (.newarray .long, 2) := by decide +kernel
theorem dFg_init_8 : decode cFg_init 8 = .ok (.putfield 9, 3) := by decide +kernel
theorem dFg_init_11 : decode cFg_init 11 = .ok (.aload_n 0, 1) := by decide +kernel
theorem dFg_init_12 : decode cFg_init 12 = .ok (.iconst 4, 1) := by decide +kernel
theorem dFg_init_13 : decode cFg_init 13 = .ok (.newarray .long, 2) := by decide +kernel
theorem dFg_init_15 : decode cFg_init 15 = .ok (.putfield 15, 3) := by decide +kernel
theorem dFg_init_18 : decode cFg_init 18 = .ok (.aload_n 0, 1) := by decide +kernel
theorem dFg_init_19 : decode cFg_init 19 = .ok (.iconst 4, 1) := by decide +kernel
theorem dFg_init_20 : decode cFg_init 20 = .ok (.newarray .long, 2) := by decide +kernel
theorem dFg_init_22 : decode cFg_init 22 = .ok (.putfield 18, 3) := by decide +kernel
theorem dFg_init_25 : decode cFg_init 25 = .ok (.aload_n 0, 1) := by decide +kernel
theorem dFg_init_26 : decode cFg_init 26 = .ok (.iconst 4, 1) := by decide +kernel
theorem dFg_init_27 : decode cFg_init 27 = .ok (.newarray .long, 2) := by decide +kernel
theorem dFg_init_29 : decode cFg_init 29 = .ok (.putfield 21, 3) := by decide +kernel
theorem dFg_init_32 : decode cFg_init 32 = .ok (.aload_n 0, 1) := by decide +kernel
theorem dFg_init_33 : decode cFg_init 33 = .ok (.new 24, 3) := by decide +kernel
theorem dFg_init_36 : decode cFg_init 36 = .ok (.dup, 1) := by decide +kernel
theorem dFg_init_37 : decode cFg_init 37 = .ok (.invokespecial 26, 3) := by decide +kernel
theorem dFg_init_40 : decode cFg_init 40 = .ok (.putfield 27, 3) := by decide +kernel
theorem dFg_init_43 : decode cFg_init 43 = .ok (.return_, 1) := by decide +kernel
theorem dFg_gather_0 : decode cFg_gather 0 = .ok (.aload_n 0, 1) := by decide +kernel
theorem dFg_gather_1 : decode cFg_gather 1 = .ok (.iconst 0, 1) := by decide +kernel
theorem dFg_gather_2 : decode cFg_gather 2 = .ok (.putfield 31, 3) := by decide +kernel
theorem dFg_gather_5 : decode cFg_gather 5 = .ok (.aload_n 0, 1) := by decide +kernel
theorem dFg_gather_6 : decode cFg_gather 6 = .ok (.lconst 0, 1) := by decide +kernel
theorem dFg_gather_7 : decode cFg_gather 7 = .ok (.putfield 35, 3) := by decide +kernel
theorem dFg_gather_10 : decode cFg_gather 10 = .ok (.iconst 0, 1) := by decide +kernel
theorem dFg_gather_11 : decode cFg_gather 11 = .ok (.istore 4, 2) := by decide +kernel
theorem dFg_gather_13 : decode cFg_gather 13 = .ok (.iload 4, 2) := by decide +kernel
theorem dFg_gather_15 : decode cFg_gather 15 = .ok (.iconst 4, 1) := by decide +kernel
theorem dFg_gather_16 : decode cFg_gather 16 = .ok (.if_icmp .ge 70, 3) := by decide +kernel
theorem dFg_gather_19 : decode cFg_gather 19 = .ok (.aload_n 0, 1) := by decide +kernel
theorem dFg_gather_20 : decode cFg_gather 20 = .ok (.iload 4, 2) := by decide +kernel
theorem dFg_gather_22 : decode cFg_gather 22 = .ok (.aload_n 2, 1) := by decide +kernel
theorem dFg_gather_23 : decode cFg_gather 23 = .ok (.iload_n 3, 1) := by decide +kernel
theorem dFg_gather_24 : decode cFg_gather 24 = .ok (.invokevirtual 39, 3) := by decide +kernel
theorem dFg_gather_27 : decode cFg_gather 27 = .ok (.aload_n 0, 1) := by decide +kernel
theorem dFg_gather_28 : decode cFg_gather 28 = .ok (.getfield 9, 3) := by decide +kernel
theorem dFg_gather_31 : decode cFg_gather 31 = .ok (.iload 4, 2) := by decide +kernel
theorem dFg_gather_33 : decode cFg_gather 33 = .ok (.aload_n 1, 1) := by decide +kernel
theorem dFg_gather_34 : decode cFg_gather 34 = .ok (.getfield 43, 3) := by decide +kernel
theorem dFg_gather_37 : decode cFg_gather 37 = .ok (.iload 4, 2) := by decide +kernel
theorem dFg_gather_39 : decode cFg_gather 39 = .ok (.iaload, 1) := by decide +kernel
theorem dFg_gather_40 : decode cFg_gather 40 = .ok (.i2l, 1) := by decide +kernel
theorem dFg_gather_41 : decode cFg_gather 41 = .ok (.lastore, 1) := by decide +kernel
theorem dFg_gather_42 : decode cFg_gather 42 = .ok (.aload_n 0, 1) := by decide +kernel
theorem dFg_gather_43 : decode cFg_gather 43 = .ok (.getfield 15, 3) := by decide +kernel
theorem dFg_gather_46 : decode cFg_gather 46 = .ok (.iload 4, 2) := by decide +kernel
theorem dFg_gather_48 : decode cFg_gather 48 = .ok (.laload, 1) := by decide +kernel
theorem dFg_gather_49 : decode cFg_gather 49 = .ok (.lconst 0, 1) := by decide +kernel
theorem dFg_gather_50 : decode cFg_gather 50 = .ok (.lcmp, 1) := by decide +kernel
theorem dFg_gather_51 : decode cFg_gather 51 = .ok (.ifCond .le 29, 3) := by decide +kernel
theorem dFg_gather_54 : decode cFg_gather 54 = .ok (.aload_n 0, 1) := by decide +kernel
theorem dFg_gather_55 : decode cFg_gather 55 = .ok (.dup, 1) := by decide +kernel
theorem dFg_gather_56 : decode cFg_gather 56 = .ok (.getfield 31, 3) := by decide +kernel
theorem dFg_gather_59 : decode cFg_gather 59 = .ok (.iconst 1, 1) := by decide +kernel
theorem dFg_gather_60 : decode cFg_gather 60 = .ok (.iadd, 1) := by decide +kernel
theorem dFg_gather_61 : decode cFg_gather 61 = .ok (.putfield 31, 3) := by decide +kernel
theorem dFg_gather_64 : decode cFg_gather 64 = .ok (.aload_n 0, 1) := by decide +kernel
theorem dFg_gather_65 : decode cFg_gather 65 = .ok (.dup, 1) := by decide +kernel
theorem dFg_gather_66 : decode cFg_gather 66 = .ok (.getfield 35, 3) := by decide +kernel
theorem dFg_gather_69 : decode cFg_gather 69 = .ok (.aload_n 0, 1) := by decide +kernel
theorem dFg_gather_70 : decode cFg_gather 70 = .ok (.getfield 9, 3) := by decide +kernel
theorem dFg_gather_73 : decode cFg_gather 73 = .ok (.iload 4, 2) := by decide +kernel
theorem dFg_gather_75 : decode cFg_gather 75 = .ok (.laload, 1) := by decide +kernel
theorem dFg_gather_76 : decode cFg_gather 76 = .ok (.ladd, 1) := by decide +kernel
theorem dFg_gather_77 : decode cFg_gather 77 = .ok (.putfield 35, 3) := by decide +kernel
theorem dFg_gather_80 : decode cFg_gather 80 = .ok (.iinc 4 1, 3) := by decide +kernel
theorem dFg_gather_83 : decode cFg_gather 83 = .ok (.goto (-70), 3) := by decide +kernel
theorem dFg_gather_86 : decode cFg_gather 86 = .ok (.return_, 1) := by decide +kernel
theorem dFg_gatherOne_0 : decode cFg_gatherOne 0 = .ok (.lconst 0, 1) := by decide +kernel
theorem dFg_gatherOne_1 : decode cFg_gatherOne 1 = .ok (.lstore 4, 2) := by decide +kernel
theorem dFg_gatherOne_3 : decode cFg_gatherOne 3 = .ok (.lconst 0, 1) := by decide +kernel
theorem dFg_gatherOne_4 : decode cFg_gatherOne 4 = .ok (.lstore 6, 2) := by decide +kernel
theorem dFg_gatherOne_6 : decode cFg_gatherOne 6 = .ok (.lconst 0, 1) := by decide +kernel
theorem dFg_gatherOne_7 : decode cFg_gatherOne 7 = .ok (.lstore 8, 2) := by decide +kernel
theorem dFg_gatherOne_9 : decode cFg_gatherOne 9 = .ok (.iconst 0, 1) := by decide +kernel
theorem dFg_gatherOne_10 : decode cFg_gatherOne 10 = .ok (.istore 10, 2) := by decide +kernel
theorem dFg_gatherOne_12 : decode cFg_gatherOne 12 = .ok (.iload 10, 2) := by decide +kernel
theorem dFg_gatherOne_14 : decode cFg_gatherOne 14 = .ok (.aload_n 2, 1) := by decide +kernel
theorem dFg_gatherOne_15 : decode cFg_gatherOne 15 = .ok (.getfield 48, 3) := by decide +kernel
theorem dFg_gatherOne_18 : decode cFg_gatherOne 18 = .ok (.if_icmp .ge 62, 3) := by decide +kernel
theorem dFg_gatherOne_21 : decode cFg_gatherOne 21 = .ok (.aload_n 2, 1) := by decide +kernel
theorem dFg_gatherOne_22 : decode cFg_gatherOne 22 = .ok (.getfield 53, 3) := by decide +kernel
theorem dFg_gatherOne_25 : decode cFg_gatherOne 25 = .ok (.iload 10, 2) := by decide +kernel
theorem dFg_gatherOne_27 : decode cFg_gatherOne 27 = .ok (.iaload, 1) := by decide +kernel
theorem dFg_gatherOne_28 : decode cFg_gatherOne 28 = .ok (.iload_n 1, 1) := by decide +kernel
theorem dFg_gatherOne_29 : decode cFg_gatherOne 29 = .ok (.if_icmp .ne 45, 3) := by decide +kernel
theorem dFg_gatherOne_32 : decode cFg_gatherOne 32 = .ok (.aload_n 2, 1) := by decide +kernel
theorem dFg_gatherOne_33 : decode cFg_gatherOne 33 = .ok (.getfield 56, 3) := by decide +kernel
theorem dFg_gatherOne_36 : decode cFg_gatherOne 36 = .ok (.iload 10, 2) := by decide +kernel
theorem dFg_gatherOne_38 : decode cFg_gatherOne 38 = .ok (.baload, 1) := by decide +kernel
theorem dFg_gatherOne_39 : decode cFg_gatherOne 39 = .ok (.ifCond .ne 35, 3) := by decide +kernel
theorem dFg_gatherOne_42 : decode cFg_gatherOne 42 = .ok (.aload_n 2, 1) := by decide +kernel
theorem dFg_gatherOne_43 : decode cFg_gatherOne 43 = .ok (.iload 10, 2) := by decide +kernel
theorem dFg_gatherOne_45 : decode cFg_gatherOne 45 = .ok (.iload_n 3, 1) := by decide +kernel
theorem dFg_gatherOne_46 : decode cFg_gatherOne 46 = .ok (.invokevirtual 60, 3) := by decide +kernel
theorem dFg_gatherOne_49 : decode cFg_gatherOne 49 = .ok (.lstore 11, 2) := by decide +kernel
theorem dFg_gatherOne_51 : decode cFg_gatherOne 51 = .ok (.lload 4, 2) := by decide +kernel
theorem dFg_gatherOne_53 : decode cFg_gatherOne 53 = .ok (.lconst 1, 1) := by decide +kernel
theorem dFg_gatherOne_54 : decode cFg_gatherOne 54 = .ok (.ladd, 1) := by decide +kernel
theorem dFg_gatherOne_55 : decode cFg_gatherOne 55 = .ok (.lstore 4, 2) := by decide +kernel
theorem dFg_gatherOne_57 : decode cFg_gatherOne 57 = .ok (.lload 6, 2) := by decide +kernel
theorem dFg_gatherOne_59 : decode cFg_gatherOne 59 = .ok (.lload 11, 2) := by decide +kernel
theorem dFg_gatherOne_61 : decode cFg_gatherOne 61 = .ok (.ladd, 1) := by decide +kernel
theorem dFg_gatherOne_62 : decode cFg_gatherOne 62 = .ok (.lstore 6, 2) := by decide +kernel
theorem dFg_gatherOne_64 : decode cFg_gatherOne 64 = .ok (.lload 8, 2) := by decide +kernel
theorem dFg_gatherOne_66 : decode cFg_gatherOne 66 = .ok (.lload 11, 2) := by decide +kernel
theorem dFg_gatherOne_68 : decode cFg_gatherOne 68 = .ok (.lload 11, 2) := by decide +kernel
theorem dFg_gatherOne_70 : decode cFg_gatherOne 70 = .ok (.lmul, 1) := by decide +kernel
theorem dFg_gatherOne_71 : decode cFg_gatherOne 71 = .ok (.ladd, 1) := by decide +kernel
theorem dFg_gatherOne_72 : decode cFg_gatherOne 72 = .ok (.lstore 8, 2) := by decide +kernel
theorem dFg_gatherOne_74 : decode cFg_gatherOne 74 = .ok (.iinc 10 1, 3) := by decide +kernel
theorem dFg_gatherOne_77 : decode cFg_gatherOne 77 = .ok (.goto (-65), 3) := by decide +kernel
theorem dFg_gatherOne_80 : decode cFg_gatherOne 80 = .ok (.aload_n 0, 1) := by decide +kernel
theorem dFg_gatherOne_81 : decode cFg_gatherOne 81 = .ok (.getfield 15, 3) := by decide +kernel
theorem dFg_gatherOne_84 : decode cFg_gatherOne 84 = .ok (.iload_n 1, 1) := by decide +kernel
theorem dFg_gatherOne_85 : decode cFg_gatherOne 85 = .ok (.lload 4, 2) := by decide +kernel
theorem dFg_gatherOne_87 : decode cFg_gatherOne 87 = .ok (.lastore, 1) := by decide +kernel
theorem dFg_gatherOne_88 : decode cFg_gatherOne 88 = .ok (.aload_n 0, 1) := by decide +kernel
theorem dFg_gatherOne_89 : decode cFg_gatherOne 89 = .ok (.getfield 18, 3) := by decide +kernel
theorem dFg_gatherOne_92 : decode cFg_gatherOne 92 = .ok (.iload_n 1, 1) := by decide +kernel
theorem dFg_gatherOne_93 : decode cFg_gatherOne 93 = .ok (.lload 6, 2) := by decide +kernel
theorem dFg_gatherOne_95 : decode cFg_gatherOne 95 = .ok (.lastore, 1) := by decide +kernel
theorem dFg_gatherOne_96 : decode cFg_gatherOne 96 = .ok (.aload_n 0, 1) := by decide +kernel
theorem dFg_gatherOne_97 : decode cFg_gatherOne 97 = .ok (.getfield 21, 3) := by decide +kernel
theorem dFg_gatherOne_100 : decode cFg_gatherOne 100 = .ok (.iload_n 1, 1) := by decide +kernel
theorem dFg_gatherOne_101 : decode cFg_gatherOne 101 = .ok (.lload 4, 2) := by decide +kernel
theorem dFg_gatherOne_103 : decode cFg_gatherOne 103 = .ok (.lload 8, 2) := by decide +kernel
theorem dFg_gatherOne_105 : decode cFg_gatherOne 105 = .ok (.lmul, 1) := by decide +kernel
theorem dFg_gatherOne_106 : decode cFg_gatherOne 106 = .ok (.lload 6, 2) := by decide +kernel
theorem dFg_gatherOne_108 : decode cFg_gatherOne 108 = .ok (.lload 6, 2) := by decide +kernel
theorem dFg_gatherOne_110 : decode cFg_gatherOne 110 = .ok (.lmul, 1) := by decide +kernel
theorem dFg_gatherOne_111 : decode cFg_gatherOne 111 = .ok (.lsub, 1) := by decide +kernel
theorem dFg_gatherOne_112 : decode cFg_gatherOne 112 = .ok (.lastore, 1) := by decide +kernel
theorem dFg_gatherOne_113 : decode cFg_gatherOne 113 = .ok (.return_, 1) := by decide +kernel
theorem dFg_haveSpread_0 : decode cFg_haveSpread 0 = .ok (.iconst 0, 1) := by decide +kernel
theorem dFg_haveSpread_1 : decode cFg_haveSpread 1 = .ok (.istore_n 1, 1) := by decide +kernel
theorem dFg_haveSpread_2 : decode cFg_haveSpread 2 = .ok (.iload_n 1, 1) := by decide +kernel
theorem dFg_haveSpread_3 : decode cFg_haveSpread 3 = .ok (.iconst 4, 1) := by decide +kernel
theorem dFg_haveSpread_4 : decode cFg_haveSpread 4 = .ok (.if_icmp .ge 22, 3) := by decide +kernel
theorem dFg_haveSpread_7 : decode cFg_haveSpread 7 = .ok (.aload_n 0, 1) := by decide +kernel
theorem dFg_haveSpread_8 : decode cFg_haveSpread 8 = .ok (.getfield 15, 3) := by decide +kernel
theorem dFg_haveSpread_11 : decode cFg_haveSpread 11 = .ok (.iload_n 1, 1) := by decide +kernel
theorem dFg_haveSpread_12 : decode cFg_haveSpread 12 = .ok (.laload, 1) := by decide +kernel
theorem dFg_haveSpread_13 : decode cFg_haveSpread 13 = .ok (.lconst 1, 1) := by decide +kernel
theorem dFg_haveSpread_14 : decode cFg_haveSpread 14 = .ok (.lcmp, 1) := by decide +kernel
theorem dFg_haveSpread_15 : decode cFg_haveSpread 15 = .ok (.ifCond .ne 5, 3) := by decide +kernel
theorem dFg_haveSpread_18 : decode cFg_haveSpread 18 = .ok (.iconst 0, 1) := by decide +kernel
theorem dFg_haveSpread_19 : decode cFg_haveSpread 19 = .ok (.ireturn, 1) := by decide +kernel
theorem dFg_haveSpread_20 : decode cFg_haveSpread 20 = .ok (.iinc 1 1, 3) := by decide +kernel
theorem dFg_haveSpread_23 : decode cFg_haveSpread 23 = .ok (.goto (-21), 3) := by decide +kernel
theorem dFg_haveSpread_26 : decode cFg_haveSpread 26 = .ok (.aload_n 0, 1) := by decide +kernel
theorem dFg_haveSpread_27 : decode cFg_haveSpread 27 = .ok (.getfield 31, 3) := by decide +kernel
theorem dFg_haveSpread_30 : decode cFg_haveSpread 30 = .ok (.ifCond .le 7, 3) := by decide +kernel
theorem dFg_haveSpread_33 : decode cFg_haveSpread 33 = .ok (.iconst 1, 1) := by decide +kernel
theorem dFg_haveSpread_34 : decode cFg_haveSpread 34 = .ok (.goto 4, 3) := by decide +kernel
theorem dFg_haveSpread_37 : decode cFg_haveSpread 37 = .ok (.iconst 0, 1) := by decide +kernel
theorem dFg_haveSpread_38 : decode cFg_haveSpread 38 = .ok (.ireturn, 1) := by decide +kernel
theorem dFg_tellMean_0 : decode cFg_tellMean 0 = .ok (.aload_n 0, 1) := by decide +kernel
theorem dFg_tellMean_1 : decode cFg_tellMean 1 = .ok (.getfield 27, 3) := by decide +kernel
theorem dFg_tellMean_4 : decode cFg_tellMean 4 = .ok (.invokevirtual 64, 3) := by decide +kernel
theorem dFg_tellMean_7 : decode cFg_tellMean 7 = .ok (.iconst 0, 1) := by decide +kernel
theorem dFg_tellMean_8 : decode cFg_tellMean 8 = .ok (.istore_n 2, 1) := by decide +kernel
theorem dFg_tellMean_9 : decode cFg_tellMean 9 = .ok (.iload_n 2, 1) := by decide +kernel
theorem dFg_tellMean_10 : decode cFg_tellMean 10 = .ok (.iconst 4, 1) := by decide +kernel
theorem dFg_tellMean_11 : decode cFg_tellMean 11 = .ok (.if_icmp .ge 47, 3) := by decide +kernel
theorem dFg_tellMean_14 : decode cFg_tellMean 14 = .ok (.aload_n 0, 1) := by decide +kernel
theorem dFg_tellMean_15 : decode cFg_tellMean 15 = .ok (.getfield 15, 3) := by decide +kernel
theorem dFg_tellMean_18 : decode cFg_tellMean 18 = .ok (.iload_n 2, 1) := by decide +kernel
theorem dFg_tellMean_19 : decode cFg_tellMean 19 = .ok (.laload, 1) := by decide +kernel
theorem dFg_tellMean_20 : decode cFg_tellMean 20 = .ok (.lconst 0, 1) := by decide +kernel
theorem dFg_tellMean_21 : decode cFg_tellMean 21 = .ok (.lcmp, 1) := by decide +kernel
theorem dFg_tellMean_22 : decode cFg_tellMean 22 = .ok (.ifCond .le 30, 3) := by decide +kernel
theorem dFg_tellMean_25 : decode cFg_tellMean 25 = .ok (.aload_n 0, 1) := by decide +kernel
theorem dFg_tellMean_26 : decode cFg_tellMean 26 = .ok (.getfield 27, 3) := by decide +kernel
theorem dFg_tellMean_29 : decode cFg_tellMean 29 = .ok (.iload_n 2, 1) := by decide +kernel
theorem dFg_tellMean_30 : decode cFg_tellMean 30 = .ok (.aload_n 0, 1) := by decide +kernel
theorem dFg_tellMean_31 : decode cFg_tellMean 31 = .ok (.getfield 9, 3) := by decide +kernel
theorem dFg_tellMean_34 : decode cFg_tellMean 34 = .ok (.iload_n 2, 1) := by decide +kernel
theorem dFg_tellMean_35 : decode cFg_tellMean 35 = .ok (.laload, 1) := by decide +kernel
theorem dFg_tellMean_36 : decode cFg_tellMean 36 = .ok (.aload_n 0, 1) := by decide +kernel
theorem dFg_tellMean_37 : decode cFg_tellMean 37 = .ok (.getfield 18, 3) := by decide +kernel
theorem dFg_tellMean_40 : decode cFg_tellMean 40 = .ok (.iload_n 2, 1) := by decide +kernel
theorem dFg_tellMean_41 : decode cFg_tellMean 41 = .ok (.laload, 1) := by decide +kernel
theorem dFg_tellMean_42 : decode cFg_tellMean 42 = .ok (.lmul, 1) := by decide +kernel
theorem dFg_tellMean_43 : decode cFg_tellMean 43 = .ok (.aload_n 0, 1) := by decide +kernel
theorem dFg_tellMean_44 : decode cFg_tellMean 44 = .ok (.getfield 15, 3) := by decide +kernel
theorem dFg_tellMean_47 : decode cFg_tellMean 47 = .ok (.iload_n 2, 1) := by decide +kernel
theorem dFg_tellMean_48 : decode cFg_tellMean 48 = .ok (.laload, 1) := by decide +kernel
theorem dFg_tellMean_49 : decode cFg_tellMean 49 = .ok (.invokevirtual 67, 3) := by decide +kernel
theorem dFg_tellMean_52 : decode cFg_tellMean 52 = .ok (.iinc 2 1, 3) := by decide +kernel
theorem dFg_tellMean_55 : decode cFg_tellMean 55 = .ok (.goto (-46), 3) := by decide +kernel
theorem dFg_tellMean_58 : decode cFg_tellMean 58 = .ok (.aload_n 0, 1) := by decide +kernel
theorem dFg_tellMean_59 : decode cFg_tellMean 59 = .ok (.getfield 27, 3) := by decide +kernel
theorem dFg_tellMean_62 : decode cFg_tellMean 62 = .ok (.invokevirtual 71, 3) := by decide +kernel
theorem dFg_tellMean_65 : decode cFg_tellMean 65 = .ok (.lstore_n 2, 1) := by decide +kernel
theorem dFg_tellMean_66 : decode cFg_tellMean 66 = .ok (.aload_n 0, 1) := by decide +kernel
theorem dFg_tellMean_67 : decode cFg_tellMean 67 = .ok (.getfield 27, 3) := by decide +kernel
theorem dFg_tellMean_70 : decode cFg_tellMean 70 = .ok (.lload_n 2, 1) := by decide +kernel
theorem dFg_tellMean_71 : decode cFg_tellMean 71 = .ok (.invokevirtual 75, 3) := by decide +kernel
theorem dFg_tellMean_74 : decode cFg_tellMean 74 = .ok (.lload_n 2, 1) := by decide +kernel
theorem dFg_tellMean_75 : decode cFg_tellMean 75 = .ok (.aload_n 0, 1) := by decide +kernel
theorem dFg_tellMean_76 : decode cFg_tellMean 76 = .ok (.getfield 35, 3) := by decide +kernel
theorem dFg_tellMean_79 : decode cFg_tellMean 79 = .ok (.lmul, 1) := by decide +kernel
theorem dFg_tellMean_80 : decode cFg_tellMean 80 = .ok (.iload_n 1, 1) := by decide +kernel
theorem dFg_tellMean_81 : decode cFg_tellMean 81 = .ok (.invokestatic 79, 3) := by decide +kernel
theorem dFg_tellMean_84 : decode cFg_tellMean 84 = .ok (.lreturn, 1) := by decide +kernel
theorem dFg_tellSpread_0 : decode cFg_tellSpread 0 = .ok (.aload_n 0, 1) := by decide +kernel
theorem dFg_tellSpread_1 : decode cFg_tellSpread 1 = .ok (.getfield 27, 3) := by decide +kernel
theorem dFg_tellSpread_4 : decode cFg_tellSpread 4 = .ok (.invokevirtual 64, 3) := by decide +kernel
theorem dFg_tellSpread_7 : decode cFg_tellSpread 7 = .ok (.iconst 0, 1) := by decide +kernel
theorem dFg_tellSpread_8 : decode cFg_tellSpread 8 = .ok (.istore_n 2, 1) := by decide +kernel
theorem dFg_tellSpread_9 : decode cFg_tellSpread 9 = .ok (.iload_n 2, 1) := by decide +kernel
theorem dFg_tellSpread_10 : decode cFg_tellSpread 10 = .ok (.iconst 4, 1) := by decide +kernel
theorem dFg_tellSpread_11 : decode cFg_tellSpread 11 = .ok (.if_icmp .ge 45, 3) := by decide +kernel
theorem dFg_tellSpread_14 : decode cFg_tellSpread 14 = .ok (.aload_n 0, 1) := by decide +kernel
theorem dFg_tellSpread_15 : decode cFg_tellSpread 15 = .ok (.getfield 15, 3) := by decide +kernel
theorem dFg_tellSpread_18 : decode cFg_tellSpread 18 = .ok (.iload_n 2, 1) := by decide +kernel
theorem dFg_tellSpread_19 : decode cFg_tellSpread 19 = .ok (.laload, 1) := by decide +kernel
theorem dFg_tellSpread_20 : decode cFg_tellSpread 20 = .ok (.lconst 1, 1) := by decide +kernel
theorem dFg_tellSpread_21 : decode cFg_tellSpread 21 = .ok (.lcmp, 1) := by decide +kernel
theorem dFg_tellSpread_22 : decode cFg_tellSpread 22 = .ok (.ifCond .le 28, 3) := by decide +kernel
theorem dFg_tellSpread_25 : decode cFg_tellSpread 25 = .ok (.aload_n 0, 1) := by decide +kernel
theorem dFg_tellSpread_26 : decode cFg_tellSpread 26 = .ok (.getfield 27, 3) := by decide +kernel
theorem dFg_tellSpread_29 : decode cFg_tellSpread 29 = .ok (.iload_n 2, 1) := by decide +kernel
theorem dFg_tellSpread_30 : decode cFg_tellSpread 30 = .ok (.aload_n 0, 1) := by decide +kernel
theorem dFg_tellSpread_31 : decode cFg_tellSpread 31 = .ok (.iload_n 2, 1) := by decide +kernel
theorem dFg_tellSpread_32 : decode cFg_tellSpread 32 = .ok (.invokevirtual 83, 3) := by decide +kernel
theorem dFg_tellSpread_35 : decode cFg_tellSpread 35 = .ok (.aload_n 0, 1) := by decide +kernel
theorem dFg_tellSpread_36 : decode cFg_tellSpread 36 = .ok (.getfield 15, 3) := by decide +kernel
theorem dFg_tellSpread_39 : decode cFg_tellSpread 39 = .ok (.iload_n 2, 1) := by decide +kernel
theorem dFg_tellSpread_40 : decode cFg_tellSpread 40 = .ok (.laload, 1) := by decide +kernel
theorem dFg_tellSpread_41 : decode cFg_tellSpread 41 = .ok (.aload_n 0, 1) := by decide +kernel
theorem dFg_tellSpread_42 : decode cFg_tellSpread 42 = .ok (.iload_n 2, 1) := by decide +kernel
theorem dFg_tellSpread_43 : decode cFg_tellSpread 43 = .ok (.invokevirtual 87, 3) := by decide +kernel
theorem dFg_tellSpread_46 : decode cFg_tellSpread 46 = .ok (.lmul, 1) := by decide +kernel
theorem dFg_tellSpread_47 : decode cFg_tellSpread 47 = .ok (.invokevirtual 67, 3) := by decide +kernel
theorem dFg_tellSpread_50 : decode cFg_tellSpread 50 = .ok (.iinc 2 1, 3) := by decide +kernel
theorem dFg_tellSpread_53 : decode cFg_tellSpread 53 = .ok (.goto (-44), 3) := by decide +kernel
theorem dFg_tellSpread_56 : decode cFg_tellSpread 56 = .ok (.aload_n 0, 1) := by decide +kernel
theorem dFg_tellSpread_57 : decode cFg_tellSpread 57 = .ok (.getfield 27, 3) := by decide +kernel
theorem dFg_tellSpread_60 : decode cFg_tellSpread 60 = .ok (.invokevirtual 71, 3) := by decide +kernel
theorem dFg_tellSpread_63 : decode cFg_tellSpread 63 = .ok (.lstore_n 2, 1) := by decide +kernel
theorem dFg_tellSpread_64 : decode cFg_tellSpread 64 = .ok (.aload_n 0, 1) := by decide +kernel
theorem dFg_tellSpread_65 : decode cFg_tellSpread 65 = .ok (.getfield 27, 3) := by decide +kernel
theorem dFg_tellSpread_68 : decode cFg_tellSpread 68 = .ok (.lload_n 2, 1) := by decide +kernel
theorem dFg_tellSpread_69 : decode cFg_tellSpread 69 = .ok (.invokevirtual 75, 3) := by decide +kernel
theorem dFg_tellSpread_72 : decode cFg_tellSpread 72 = .ok (.lload_n 2, 1) := by decide +kernel
theorem dFg_tellSpread_73 : decode cFg_tellSpread 73 = .ok (.aload_n 0, 1) := by decide +kernel
theorem dFg_tellSpread_74 : decode cFg_tellSpread 74 = .ok (.getfield 35, 3) := by decide +kernel
theorem dFg_tellSpread_77 : decode cFg_tellSpread 77 = .ok (.lmul, 1) := by decide +kernel
theorem dFg_tellSpread_78 : decode cFg_tellSpread 78 = .ok (.aload_n 0, 1) := by decide +kernel
theorem dFg_tellSpread_79 : decode cFg_tellSpread 79 = .ok (.getfield 35, 3) := by decide +kernel
theorem dFg_tellSpread_82 : decode cFg_tellSpread 82 = .ok (.lmul, 1) := by decide +kernel
theorem dFg_tellSpread_83 : decode cFg_tellSpread 83 = .ok (.iload_n 1, 1) := by decide +kernel
theorem dFg_tellSpread_84 : decode cFg_tellSpread 84 = .ok (.invokestatic 79, 3) := by decide +kernel
theorem dFg_tellSpread_87 : decode cFg_tellSpread 87 = .ok (.lreturn, 1) := by decide +kernel
theorem dFg_weighedScatter_0 : decode cFg_weighedScatter 0 = .ok (.aload_n 0, 1) := by decide +kernel
theorem dFg_weighedScatter_1 : decode cFg_weighedScatter 1 = .ok (.getfield 9, 3) := by decide +kernel
theorem dFg_weighedScatter_4 : decode cFg_weighedScatter 4 = .ok (.iload_n 1, 1) := by decide +kernel
theorem dFg_weighedScatter_5 : decode cFg_weighedScatter 5 = .ok (.laload, 1) := by decide +kernel
theorem dFg_weighedScatter_6 : decode cFg_weighedScatter 6 = .ok (.aload_n 0, 1) := by decide +kernel
theorem dFg_weighedScatter_7 : decode cFg_weighedScatter 7 = .ok (.getfield 9, 3) := by decide +kernel
theorem dFg_weighedScatter_10 : decode cFg_weighedScatter 10 = .ok (.iload_n 1, 1) := by decide +kernel
theorem dFg_weighedScatter_11 : decode cFg_weighedScatter 11 = .ok (.laload, 1) := by decide +kernel
theorem dFg_weighedScatter_12 : decode cFg_weighedScatter 12 = .ok (.lmul, 1) := by decide +kernel
theorem dFg_weighedScatter_13 : decode cFg_weighedScatter 13 = .ok (.aload_n 0, 1) := by decide +kernel
theorem dFg_weighedScatter_14 : decode cFg_weighedScatter 14 = .ok (.getfield 21, 3) := by decide +kernel
theorem dFg_weighedScatter_17 : decode cFg_weighedScatter 17 = .ok (.iload_n 1, 1) := by decide +kernel
theorem dFg_weighedScatter_18 : decode cFg_weighedScatter 18 = .ok (.laload, 1) := by decide +kernel
theorem dFg_weighedScatter_19 : decode cFg_weighedScatter 19 = .ok (.lmul, 1) := by decide +kernel
theorem dFg_weighedScatter_20 : decode cFg_weighedScatter 20 = .ok (.lreturn, 1) := by decide +kernel
theorem dFg_pairs_0 : decode cFg_pairs 0 = .ok (.aload_n 0, 1) := by decide +kernel
theorem dFg_pairs_1 : decode cFg_pairs 1 = .ok (.getfield 15, 3) := by decide +kernel
theorem dFg_pairs_4 : decode cFg_pairs 4 = .ok (.iload_n 1, 1) := by decide +kernel
theorem dFg_pairs_5 : decode cFg_pairs 5 = .ok (.laload, 1) := by decide +kernel
theorem dFg_pairs_6 : decode cFg_pairs 6 = .ok (.aload_n 0, 1) := by decide +kernel
theorem dFg_pairs_7 : decode cFg_pairs 7 = .ok (.getfield 15, 3) := by decide +kernel
theorem dFg_pairs_10 : decode cFg_pairs 10 = .ok (.iload_n 1, 1) := by decide +kernel
theorem dFg_pairs_11 : decode cFg_pairs 11 = .ok (.laload, 1) := by decide +kernel
theorem dFg_pairs_12 : decode cFg_pairs 12 = .ok (.lconst 1, 1) := by decide +kernel
theorem dFg_pairs_13 : decode cFg_pairs 13 = .ok (.lsub, 1) := by decide +kernel
theorem dFg_pairs_14 : decode cFg_pairs 14 = .ok (.lmul, 1) := by decide +kernel
theorem dFg_pairs_15 : decode cFg_pairs 15 = .ok (.lreturn, 1) := by decide +kernel
theorem dPl_init_0 : decode cPl_init 0 = .ok (.aload_n 0, 1) := by decide +kernel
theorem dPl_init_1 : decode cPl_init 1 = .ok (.invokespecial 3, 3) := by decide +kernel
theorem dPl_init_4 : decode cPl_init 4 = .ok (.aload_n 0, 1) := by decide +kernel
theorem dPl_init_5 : decode cPl_init 5 = .ok (.iconst 4, 1) := by decide +kernel
theorem dPl_init_6 : decode cPl_init 6 = .ok (.newarray .int, 2) := by decide +kernel
theorem dPl_init_8 : decode cPl_init 8 = .ok (.putfield 9, 3) := by decide +kernel
theorem dPl_init_11 : decode cPl_init 11 = .ok (.aload_n 0, 1) := by decide +kernel
theorem dPl_init_12 : decode cPl_init 12 = .ok (.iconst 4, 1) := by decide +kernel
theorem dPl_init_13 : decode cPl_init 13 = .ok (.newarray .int, 2) := by decide +kernel
theorem dPl_init_15 : decode cPl_init 15 = .ok (.putfield 15, 3) := by decide +kernel
theorem dPl_init_18 : decode cPl_init 18 = .ok (.aload_n 0, 1) := by decide +kernel
theorem dPl_init_19 : decode cPl_init 19 = .ok (.iconst 4, 1) := by decide +kernel
theorem dPl_init_20 : decode cPl_init 20 = .ok (.newarray .int, 2) := by decide +kernel
theorem dPl_init_22 : decode cPl_init 22 = .ok (.putfield 18, 3) := by decide +kernel
theorem dPl_init_25 : decode cPl_init 25 = .ok (.aload_n 0, 1) := by decide +kernel
theorem dPl_init_26 : decode cPl_init 26 = .ok (.iconst 4, 1) := by decide +kernel
theorem dPl_init_27 : decode cPl_init 27 = .ok (.newarray .int, 2) := by decide +kernel
theorem dPl_init_29 : decode cPl_init 29 = .ok (.putfield 21, 3) := by decide +kernel
theorem dPl_init_32 : decode cPl_init 32 = .ok (.aload_n 0, 1) := by decide +kernel
theorem dPl_init_33 : decode cPl_init 33 = .ok (.iconst 4, 1) := by decide +kernel
theorem dPl_init_34 : decode cPl_init 34 = .ok (.newarray .long, 2) := by decide +kernel
theorem dPl_init_36 : decode cPl_init 36 = .ok (.putfield 24, 3) := by decide +kernel
theorem dPl_init_39 : decode cPl_init 39 = .ok (.aload_n 0, 1) := by decide +kernel
theorem dPl_init_40 : decode cPl_init 40 = .ok (.iconst 4, 1) := by decide +kernel
theorem dPl_init_41 : decode cPl_init 41 = .ok (.newarray .long, 2) := by decide +kernel
theorem dPl_init_43 : decode cPl_init 43 = .ok (.putfield 28, 3) := by decide +kernel
theorem dPl_init_46 : decode cPl_init 46 = .ok (.aload_n 0, 1) := by decide +kernel
theorem dPl_init_47 : decode cPl_init 47 = .ok (.new 31, 3) := by decide +kernel
theorem dPl_init_50 : decode cPl_init 50 = .ok (.dup, 1) := by decide +kernel
theorem dPl_init_51 : decode cPl_init 51 = .ok (.invokespecial 33, 3) := by decide +kernel
theorem dPl_init_54 : decode cPl_init 54 = .ok (.putfield 34, 3) := by decide +kernel
theorem dPl_init_57 : decode cPl_init 57 = .ok (.return_, 1) := by decide +kernel
theorem dPl_heldBags_0 : decode cPl_heldBags 0 = .ok (.aload_n 0, 1) := by decide +kernel
theorem dPl_heldBags_1 : decode cPl_heldBags 1 = .ok (.getfield 38, 3) := by decide +kernel
theorem dPl_heldBags_4 : decode cPl_heldBags 4 = .ok (.ifCond .eq 12, 3) := by decide +kernel
theorem dPl_heldBags_7 : decode cPl_heldBags 7 = .ok (.aload_n 0, 1) := by decide +kernel
theorem dPl_heldBags_8 : decode cPl_heldBags 8 = .ok (.getfield 9, 3) := by decide +kernel
theorem dPl_heldBags_11 : decode cPl_heldBags 11 = .ok (.iload_n 1, 1) := by decide +kernel
theorem dPl_heldBags_12 : decode cPl_heldBags 12 = .ok (.iaload, 1) := by decide +kernel
theorem dPl_heldBags_13 : decode cPl_heldBags 13 = .ok (.goto 4, 3) := by decide +kernel
theorem dPl_heldBags_16 : decode cPl_heldBags 16 = .ok (.iconst (-1), 1) := by decide +kernel
theorem dPl_heldBags_17 : decode cPl_heldBags 17 = .ok (.ireturn, 1) := by decide +kernel
theorem dPl_prepare_0 : decode cPl_prepare 0 = .ok (.aload_n 0, 1) := by decide +kernel
theorem dPl_prepare_1 : decode cPl_prepare 1 = .ok (.getfield 34, 3) := by decide +kernel
theorem dPl_prepare_4 : decode cPl_prepare 4 = .ok (.invokevirtual 42, 3) := by decide +kernel
theorem dPl_prepare_7 : decode cPl_prepare 7 = .ok (.iconst 0, 1) := by decide +kernel
theorem dPl_prepare_8 : decode cPl_prepare 8 = .ok (.istore 7, 2) := by decide +kernel
theorem dPl_prepare_10 : decode cPl_prepare 10 = .ok (.iload 7, 2) := by decide +kernel
theorem dPl_prepare_12 : decode cPl_prepare 12 = .ok (.iconst 4, 1) := by decide +kernel
theorem dPl_prepare_13 : decode cPl_prepare 13 = .ok (.if_icmp .ge 103, 3) := by decide +kernel
theorem dPl_prepare_16 : decode cPl_prepare 16 = .ok (.aload_n 1, 1) := by decide +kernel
theorem dPl_prepare_17 : decode cPl_prepare 17 = .ok (.getfield 45, 3) := by decide +kernel
theorem dPl_prepare_20 : decode cPl_prepare 20 = .ok (.iload 7, 2) := by decide +kernel
theorem dPl_prepare_22 : decode cPl_prepare 22 = .ok (.laload, 1) := by decide +kernel
theorem dPl_prepare_23 : decode cPl_prepare 23 = .ok (.lconst 1, 1) := by decide +kernel
theorem dPl_prepare_24 : decode cPl_prepare 24 = .ok (.lcmp, 1) := by decide +kernel
theorem dPl_prepare_25 : decode cPl_prepare 25 = .ok (.ifCond .le 7, 3) := by decide +kernel
theorem dPl_prepare_28 : decode cPl_prepare 28 = .ok (.iconst 1, 1) := by decide +kernel
theorem dPl_prepare_29 : decode cPl_prepare 29 = .ok (.goto 4, 3) := by decide +kernel
theorem dPl_prepare_32 : decode cPl_prepare 32 = .ok (.iconst 0, 1) := by decide +kernel
theorem dPl_prepare_33 : decode cPl_prepare 33 = .ok (.istore 8, 2) := by decide +kernel
theorem dPl_prepare_35 : decode cPl_prepare 35 = .ok (.aload_n 0, 1) := by decide +kernel
theorem dPl_prepare_36 : decode cPl_prepare 36 = .ok (.getfield 18, 3) := by decide +kernel
theorem dPl_prepare_39 : decode cPl_prepare 39 = .ok (.iload 7, 2) := by decide +kernel
theorem dPl_prepare_41 : decode cPl_prepare 41 = .ok (.iload 8, 2) := by decide +kernel
theorem dPl_prepare_43 : decode cPl_prepare 43 = .ok (.ifCond .eq 7, 3) := by decide +kernel
theorem dPl_prepare_46 : decode cPl_prepare 46 = .ok (.iconst 1, 1) := by decide +kernel
theorem dPl_prepare_47 : decode cPl_prepare 47 = .ok (.goto 4, 3) := by decide +kernel
theorem dPl_prepare_50 : decode cPl_prepare 50 = .ok (.iconst 0, 1) := by decide +kernel
theorem dPl_prepare_51 : decode cPl_prepare 51 = .ok (.iastore, 1) := by decide +kernel
theorem dPl_prepare_52 : decode cPl_prepare 52 = .ok (.aload_n 0, 1) := by decide +kernel
theorem dPl_prepare_53 : decode cPl_prepare 53 = .ok (.getfield 21, 3) := by decide +kernel
theorem dPl_prepare_56 : decode cPl_prepare 56 = .ok (.iload 7, 2) := by decide +kernel
theorem dPl_prepare_58 : decode cPl_prepare 58 = .ok (.iload 8, 2) := by decide +kernel
theorem dPl_prepare_60 : decode cPl_prepare 60 = .ok (.ifCond .eq 8, 3) := by decide +kernel
theorem dPl_prepare_63 : decode cPl_prepare 63 = .ok (.bipush 6, 2) := by decide +kernel
theorem dPl_prepare_65 : decode cPl_prepare 65 = .ok (.goto 4, 3) := by decide +kernel
theorem dPl_prepare_68 : decode cPl_prepare 68 = .ok (.iconst 0, 1) := by decide +kernel
theorem dPl_prepare_69 : decode cPl_prepare 69 = .ok (.iastore, 1) := by decide +kernel
theorem dPl_prepare_70 : decode cPl_prepare 70 = .ok (.aload_n 0, 1) := by decide +kernel
theorem dPl_prepare_71 : decode cPl_prepare 71 = .ok (.getfield 24, 3) := by decide +kernel
theorem dPl_prepare_74 : decode cPl_prepare 74 = .ok (.iload 7, 2) := by decide +kernel
theorem dPl_prepare_76 : decode cPl_prepare 76 = .ok (.aload_n 2, 1) := by decide +kernel
theorem dPl_prepare_77 : decode cPl_prepare 77 = .ok (.getfield 50, 3) := by decide +kernel
theorem dPl_prepare_80 : decode cPl_prepare 80 = .ok (.iload 7, 2) := by decide +kernel
theorem dPl_prepare_82 : decode cPl_prepare 82 = .ok (.laload, 1) := by decide +kernel
theorem dPl_prepare_83 : decode cPl_prepare 83 = .ok (.lastore, 1) := by decide +kernel
theorem dPl_prepare_84 : decode cPl_prepare 84 = .ok (.iload 8, 2) := by decide +kernel
theorem dPl_prepare_86 : decode cPl_prepare 86 = .ok (.ifCond .eq 24, 3) := by decide +kernel
theorem dPl_prepare_89 : decode cPl_prepare 89 = .ok (.aload_n 0, 1) := by decide +kernel
theorem dPl_prepare_90 : decode cPl_prepare 90 = .ok (.getfield 34, 3) := by decide +kernel
theorem dPl_prepare_93 : decode cPl_prepare 93 = .ok (.iload 7, 2) := by decide +kernel
theorem dPl_prepare_95 : decode cPl_prepare 95 = .ok (.aload_n 1, 1) := by decide +kernel
theorem dPl_prepare_96 : decode cPl_prepare 96 = .ok (.iload 7, 2) := by decide +kernel
theorem dPl_prepare_98 : decode cPl_prepare 98 = .ok (.invokevirtual 53, 3) := by decide +kernel
theorem dPl_prepare_101 : decode cPl_prepare 101 = .ok (.aload_n 1, 1) := by decide +kernel
theorem dPl_prepare_102 : decode cPl_prepare 102 = .ok (.iload 7, 2) := by decide +kernel
theorem dPl_prepare_104 : decode cPl_prepare 104 = .ok (.invokevirtual 57, 3) := by decide +kernel
theorem dPl_prepare_107 : decode cPl_prepare 107 = .ok (.invokevirtual 60, 3) := by decide +kernel
theorem dPl_prepare_110 : decode cPl_prepare 110 = .ok (.iinc 7 1, 3) := by decide +kernel
theorem dPl_prepare_113 : decode cPl_prepare 113 = .ok (.goto (-103), 3) := by decide +kernel
theorem dPl_prepare_116 : decode cPl_prepare 116 = .ok (.aload_n 0, 1) := by decide +kernel
theorem dPl_prepare_117 : decode cPl_prepare 117 = .ok (.getfield 34, 3) := by decide +kernel
theorem dPl_prepare_120 : decode cPl_prepare 120 = .ok (.invokevirtual 64, 3) := by decide +kernel
theorem dPl_prepare_123 : decode cPl_prepare 123 = .ok (.lstore 7, 2) := by decide +kernel
theorem dPl_prepare_125 : decode cPl_prepare 125 = .ok (.iconst 0, 1) := by decide +kernel
theorem dPl_prepare_126 : decode cPl_prepare 126 = .ok (.istore 9, 2) := by decide +kernel
theorem dPl_prepare_128 : decode cPl_prepare 128 = .ok (.iload 9, 2) := by decide +kernel
theorem dPl_prepare_130 : decode cPl_prepare 130 = .ok (.iconst 4, 1) := by decide +kernel
theorem dPl_prepare_131 : decode cPl_prepare 131 = .ok (.if_icmp .ge 31, 3) := by decide +kernel
theorem dPl_prepare_134 : decode cPl_prepare 134 = .ok (.aload_n 0, 1) := by decide +kernel
theorem dPl_prepare_135 : decode cPl_prepare 135 = .ok (.getfield 28, 3) := by decide +kernel
theorem dPl_prepare_138 : decode cPl_prepare 138 = .ok (.iload 9, 2) := by decide +kernel
theorem dPl_prepare_140 : decode cPl_prepare 140 = .ok (.ldc2_w 68, 3) := by decide +kernel
theorem dPl_prepare_143 : decode cPl_prepare 143 = .ok (.aload_n 0, 1) := by decide +kernel
theorem dPl_prepare_144 : decode cPl_prepare 144 = .ok (.getfield 34, 3) := by decide +kernel
theorem dPl_prepare_147 : decode cPl_prepare 147 = .ok (.iload 9, 2) := by decide +kernel
theorem dPl_prepare_149 : decode cPl_prepare 149 = .ok (.lload 7, 2) := by decide +kernel
theorem dPl_prepare_151 : decode cPl_prepare 151 = .ok (.invokevirtual 70, 3) := by decide +kernel
theorem dPl_prepare_154 : decode cPl_prepare 154 = .ok (.lmul, 1) := by decide +kernel
theorem dPl_prepare_155 : decode cPl_prepare 155 = .ok (.lastore, 1) := by decide +kernel
theorem dPl_prepare_156 : decode cPl_prepare 156 = .ok (.iinc 9 1, 3) := by decide +kernel
theorem dPl_prepare_159 : decode cPl_prepare 159 = .ok (.goto (-31), 3) := by decide +kernel
theorem dPl_prepare_162 : decode cPl_prepare 162 = .ok (.lload_n 3, 1) := by decide +kernel
theorem dPl_prepare_163 : decode cPl_prepare 163 = .ok (.aload_n 1, 1) := by decide +kernel
theorem dPl_prepare_164 : decode cPl_prepare 164 = .ok (.getfield 74, 3) := by decide +kernel
theorem dPl_prepare_167 : decode cPl_prepare 167 = .ok (.lmul, 1) := by decide +kernel
theorem dPl_prepare_168 : decode cPl_prepare 168 = .ok (.aload_n 1, 1) := by decide +kernel
theorem dPl_prepare_169 : decode cPl_prepare 169 = .ok (.getfield 74, 3) := by decide +kernel
theorem dPl_prepare_172 : decode cPl_prepare 172 = .ok (.lmul, 1) := by decide +kernel
theorem dPl_prepare_173 : decode cPl_prepare 173 = .ok (.lload 7, 2) := by decide +kernel
theorem dPl_prepare_175 : decode cPl_prepare 175 = .ok (.lmul, 1) := by decide +kernel
theorem dPl_prepare_176 : decode cPl_prepare 176 = .ok (.ldc2_w 68, 3) := by decide +kernel
theorem dPl_prepare_179 : decode cPl_prepare 179 = .ok (.lmul, 1) := by decide +kernel
theorem dPl_prepare_180 : decode cPl_prepare 180 = .ok (.lstore 9, 2) := by decide +kernel
theorem dPl_prepare_182 : decode cPl_prepare 182 = .ok (.aload_n 0, 1) := by decide +kernel
theorem dPl_prepare_183 : decode cPl_prepare 183 = .ok (.lload 5, 2) := by decide +kernel
theorem dPl_prepare_185 : decode cPl_prepare 185 = .ok (.lconst 1, 1) := by decide +kernel
theorem dPl_prepare_186 : decode cPl_prepare 186 = .ok (.lcmp, 1) := by decide +kernel
theorem dPl_prepare_187 : decode cPl_prepare 187 = .ok (.ifCond .ge 7, 3) := by decide +kernel
theorem dPl_prepare_190 : decode cPl_prepare 190 = .ok (.lconst 0, 1) := by decide +kernel
theorem dPl_prepare_191 : decode cPl_prepare 191 = .ok (.goto 8, 3) := by decide +kernel
theorem dPl_prepare_194 : decode cPl_prepare 194 = .ok (.lload 9, 2) := by decide +kernel
theorem dPl_prepare_196 : decode cPl_prepare 196 = .ok (.lload 5, 2) := by decide +kernel
theorem dPl_prepare_198 : decode cPl_prepare 198 = .ok (.ldiv, 1) := by decide +kernel
theorem dPl_prepare_199 : decode cPl_prepare 199 = .ok (.putfield 78, 3) := by decide +kernel
theorem dPl_prepare_202 : decode cPl_prepare 202 = .ok (.return_, 1) := by decide +kernel
theorem dPl_findCheapest_0 : decode cPl_findCheapest 0 = .ok (.aload_n 0, 1) := by decide +kernel
theorem dPl_findCheapest_1 : decode cPl_findCheapest 1 = .ok (.iconst 0, 1) := by decide +kernel
theorem dPl_findCheapest_2 : decode cPl_findCheapest 2 = .ok (.putfield 38, 3) := by decide +kernel
theorem dPl_findCheapest_5 : decode cPl_findCheapest 5 = .ok (.aload_n 0, 1) := by decide +kernel
theorem dPl_findCheapest_6 : decode cPl_findCheapest 6 = .ok (.ldc2_w 83, 3) := by decide +kernel
theorem dPl_findCheapest_9 : decode cPl_findCheapest 9 = .ok (.putfield 85, 3) := by decide +kernel
theorem dPl_findCheapest_12 : decode cPl_findCheapest 12 = .ok (.aload_n 0, 1) := by decide +kernel
theorem dPl_findCheapest_13 : decode cPl_findCheapest 13 = .ok (.getfield 18, 3) := by decide +kernel
theorem dPl_findCheapest_16 : decode cPl_findCheapest 16 = .ok (.iconst 0, 1) := by decide +kernel
theorem dPl_findCheapest_17 : decode cPl_findCheapest 17 = .ok (.aload_n 0, 1) := by decide +kernel
theorem dPl_findCheapest_18 : decode cPl_findCheapest 18 = .ok (.getfield 15, 3) := by decide +kernel
theorem dPl_findCheapest_21 : decode cPl_findCheapest 21 = .ok (.iconst 0, 1) := by decide +kernel
theorem dPl_findCheapest_22 : decode cPl_findCheapest 22 = .ok (.iconst 4, 1) := by decide +kernel
theorem dPl_findCheapest_23 : decode cPl_findCheapest 23 = .ok (.invokestatic 88, 3) := by decide +kernel
theorem dPl_findCheapest_26 : decode cPl_findCheapest 26 = .ok (.iconst 0, 1) := by decide +kernel
theorem dPl_findCheapest_27 : decode cPl_findCheapest 27 = .ok (.istore_n 1, 1) := by decide +kernel
theorem dPl_findCheapest_28 : decode cPl_findCheapest 28 = .ok (.iload_n 1, 1) := by decide +kernel
theorem dPl_findCheapest_29 : decode cPl_findCheapest 29 = .ok (.sipush 1296, 3) := by decide +kernel
theorem dPl_findCheapest_32 : decode cPl_findCheapest 32 = .ok (.if_icmp .ge 23, 3) := by decide +kernel
theorem dPl_findCheapest_35 : decode cPl_findCheapest 35 = .ok (.aload_n 0, 1) := by decide +kernel
theorem dPl_findCheapest_36 : decode cPl_findCheapest 36 = .ok (.invokevirtual 94, 3) := by decide +kernel
theorem dPl_findCheapest_39 : decode cPl_findCheapest 39 = .ok (.aload_n 0, 1) := by decide +kernel
theorem dPl_findCheapest_40 : decode cPl_findCheapest 40 = .ok (.invokevirtual 97, 3) := by decide +kernel
theorem dPl_findCheapest_43 : decode cPl_findCheapest 43 = .ok (.ifCond .ne 6, 3) := by decide +kernel
theorem dPl_findCheapest_46 : decode cPl_findCheapest 46 = .ok (.goto 9, 3) := by decide +kernel
theorem dPl_findCheapest_49 : decode cPl_findCheapest 49 = .ok (.iinc 1 1, 3) := by decide +kernel
theorem dPl_findCheapest_52 : decode cPl_findCheapest 52 = .ok (.goto (-24), 3) := by decide +kernel
theorem dPl_findCheapest_55 : decode cPl_findCheapest 55 = .ok (.aload_n 0, 1) := by decide +kernel
theorem dPl_findCheapest_56 : decode cPl_findCheapest 56 = .ok (.getfield 38, 3) := by decide +kernel
theorem dPl_findCheapest_59 : decode cPl_findCheapest 59 = .ok (.ifCond .eq 10, 3) := by decide +kernel
theorem dPl_findCheapest_62 : decode cPl_findCheapest 62 = .ok (.aload_n 0, 1) := by decide +kernel
theorem dPl_findCheapest_63 : decode cPl_findCheapest 63 = .ok (.getfield 85, 3) := by decide +kernel
theorem dPl_findCheapest_66 : decode cPl_findCheapest 66 = .ok (.goto 6, 3) := by decide +kernel
theorem dPl_findCheapest_69 : decode cPl_findCheapest 69 = .ok (.ldc2_w 101, 3) := by decide +kernel
theorem dPl_findCheapest_72 : decode cPl_findCheapest 72 = .ok (.lreturn, 1) := by decide +kernel
theorem dPl_considerTrial_0 : decode cPl_considerTrial 0 = .ok (.lconst 0, 1) := by decide +kernel
theorem dPl_considerTrial_1 : decode cPl_considerTrial 1 = .ok (.lstore_n 1, 1) := by decide +kernel
theorem dPl_considerTrial_2 : decode cPl_considerTrial 2 = .ok (.iconst 0, 1) := by decide +kernel
theorem dPl_considerTrial_3 : decode cPl_considerTrial 3 = .ok (.istore_n 3, 1) := by decide +kernel
theorem dPl_considerTrial_4 : decode cPl_considerTrial 4 = .ok (.iload_n 3, 1) := by decide +kernel
theorem dPl_considerTrial_5 : decode cPl_considerTrial 5 = .ok (.iconst 4, 1) := by decide +kernel
theorem dPl_considerTrial_6 : decode cPl_considerTrial 6 = .ok (.if_icmp .ge 26, 3) := by decide +kernel
theorem dPl_considerTrial_9 : decode cPl_considerTrial 9 = .ok (.lload_n 1, 1) := by decide +kernel
theorem dPl_considerTrial_10 : decode cPl_considerTrial 10 = .ok (.aload_n 0, 1) := by decide +kernel
theorem dPl_considerTrial_11 : decode cPl_considerTrial 11 = .ok (.getfield 15, 3) := by decide +kernel
theorem dPl_considerTrial_14 : decode cPl_considerTrial 14 = .ok (.iload_n 3, 1) := by decide +kernel
theorem dPl_considerTrial_15 : decode cPl_considerTrial 15 = .ok (.iaload, 1) := by decide +kernel
theorem dPl_considerTrial_16 : decode cPl_considerTrial 16 = .ok (.i2l, 1) := by decide +kernel
theorem dPl_considerTrial_17 : decode cPl_considerTrial 17 = .ok (.aload_n 0, 1) := by decide +kernel
theorem dPl_considerTrial_18 : decode cPl_considerTrial 18 = .ok (.getfield 24, 3) := by decide +kernel
theorem dPl_considerTrial_21 : decode cPl_considerTrial 21 = .ok (.iload_n 3, 1) := by decide +kernel
theorem dPl_considerTrial_22 : decode cPl_considerTrial 22 = .ok (.laload, 1) := by decide +kernel
theorem dPl_considerTrial_23 : decode cPl_considerTrial 23 = .ok (.lmul, 1) := by decide +kernel
theorem dPl_considerTrial_24 : decode cPl_considerTrial 24 = .ok (.ladd, 1) := by decide +kernel
theorem dPl_considerTrial_25 : decode cPl_considerTrial 25 = .ok (.lstore_n 1, 1) := by decide +kernel
theorem dPl_considerTrial_26 : decode cPl_considerTrial 26 = .ok (.iinc 3 1, 3) := by decide +kernel
theorem dPl_considerTrial_29 : decode cPl_considerTrial 29 = .ok (.goto (-25), 3) := by decide +kernel
theorem dPl_considerTrial_32 : decode cPl_considerTrial 32 = .ok (.lload_n 1, 1) := by decide +kernel
theorem dPl_considerTrial_33 : decode cPl_considerTrial 33 = .ok (.aload_n 0, 1) := by decide +kernel
theorem dPl_considerTrial_34 : decode cPl_considerTrial 34 = .ok (.getfield 85, 3) := by decide +kernel
theorem dPl_considerTrial_37 : decode cPl_considerTrial 37 = .ok (.lcmp, 1) := by decide +kernel
theorem dPl_considerTrial_38 : decode cPl_considerTrial 38 = .ok (.ifCond .ge 34, 3) := by decide +kernel
theorem dPl_considerTrial_41 : decode cPl_considerTrial 41 = .ok (.aload_n 0, 1) := by decide +kernel
theorem dPl_considerTrial_42 : decode cPl_considerTrial 42 = .ok (.invokevirtual 103, 3) := by decide +kernel
theorem dPl_considerTrial_45 : decode cPl_considerTrial 45 = .ok (.ifCond .eq 27, 3) := by decide +kernel
theorem dPl_considerTrial_48 : decode cPl_considerTrial 48 = .ok (.aload_n 0, 1) := by decide +kernel
theorem dPl_considerTrial_49 : decode cPl_considerTrial 49 = .ok (.iconst 1, 1) := by decide +kernel
theorem dPl_considerTrial_50 : decode cPl_considerTrial 50 = .ok (.putfield 38, 3) := by decide +kernel
theorem dPl_considerTrial_53 : decode cPl_considerTrial 53 = .ok (.aload_n 0, 1) := by decide +kernel
theorem dPl_considerTrial_54 : decode cPl_considerTrial 54 = .ok (.lload_n 1, 1) := by decide +kernel
theorem dPl_considerTrial_55 : decode cPl_considerTrial 55 = .ok (.putfield 85, 3) := by decide +kernel
theorem dPl_considerTrial_58 : decode cPl_considerTrial 58 = .ok (.aload_n 0, 1) := by decide +kernel
theorem dPl_considerTrial_59 : decode cPl_considerTrial 59 = .ok (.getfield 15, 3) := by decide +kernel
theorem dPl_considerTrial_62 : decode cPl_considerTrial 62 = .ok (.iconst 0, 1) := by decide +kernel
theorem dPl_considerTrial_63 : decode cPl_considerTrial 63 = .ok (.aload_n 0, 1) := by decide +kernel
theorem dPl_considerTrial_64 : decode cPl_considerTrial 64 = .ok (.getfield 9, 3) := by decide +kernel
theorem dPl_considerTrial_67 : decode cPl_considerTrial 67 = .ok (.iconst 0, 1) := by decide +kernel
theorem dPl_considerTrial_68 : decode cPl_considerTrial 68 = .ok (.iconst 4, 1) := by decide +kernel
theorem dPl_considerTrial_69 : decode cPl_considerTrial 69 = .ok (.invokestatic 88, 3) := by decide +kernel
theorem dPl_considerTrial_72 : decode cPl_considerTrial 72 = .ok (.return_, 1) := by decide +kernel
theorem dPl_isNearEnough_0 : decode cPl_isNearEnough 0 = .ok (.lconst 0, 1) := by decide +kernel
theorem dPl_isNearEnough_1 : decode cPl_isNearEnough 1 = .ok (.lstore_n 1, 1) := by decide +kernel
theorem dPl_isNearEnough_2 : decode cPl_isNearEnough 2 = .ok (.iconst 0, 1) := by decide +kernel
theorem dPl_isNearEnough_3 : decode cPl_isNearEnough 3 = .ok (.istore_n 3, 1) := by decide +kernel
theorem dPl_isNearEnough_4 : decode cPl_isNearEnough 4 = .ok (.iload_n 3, 1) := by decide +kernel
theorem dPl_isNearEnough_5 : decode cPl_isNearEnough 5 = .ok (.iconst 4, 1) := by decide +kernel
theorem dPl_isNearEnough_6 : decode cPl_isNearEnough 6 = .ok (.if_icmp .ge 35, 3) := by decide +kernel
theorem dPl_isNearEnough_9 : decode cPl_isNearEnough 9 = .ok (.aload_n 0, 1) := by decide +kernel
theorem dPl_isNearEnough_10 : decode cPl_isNearEnough 10 = .ok (.getfield 15, 3) := by decide +kernel
theorem dPl_isNearEnough_13 : decode cPl_isNearEnough 13 = .ok (.iload_n 3, 1) := by decide +kernel
theorem dPl_isNearEnough_14 : decode cPl_isNearEnough 14 = .ok (.iaload, 1) := by decide +kernel
theorem dPl_isNearEnough_15 : decode cPl_isNearEnough 15 = .ok (.ifCond .le 20, 3) := by decide +kernel
theorem dPl_isNearEnough_18 : decode cPl_isNearEnough 18 = .ok (.lload_n 1, 1) := by decide +kernel
theorem dPl_isNearEnough_19 : decode cPl_isNearEnough 19 = .ok (.aload_n 0, 1) := by decide +kernel
theorem dPl_isNearEnough_20 : decode cPl_isNearEnough 20 = .ok (.getfield 28, 3) := by decide +kernel
theorem dPl_isNearEnough_23 : decode cPl_isNearEnough 23 = .ok (.iload_n 3, 1) := by decide +kernel
theorem dPl_isNearEnough_24 : decode cPl_isNearEnough 24 = .ok (.laload, 1) := by decide +kernel
theorem dPl_isNearEnough_25 : decode cPl_isNearEnough 25 = .ok (.aload_n 0, 1) := by decide +kernel
theorem dPl_isNearEnough_26 : decode cPl_isNearEnough 26 = .ok (.getfield 15, 3) := by decide +kernel
theorem dPl_isNearEnough_29 : decode cPl_isNearEnough 29 = .ok (.iload_n 3, 1) := by decide +kernel
theorem dPl_isNearEnough_30 : decode cPl_isNearEnough 30 = .ok (.iaload, 1) := by decide +kernel
theorem dPl_isNearEnough_31 : decode cPl_isNearEnough 31 = .ok (.i2l, 1) := by decide +kernel
theorem dPl_isNearEnough_32 : decode cPl_isNearEnough 32 = .ok (.ldiv, 1) := by decide +kernel
theorem dPl_isNearEnough_33 : decode cPl_isNearEnough 33 = .ok (.ladd, 1) := by decide +kernel
theorem dPl_isNearEnough_34 : decode cPl_isNearEnough 34 = .ok (.lstore_n 1, 1) := by decide +kernel
theorem dPl_isNearEnough_35 : decode cPl_isNearEnough 35 = .ok (.iinc 3 1, 3) := by decide +kernel
theorem dPl_isNearEnough_38 : decode cPl_isNearEnough 38 = .ok (.goto (-34), 3) := by decide +kernel
theorem dPl_isNearEnough_41 : decode cPl_isNearEnough 41 = .ok (.lload_n 1, 1) := by decide +kernel
theorem dPl_isNearEnough_42 : decode cPl_isNearEnough 42 = .ok (.aload_n 0, 1) := by decide +kernel
theorem dPl_isNearEnough_43 : decode cPl_isNearEnough 43 = .ok (.getfield 78, 3) := by decide +kernel
theorem dPl_isNearEnough_46 : decode cPl_isNearEnough 46 = .ok (.lcmp, 1) := by decide +kernel
theorem dPl_isNearEnough_47 : decode cPl_isNearEnough 47 = .ok (.ifCond .gt 7, 3) := by decide +kernel
theorem dPl_isNearEnough_50 : decode cPl_isNearEnough 50 = .ok (.iconst 1, 1) := by decide +kernel
theorem dPl_isNearEnough_51 : decode cPl_isNearEnough 51 = .ok (.goto 4, 3) := by decide +kernel
theorem dPl_isNearEnough_54 : decode cPl_isNearEnough 54 = .ok (.iconst 0, 1) := by decide +kernel
theorem dPl_isNearEnough_55 : decode cPl_isNearEnough 55 = .ok (.ireturn, 1) := by decide +kernel
theorem dPl_stepTrial_0 : decode cPl_stepTrial 0 = .ok (.iconst 3, 1) := by decide +kernel
theorem dPl_stepTrial_1 : decode cPl_stepTrial 1 = .ok (.istore_n 1, 1) := by decide +kernel
theorem dPl_stepTrial_2 : decode cPl_stepTrial 2 = .ok (.iload_n 1, 1) := by decide +kernel
theorem dPl_stepTrial_3 : decode cPl_stepTrial 3 = .ok (.ifCond .lt 48, 3) := by decide +kernel
theorem dPl_stepTrial_6 : decode cPl_stepTrial 6 = .ok (.aload_n 0, 1) := by decide +kernel
theorem dPl_stepTrial_7 : decode cPl_stepTrial 7 = .ok (.getfield 15, 3) := by decide +kernel
theorem dPl_stepTrial_10 : decode cPl_stepTrial 10 = .ok (.iload_n 1, 1) := by decide +kernel
theorem dPl_stepTrial_11 : decode cPl_stepTrial 11 = .ok (.iaload, 1) := by decide +kernel
theorem dPl_stepTrial_12 : decode cPl_stepTrial 12 = .ok (.aload_n 0, 1) := by decide +kernel
theorem dPl_stepTrial_13 : decode cPl_stepTrial 13 = .ok (.getfield 21, 3) := by decide +kernel
theorem dPl_stepTrial_16 : decode cPl_stepTrial 16 = .ok (.iload_n 1, 1) := by decide +kernel
theorem dPl_stepTrial_17 : decode cPl_stepTrial 17 = .ok (.iaload, 1) := by decide +kernel
theorem dPl_stepTrial_18 : decode cPl_stepTrial 18 = .ok (.if_icmp .ge 15, 3) := by decide +kernel
theorem dPl_stepTrial_21 : decode cPl_stepTrial 21 = .ok (.aload_n 0, 1) := by decide +kernel
theorem dPl_stepTrial_22 : decode cPl_stepTrial 22 = .ok (.getfield 15, 3) := by decide +kernel
theorem dPl_stepTrial_25 : decode cPl_stepTrial 25 = .ok (.iload_n 1, 1) := by decide +kernel
theorem dPl_stepTrial_26 : decode cPl_stepTrial 26 = .ok (.dup2, 1) := by decide +kernel
theorem dPl_stepTrial_27 : decode cPl_stepTrial 27 = .ok (.iaload, 1) := by decide +kernel
theorem dPl_stepTrial_28 : decode cPl_stepTrial 28 = .ok (.iconst 1, 1) := by decide +kernel
theorem dPl_stepTrial_29 : decode cPl_stepTrial 29 = .ok (.iadd, 1) := by decide +kernel
theorem dPl_stepTrial_30 : decode cPl_stepTrial 30 = .ok (.iastore, 1) := by decide +kernel
theorem dPl_stepTrial_31 : decode cPl_stepTrial 31 = .ok (.iconst 1, 1) := by decide +kernel
theorem dPl_stepTrial_32 : decode cPl_stepTrial 32 = .ok (.ireturn, 1) := by decide +kernel
theorem dPl_stepTrial_33 : decode cPl_stepTrial 33 = .ok (.aload_n 0, 1) := by decide +kernel
theorem dPl_stepTrial_34 : decode cPl_stepTrial 34 = .ok (.getfield 15, 3) := by decide +kernel
theorem dPl_stepTrial_37 : decode cPl_stepTrial 37 = .ok (.iload_n 1, 1) := by decide +kernel
theorem dPl_stepTrial_38 : decode cPl_stepTrial 38 = .ok (.aload_n 0, 1) := by decide +kernel
theorem dPl_stepTrial_39 : decode cPl_stepTrial 39 = .ok (.getfield 18, 3) := by decide +kernel
theorem dPl_stepTrial_42 : decode cPl_stepTrial 42 = .ok (.iload_n 1, 1) := by decide +kernel
theorem dPl_stepTrial_43 : decode cPl_stepTrial 43 = .ok (.iaload, 1) := by decide +kernel
theorem dPl_stepTrial_44 : decode cPl_stepTrial 44 = .ok (.iastore, 1) := by decide +kernel
theorem dPl_stepTrial_45 : decode cPl_stepTrial 45 = .ok (.iinc 1 (-1), 3) := by decide +kernel
theorem dPl_stepTrial_48 : decode cPl_stepTrial 48 = .ok (.goto (-46), 3) := by decide +kernel
theorem dPl_stepTrial_51 : decode cPl_stepTrial 51 = .ok (.iconst 0, 1) := by decide +kernel
theorem dPl_stepTrial_52 : decode cPl_stepTrial 52 = .ok (.ireturn, 1) := by decide +kernel
theorem dCp_init_0 : decode cCp_init 0 = .ok (.aload_n 0, 1) := by decide +kernel
theorem dCp_init_1 : decode cCp_init 1 = .ok (.invokespecial 3, 3) := by decide +kernel
theorem dCp_init_4 : decode cCp_init 4 = .ok (.aload_n 0, 1) := by decide +kernel
theorem dCp_init_5 : decode cCp_init 5 = .ok (.bipush 10, 2) := by decide +kernel
theorem dCp_init_7 : decode cCp_init 7 = .ok (.newarray .long, 2) := by decide +kernel
theorem dCp_init_9 : decode cCp_init 9 = .ok (.putfield 9, 3) := by decide +kernel
theorem dCp_init_12 : decode cCp_init 12 = .ok (.return_, 1) := by decide +kernel
theorem dCp_gather_0 : decode cCp_gather 0 = .ok (.aload_n 0, 1) := by decide +kernel
theorem dCp_gather_1 : decode cCp_gather 1 = .ok (.iconst 0, 1) := by decide +kernel
theorem dCp_gather_2 : decode cCp_gather 2 = .ok (.putfield 15, 3) := by decide +kernel
theorem dCp_gather_5 : decode cCp_gather 5 = .ok (.aload_n 0, 1) := by decide +kernel
theorem dCp_gather_6 : decode cCp_gather 6 = .ok (.iconst 0, 1) := by decide +kernel
theorem dCp_gather_7 : decode cCp_gather 7 = .ok (.putfield 19, 3) := by decide +kernel
theorem dCp_gather_10 : decode cCp_gather 10 = .ok (.aload_n 0, 1) := by decide +kernel
theorem dCp_gather_11 : decode cCp_gather 11 = .ok (.lconst 0, 1) := by decide +kernel
theorem dCp_gather_12 : decode cCp_gather 12 = .ok (.putfield 22, 3) := by decide +kernel
theorem dCp_gather_15 : decode cCp_gather 15 = .ok (.iconst 0, 1) := by decide +kernel
theorem dCp_gather_16 : decode cCp_gather 16 = .ok (.istore_n 3, 1) := by decide +kernel
theorem dCp_gather_17 : decode cCp_gather 17 = .ok (.iload_n 3, 1) := by decide +kernel
theorem dCp_gather_18 : decode cCp_gather 18 = .ok (.aload_n 1, 1) := by decide +kernel
theorem dCp_gather_19 : decode cCp_gather 19 = .ok (.getfield 26, 3) := by decide +kernel
theorem dCp_gather_22 : decode cCp_gather 22 = .ok (.if_icmp .ge 45, 3) := by decide +kernel
theorem dCp_gather_25 : decode cCp_gather 25 = .ok (.aload_n 1, 1) := by decide +kernel
theorem dCp_gather_26 : decode cCp_gather 26 = .ok (.getfield 31, 3) := by decide +kernel
theorem dCp_gather_29 : decode cCp_gather 29 = .ok (.iload_n 3, 1) := by decide +kernel
theorem dCp_gather_30 : decode cCp_gather 30 = .ok (.baload, 1) := by decide +kernel
theorem dCp_gather_31 : decode cCp_gather 31 = .ok (.ifCond .ne 30, 3) := by decide +kernel
theorem dCp_gather_34 : decode cCp_gather 34 = .ok (.aload_n 0, 1) := by decide +kernel
theorem dCp_gather_35 : decode cCp_gather 35 = .ok (.getfield 15, 3) := by decide +kernel
theorem dCp_gather_38 : decode cCp_gather 38 = .ok (.bipush 10, 2) := by decide +kernel
theorem dCp_gather_40 : decode cCp_gather 40 = .ok (.if_icmp .lt 5, 3) := by decide +kernel
theorem dCp_gather_43 : decode cCp_gather 43 = .ok (.iconst 0, 1) := by decide +kernel
theorem dCp_gather_44 : decode cCp_gather 44 = .ok (.ireturn, 1) := by decide +kernel
theorem dCp_gather_45 : decode cCp_gather 45 = .ok (.aload_n 0, 1) := by decide +kernel
theorem dCp_gather_46 : decode cCp_gather 46 = .ok (.aload_n 1, 1) := by decide +kernel
theorem dCp_gather_47 : decode cCp_gather 47 = .ok (.iload_n 3, 1) := by decide +kernel
theorem dCp_gather_48 : decode cCp_gather 48 = .ok (.iload_n 2, 1) := by decide +kernel
theorem dCp_gather_49 : decode cCp_gather 49 = .ok (.invokevirtual 35, 3) := by decide +kernel
theorem dCp_gather_52 : decode cCp_gather 52 = .ok (.aload_n 1, 1) := by decide +kernel
theorem dCp_gather_53 : decode cCp_gather 53 = .ok (.getfield 39, 3) := by decide +kernel
theorem dCp_gather_56 : decode cCp_gather 56 = .ok (.iload_n 3, 1) := by decide +kernel
theorem dCp_gather_57 : decode cCp_gather 57 = .ok (.iaload, 1) := by decide +kernel
theorem dCp_gather_58 : decode cCp_gather 58 = .ok (.invokevirtual 43, 3) := by decide +kernel
theorem dCp_gather_61 : decode cCp_gather 61 = .ok (.iinc 3 1, 3) := by decide +kernel
theorem dCp_gather_64 : decode cCp_gather 64 = .ok (.goto (-47), 3) := by decide +kernel
theorem dCp_gather_67 : decode cCp_gather 67 = .ok (.aload_n 0, 1) := by decide +kernel
theorem dCp_gather_68 : decode cCp_gather 68 = .ok (.aload_n 0, 1) := by decide +kernel
theorem dCp_gather_69 : decode cCp_gather 69 = .ok (.getfield 19, 3) := by decide +kernel
theorem dCp_gather_72 : decode cCp_gather 72 = .ok (.invokestatic 47, 3) := by decide +kernel
theorem dCp_gather_75 : decode cCp_gather 75 = .ok (.putfield 53, 3) := by decide +kernel
theorem dCp_gather_78 : decode cCp_gather 78 = .ok (.aload_n 0, 1) := by decide +kernel
theorem dCp_gather_79 : decode cCp_gather 79 = .ok (.getfield 53, 3) := by decide +kernel
theorem dCp_gather_82 : decode cCp_gather 82 = .ok (.ifCond .le 18, 3) := by decide +kernel
theorem dCp_gather_85 : decode cCp_gather 85 = .ok (.aload_n 0, 1) := by decide +kernel
theorem dCp_gather_86 : decode cCp_gather 86 = .ok (.getfield 53, 3) := by decide +kernel
theorem dCp_gather_89 : decode cCp_gather 89 = .ok (.aload_n 0, 1) := by decide +kernel
theorem dCp_gather_90 : decode cCp_gather 90 = .ok (.getfield 15, 3) := by decide +kernel
theorem dCp_gather_93 : decode cCp_gather 93 = .ok (.if_icmp .ge 7, 3) := by decide +kernel
theorem dCp_gather_96 : decode cCp_gather 96 = .ok (.iconst 1, 1) := by decide +kernel
theorem dCp_gather_97 : decode cCp_gather 97 = .ok (.goto 4, 3) := by decide +kernel
theorem dCp_gather_100 : decode cCp_gather 100 = .ok (.iconst 0, 1) := by decide +kernel
theorem dCp_gather_101 : decode cCp_gather 101 = .ok (.ireturn, 1) := by decide +kernel
theorem dCp_take_0 : decode cCp_take 0 = .ok (.aload_n 0, 1) := by decide +kernel
theorem dCp_take_1 : decode cCp_take 1 = .ok (.getfield 9, 3) := by decide +kernel
theorem dCp_take_4 : decode cCp_take 4 = .ok (.aload_n 0, 1) := by decide +kernel
theorem dCp_take_5 : decode cCp_take 5 = .ok (.getfield 15, 3) := by decide +kernel
theorem dCp_take_8 : decode cCp_take 8 = .ok (.lload_n 1, 1) := by decide +kernel
theorem dCp_take_9 : decode cCp_take 9 = .ok (.lastore, 1) := by decide +kernel
theorem dCp_take_10 : decode cCp_take 10 = .ok (.aload_n 0, 1) := by decide +kernel
theorem dCp_take_11 : decode cCp_take 11 = .ok (.dup, 1) := by decide +kernel
theorem dCp_take_12 : decode cCp_take 12 = .ok (.getfield 22, 3) := by decide +kernel
theorem dCp_take_15 : decode cCp_take 15 = .ok (.lload_n 1, 1) := by decide +kernel
theorem dCp_take_16 : decode cCp_take 16 = .ok (.ladd, 1) := by decide +kernel
theorem dCp_take_17 : decode cCp_take 17 = .ok (.putfield 22, 3) := by decide +kernel
theorem dCp_take_20 : decode cCp_take 20 = .ok (.iload_n 3, 1) := by decide +kernel
theorem dCp_take_21 : decode cCp_take 21 = .ok (.ifCond .ne 18, 3) := by decide +kernel
theorem dCp_take_24 : decode cCp_take 24 = .ok (.aload_n 0, 1) := by decide +kernel
theorem dCp_take_25 : decode cCp_take 25 = .ok (.dup, 1) := by decide +kernel
theorem dCp_take_26 : decode cCp_take 26 = .ok (.getfield 19, 3) := by decide +kernel
theorem dCp_take_29 : decode cCp_take 29 = .ok (.iconst 1, 1) := by decide +kernel
theorem dCp_take_30 : decode cCp_take 30 = .ok (.aload_n 0, 1) := by decide +kernel
theorem dCp_take_31 : decode cCp_take 31 = .ok (.getfield 15, 3) := by decide +kernel
theorem dCp_take_34 : decode cCp_take 34 = .ok (.ishl, 1) := by decide +kernel
theorem dCp_take_35 : decode cCp_take 35 = .ok (.ior, 1) := by decide +kernel
theorem dCp_take_36 : decode cCp_take 36 = .ok (.putfield 19, 3) := by decide +kernel
theorem dCp_take_39 : decode cCp_take 39 = .ok (.aload_n 0, 1) := by decide +kernel
theorem dCp_take_40 : decode cCp_take 40 = .ok (.dup, 1) := by decide +kernel
theorem dCp_take_41 : decode cCp_take 41 = .ok (.getfield 15, 3) := by decide +kernel
theorem dCp_take_44 : decode cCp_take 44 = .ok (.iconst 1, 1) := by decide +kernel
theorem dCp_take_45 : decode cCp_take 45 = .ok (.iadd, 1) := by decide +kernel
theorem dCp_take_46 : decode cCp_take 46 = .ok (.putfield 15, 3) := by decide +kernel
theorem dCp_take_49 : decode cCp_take 49 = .ok (.return_, 1) := by decide +kernel
theorem dCp_countWays_0 : decode cCp_countWays 0 = .ok (.lconst 0, 1) := by decide +kernel
theorem dCp_countWays_1 : decode cCp_countWays 1 = .ok (.lstore_n 1, 1) := by decide +kernel
theorem dCp_countWays_2 : decode cCp_countWays 2 = .ok (.iconst 0, 1) := by decide +kernel
theorem dCp_countWays_3 : decode cCp_countWays 3 = .ok (.istore_n 3, 1) := by decide +kernel
theorem dCp_countWays_4 : decode cCp_countWays 4 = .ok (.iload_n 3, 1) := by decide +kernel
theorem dCp_countWays_5 : decode cCp_countWays 5 = .ok (.iconst 1, 1) := by decide +kernel
theorem dCp_countWays_6 : decode cCp_countWays 6 = .ok (.aload_n 0, 1) := by decide +kernel
theorem dCp_countWays_7 : decode cCp_countWays 7 = .ok (.getfield 15, 3) := by decide +kernel
theorem dCp_countWays_10 : decode cCp_countWays 10 = .ok (.ishl, 1) := by decide +kernel
theorem dCp_countWays_11 : decode cCp_countWays 11 = .ok (.if_icmp .ge 24, 3) := by decide +kernel
theorem dCp_countWays_14 : decode cCp_countWays 14 = .ok (.iload_n 3, 1) := by decide +kernel
theorem dCp_countWays_15 : decode cCp_countWays 15 = .ok (.invokestatic 47, 3) := by decide +kernel
theorem dCp_countWays_18 : decode cCp_countWays 18 = .ok (.aload_n 0, 1) := by decide +kernel
theorem dCp_countWays_19 : decode cCp_countWays 19 = .ok (.getfield 53, 3) := by decide +kernel
theorem dCp_countWays_22 : decode cCp_countWays 22 = .ok (.if_icmp .ne 7, 3) := by decide +kernel
theorem dCp_countWays_25 : decode cCp_countWays 25 = .ok (.lload_n 1, 1) := by decide +kernel
theorem dCp_countWays_26 : decode cCp_countWays 26 = .ok (.lconst 1, 1) := by decide +kernel
theorem dCp_countWays_27 : decode cCp_countWays 27 = .ok (.ladd, 1) := by decide +kernel
theorem dCp_countWays_28 : decode cCp_countWays 28 = .ok (.lstore_n 1, 1) := by decide +kernel
theorem dCp_countWays_29 : decode cCp_countWays 29 = .ok (.iinc 3 1, 3) := by decide +kernel
theorem dCp_countWays_32 : decode cCp_countWays 32 = .ok (.goto (-28), 3) := by decide +kernel
theorem dCp_countWays_35 : decode cCp_countWays 35 = .ok (.lload_n 1, 1) := by decide +kernel
theorem dCp_countWays_36 : decode cCp_countWays 36 = .ok (.lreturn, 1) := by decide +kernel
theorem dCp_countFarWays_0 : decode cCp_countFarWays 0 = .ok (.aload_n 0, 1) := by decide +kernel
theorem dCp_countFarWays_1 : decode cCp_countFarWays 1 = .ok (.aload_n 0, 1) := by decide +kernel
theorem dCp_countFarWays_2 : decode cCp_countFarWays 2 = .ok (.getfield 19, 3) := by decide +kernel
theorem dCp_countFarWays_5 : decode cCp_countFarWays 5 = .ok (.invokevirtual 56, 3) := by decide +kernel
theorem dCp_countFarWays_8 : decode cCp_countFarWays 8 = .ok (.lstore_n 1, 1) := by decide +kernel
theorem dCp_countFarWays_9 : decode cCp_countFarWays 9 = .ok (.lconst 0, 1) := by decide +kernel
theorem dCp_countFarWays_10 : decode cCp_countFarWays 10 = .ok (.lstore_n 3, 1) := by decide +kernel
theorem dCp_countFarWays_11 : decode cCp_countFarWays 11 = .ok (.iconst 0, 1) := by decide +kernel
theorem dCp_countFarWays_12 : decode cCp_countFarWays 12 = .ok (.istore 5, 2) := by decide +kernel
theorem dCp_countFarWays_14 : decode cCp_countFarWays 14 = .ok (.iload 5, 2) := by decide +kernel
theorem dCp_countFarWays_16 : decode cCp_countFarWays 16 = .ok (.iconst 1, 1) := by decide +kernel
theorem dCp_countFarWays_17 : decode cCp_countFarWays 17 = .ok (.aload_n 0, 1) := by decide +kernel
theorem dCp_countFarWays_18 : decode cCp_countFarWays 18 = .ok (.getfield 15, 3) := by decide +kernel
theorem dCp_countFarWays_21 : decode cCp_countFarWays 21 = .ok (.ishl, 1) := by decide +kernel
theorem dCp_countFarWays_22 : decode cCp_countFarWays 22 = .ok (.if_icmp .ge 36, 3) := by decide +kernel
theorem dCp_countFarWays_25 : decode cCp_countFarWays 25 = .ok (.iload 5, 2) := by decide +kernel
theorem dCp_countFarWays_27 : decode cCp_countFarWays 27 = .ok (.invokestatic 47, 3) := by decide +kernel
theorem dCp_countFarWays_30 : decode cCp_countFarWays 30 = .ok (.aload_n 0, 1) := by decide +kernel
theorem dCp_countFarWays_31 : decode cCp_countFarWays 31 = .ok (.getfield 53, 3) := by decide +kernel
theorem dCp_countFarWays_34 : decode cCp_countFarWays 34 = .ok (.if_icmp .ne 18, 3) := by decide +kernel
theorem dCp_countFarWays_37 : decode cCp_countFarWays 37 = .ok (.aload_n 0, 1) := by decide +kernel
theorem dCp_countFarWays_38 : decode cCp_countFarWays 38 = .ok (.iload 5, 2) := by decide +kernel
theorem dCp_countFarWays_40 : decode cCp_countFarWays 40 = .ok (.invokevirtual 56, 3) := by decide +kernel
theorem dCp_countFarWays_43 : decode cCp_countFarWays 43 = .ok (.lload_n 1, 1) := by decide +kernel
theorem dCp_countFarWays_44 : decode cCp_countFarWays 44 = .ok (.lcmp, 1) := by decide +kernel
theorem dCp_countFarWays_45 : decode cCp_countFarWays 45 = .ok (.ifCond .lt 7, 3) := by decide +kernel
theorem dCp_countFarWays_48 : decode cCp_countFarWays 48 = .ok (.lload_n 3, 1) := by decide +kernel
theorem dCp_countFarWays_49 : decode cCp_countFarWays 49 = .ok (.lconst 1, 1) := by decide +kernel
theorem dCp_countFarWays_50 : decode cCp_countFarWays 50 = .ok (.ladd, 1) := by decide +kernel
theorem dCp_countFarWays_51 : decode cCp_countFarWays 51 = .ok (.lstore_n 3, 1) := by decide +kernel
theorem dCp_countFarWays_52 : decode cCp_countFarWays 52 = .ok (.iinc 5 1, 3) := by decide +kernel
theorem dCp_countFarWays_55 : decode cCp_countFarWays 55 = .ok (.goto (-41), 3) := by decide +kernel
theorem dCp_countFarWays_58 : decode cCp_countFarWays 58 = .ok (.lload_n 3, 1) := by decide +kernel
theorem dCp_countFarWays_59 : decode cCp_countFarWays 59 = .ok (.lreturn, 1) := by decide +kernel
theorem dCp_apart_0 : decode cCp_apart 0 = .ok (.lconst 0, 1) := by decide +kernel
theorem dCp_apart_1 : decode cCp_apart 1 = .ok (.lstore_n 2, 1) := by decide +kernel
theorem dCp_apart_2 : decode cCp_apart 2 = .ok (.iconst 0, 1) := by decide +kernel
theorem dCp_apart_3 : decode cCp_apart 3 = .ok (.istore 4, 2) := by decide +kernel
theorem dCp_apart_5 : decode cCp_apart 5 = .ok (.iload 4, 2) := by decide +kernel
theorem dCp_apart_7 : decode cCp_apart 7 = .ok (.aload_n 0, 1) := by decide +kernel
theorem dCp_apart_8 : decode cCp_apart 8 = .ok (.getfield 15, 3) := by decide +kernel
theorem dCp_apart_11 : decode cCp_apart 11 = .ok (.if_icmp .ge 29, 3) := by decide +kernel
theorem dCp_apart_14 : decode cCp_apart 14 = .ok (.iload_n 1, 1) := by decide +kernel
theorem dCp_apart_15 : decode cCp_apart 15 = .ok (.iload 4, 2) := by decide +kernel
theorem dCp_apart_17 : decode cCp_apart 17 = .ok (.ishr, 1) := by decide +kernel
theorem dCp_apart_18 : decode cCp_apart 18 = .ok (.iconst 1, 1) := by decide +kernel
theorem dCp_apart_19 : decode cCp_apart 19 = .ok (.iand, 1) := by decide +kernel
theorem dCp_apart_20 : decode cCp_apart 20 = .ok (.iconst 1, 1) := by decide +kernel
theorem dCp_apart_21 : decode cCp_apart 21 = .ok (.if_icmp .ne 13, 3) := by decide +kernel
theorem dCp_apart_24 : decode cCp_apart 24 = .ok (.lload_n 2, 1) := by decide +kernel
theorem dCp_apart_25 : decode cCp_apart 25 = .ok (.aload_n 0, 1) := by decide +kernel
theorem dCp_apart_26 : decode cCp_apart 26 = .ok (.getfield 9, 3) := by decide +kernel
theorem dCp_apart_29 : decode cCp_apart 29 = .ok (.iload 4, 2) := by decide +kernel
theorem dCp_apart_31 : decode cCp_apart 31 = .ok (.laload, 1) := by decide +kernel
theorem dCp_apart_32 : decode cCp_apart 32 = .ok (.ladd, 1) := by decide +kernel
theorem dCp_apart_33 : decode cCp_apart 33 = .ok (.lstore_n 2, 1) := by decide +kernel
theorem dCp_apart_34 : decode cCp_apart 34 = .ok (.iinc 4 1, 3) := by decide +kernel
theorem dCp_apart_37 : decode cCp_apart 37 = .ok (.goto (-32), 3) := by decide +kernel
theorem dCp_apart_40 : decode cCp_apart 40 = .ok (.lload_n 2, 1) := by decide +kernel
theorem dCp_apart_41 : decode cCp_apart 41 = .ok (.aload_n 0, 1) := by decide +kernel
theorem dCp_apart_42 : decode cCp_apart 42 = .ok (.getfield 15, 3) := by decide +kernel
theorem dCp_apart_45 : decode cCp_apart 45 = .ok (.aload_n 0, 1) := by decide +kernel
theorem dCp_apart_46 : decode cCp_apart 46 = .ok (.getfield 53, 3) := by decide +kernel
theorem dCp_apart_49 : decode cCp_apart 49 = .ok (.isub, 1) := by decide +kernel
theorem dCp_apart_50 : decode cCp_apart 50 = .ok (.i2l, 1) := by decide +kernel
theorem dCp_apart_51 : decode cCp_apart 51 = .ok (.lmul, 1) := by decide +kernel
theorem dCp_apart_52 : decode cCp_apart 52 = .ok (.aload_n 0, 1) := by decide +kernel
theorem dCp_apart_53 : decode cCp_apart 53 = .ok (.getfield 22, 3) := by decide +kernel
theorem dCp_apart_56 : decode cCp_apart 56 = .ok (.lload_n 2, 1) := by decide +kernel
theorem dCp_apart_57 : decode cCp_apart 57 = .ok (.lsub, 1) := by decide +kernel
theorem dCp_apart_58 : decode cCp_apart 58 = .ok (.aload_n 0, 1) := by decide +kernel
theorem dCp_apart_59 : decode cCp_apart 59 = .ok (.getfield 53, 3) := by decide +kernel
theorem dCp_apart_62 : decode cCp_apart 62 = .ok (.i2l, 1) := by decide +kernel
theorem dCp_apart_63 : decode cCp_apart 63 = .ok (.lmul, 1) := by decide +kernel
theorem dCp_apart_64 : decode cCp_apart 64 = .ok (.lsub, 1) := by decide +kernel
theorem dCp_apart_65 : decode cCp_apart 65 = .ok (.invokestatic 60, 3) := by decide +kernel
theorem dCp_apart_68 : decode cCp_apart 68 = .ok (.lreturn, 1) := by decide +kernel
theorem dJI_bitCount_0 : decode cJI_bitCount 0 = .ok (.iload_n 0, 1) := by decide +kernel
theorem dJI_bitCount_1 : decode cJI_bitCount 1 = .ok (.iload_n 0, 1) := by decide +kernel
theorem dJI_bitCount_2 : decode cJI_bitCount 2 = .ok (.iconst 1, 1) := by decide +kernel
theorem dJI_bitCount_3 : decode cJI_bitCount 3 = .ok (.iushr, 1) := by decide +kernel
theorem dJI_bitCount_4 : decode cJI_bitCount 4 = .ok (.ldc_w 265, 3) := by decide +kernel
theorem dJI_bitCount_7 : decode cJI_bitCount 7 = .ok (.iand, 1) := by decide +kernel
theorem dJI_bitCount_8 : decode cJI_bitCount 8 = .ok (.isub, 1) := by decide +kernel
theorem dJI_bitCount_9 : decode cJI_bitCount 9 = .ok (.istore_n 0, 1) := by decide +kernel
theorem dJI_bitCount_10 : decode cJI_bitCount 10 = .ok (.iload_n 0, 1) := by decide +kernel
theorem dJI_bitCount_11 : decode cJI_bitCount 11 = .ok (.ldc_w 266, 3) := by decide +kernel
theorem dJI_bitCount_14 : decode cJI_bitCount 14 = .ok (.iand, 1) := by decide +kernel
theorem dJI_bitCount_15 : decode cJI_bitCount 15 = .ok (.iload_n 0, 1) := by decide +kernel
theorem dJI_bitCount_16 : decode cJI_bitCount 16 = .ok (.iconst 2, 1) := by decide +kernel
theorem dJI_bitCount_17 : decode cJI_bitCount 17 = .ok (.iushr, 1) := by decide +kernel
theorem dJI_bitCount_18 : decode cJI_bitCount 18 = .ok (.ldc_w 266, 3) := by decide +kernel
theorem dJI_bitCount_21 : decode cJI_bitCount 21 = .ok (.iand, 1) := by decide +kernel
theorem dJI_bitCount_22 : decode cJI_bitCount 22 = .ok (.iadd, 1) := by decide +kernel
theorem dJI_bitCount_23 : decode cJI_bitCount 23 = .ok (.istore_n 0, 1) := by decide +kernel
theorem dJI_bitCount_24 : decode cJI_bitCount 24 = .ok (.iload_n 0, 1) := by decide +kernel
theorem dJI_bitCount_25 : decode cJI_bitCount 25 = .ok (.iload_n 0, 1) := by decide +kernel
theorem dJI_bitCount_26 : decode cJI_bitCount 26 = .ok (.iconst 4, 1) := by decide +kernel
theorem dJI_bitCount_27 : decode cJI_bitCount 27 = .ok (.iushr, 1) := by decide +kernel
theorem dJI_bitCount_28 : decode cJI_bitCount 28 = .ok (.iadd, 1) := by decide +kernel
theorem dJI_bitCount_29 : decode cJI_bitCount 29 = .ok (.ldc_w 267, 3) := by decide +kernel
theorem dJI_bitCount_32 : decode cJI_bitCount 32 = .ok (.iand, 1) := by decide +kernel
theorem dJI_bitCount_33 : decode cJI_bitCount 33 = .ok (.istore_n 0, 1) := by decide +kernel
theorem dJI_bitCount_34 : decode cJI_bitCount 34 = .ok (.iload_n 0, 1) := by decide +kernel
theorem dJI_bitCount_35 : decode cJI_bitCount 35 = .ok (.iload_n 0, 1) := by decide +kernel
theorem dJI_bitCount_36 : decode cJI_bitCount 36 = .ok (.bipush 8, 2) := by decide +kernel
theorem dJI_bitCount_38 : decode cJI_bitCount 38 = .ok (.iushr, 1) := by decide +kernel
theorem dJI_bitCount_39 : decode cJI_bitCount 39 = .ok (.iadd, 1) := by decide +kernel
theorem dJI_bitCount_40 : decode cJI_bitCount 40 = .ok (.istore_n 0, 1) := by decide +kernel
theorem dJI_bitCount_41 : decode cJI_bitCount 41 = .ok (.iload_n 0, 1) := by decide +kernel
theorem dJI_bitCount_42 : decode cJI_bitCount 42 = .ok (.iload_n 0, 1) := by decide +kernel
theorem dJI_bitCount_43 : decode cJI_bitCount 43 = .ok (.bipush 16, 2) := by decide +kernel
theorem dJI_bitCount_45 : decode cJI_bitCount 45 = .ok (.iushr, 1) := by decide +kernel
theorem dJI_bitCount_46 : decode cJI_bitCount 46 = .ok (.iadd, 1) := by decide +kernel
theorem dJI_bitCount_47 : decode cJI_bitCount 47 = .ok (.istore_n 0, 1) := by decide +kernel
theorem dJI_bitCount_48 : decode cJI_bitCount 48 = .ok (.iload_n 0, 1) := by decide +kernel
theorem dJI_bitCount_49 : decode cJI_bitCount 49 = .ok (.bipush 63, 2) := by decide +kernel
theorem dJI_bitCount_51 : decode cJI_bitCount 51 = .ok (.iand, 1) := by decide +kernel
theorem dJI_bitCount_52 : decode cJI_bitCount 52 = .ok (.ireturn, 1) := by decide +kernel
theorem dJA_fill_0 : decode cJA_fill 0 = .ok (.iconst 0, 1) := by decide +kernel
theorem dJA_fill_1 : decode cJA_fill 1 = .ok (.istore_n 3, 1) := by decide +kernel
theorem dJA_fill_2 : decode cJA_fill 2 = .ok (.aload_n 0, 1) := by decide +kernel
theorem dJA_fill_3 : decode cJA_fill 3 = .ok (.arraylength, 1) := by decide +kernel
theorem dJA_fill_4 : decode cJA_fill 4 = .ok (.istore 4, 2) := by decide +kernel
theorem dJA_fill_6 : decode cJA_fill 6 = .ok (.iload_n 3, 1) := by decide +kernel
theorem dJA_fill_7 : decode cJA_fill 7 = .ok (.iload 4, 2) := by decide +kernel
theorem dJA_fill_9 : decode cJA_fill 9 = .ok (.if_icmp .ge 13, 3) := by decide +kernel
theorem dJA_fill_12 : decode cJA_fill 12 = .ok (.aload_n 0, 1) := by decide +kernel
theorem dJA_fill_13 : decode cJA_fill 13 = .ok (.iload_n 3, 1) := by decide +kernel
theorem dJA_fill_14 : decode cJA_fill 14 = .ok (.lload_n 1, 1) := by decide +kernel
theorem dJA_fill_15 : decode cJA_fill 15 = .ok (.lastore, 1) := by decide +kernel
theorem dJA_fill_16 : decode cJA_fill 16 = .ok (.iinc 3 1, 3) := by decide +kernel
theorem dJA_fill_19 : decode cJA_fill 19 = .ok (.goto (-13), 3) := by decide +kernel
theorem dJA_fill_22 : decode cJA_fill 22 = .ok (.return_, 1) := by decide +kernel
