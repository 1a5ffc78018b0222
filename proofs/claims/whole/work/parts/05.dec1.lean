theorem dSt_init_0 : decode cSt_init 0 = .ok (.aload_n 0, 1) := by decide +kernel
theorem dSt_init_1 : decode cSt_init 1 = .ok (.invokespecial 3, 3) := by decide +kernel
theorem dSt_init_4 : decode cSt_init 4 = .ok (.aload_n 0, 1) := by decide +kernel
theorem dSt_init_5 : decode cSt_init 5 = .ok (.iconst 4, 1) := by decide +kernel
theorem dSt_init_6 : decode cSt_init 6 = .ok (.newarray .int, 2) := by decide +kernel
theorem dSt_init_8 : decode cSt_init 8 = .ok (.putfield 9, 3) := by decide +kernel
theorem dSt_init_11 : decode cSt_init 11 = .ok (.aload_n 0, 1) := by decide +kernel
theorem dSt_init_12 : decode cSt_init 12 = .ok (.iconst 4, 1) := by decide +kernel
theorem dSt_init_13 : decode cSt_init 13 = .ok (.newarray .long, 2) := by decide +kernel
theorem dSt_init_15 : decode cSt_init 15 = .ok (.putfield 15, 3) := by decide +kernel
theorem dSt_init_18 : decode cSt_init 18 = .ok (.aload_n 0, 1) := by decide +kernel
theorem dSt_init_19 : decode cSt_init 19 = .ok (.iconst 4, 1) := by decide +kernel
theorem dSt_init_20 : decode cSt_init 20 = .ok (.newarray .boolean, 2) := by decide +kernel
theorem dSt_init_22 : decode cSt_init 22 = .ok (.putfield 19, 3) := by decide +kernel
theorem dSt_init_25 : decode cSt_init 25 = .ok (.return_, 1) := by decide +kernel
theorem dSt_has_0 : decode cSt_has 0 = .ok (.iload_n 1, 1) := by decide +kernel
theorem dSt_has_1 : decode cSt_has 1 = .ok (.ifCond .lt 15, 3) := by decide +kernel
theorem dSt_has_4 : decode cSt_has 4 = .ok (.iload_n 1, 1) := by decide +kernel
theorem dSt_has_5 : decode cSt_has 5 = .ok (.aload_n 0, 1) := by decide +kernel
theorem dSt_has_6 : decode cSt_has 6 = .ok (.getfield 23, 3) := by decide +kernel
theorem dSt_has_9 : decode cSt_has 9 = .ok (.if_icmp .ge 7, 3) := by decide +kernel
theorem dSt_has_12 : decode cSt_has 12 = .ok (.iconst 1, 1) := by decide +kernel
theorem dSt_has_13 : decode cSt_has 13 = .ok (.goto 4, 3) := by decide +kernel
theorem dSt_has_16 : decode cSt_has 16 = .ok (.iconst 0, 1) := by decide +kernel
theorem dSt_has_17 : decode cSt_has 17 = .ok (.ireturn, 1) := by decide +kernel
theorem dSt_stands_0 : decode cSt_stands 0 = .ok (.aload_n 0, 1) := by decide +kernel
theorem dSt_stands_1 : decode cSt_stands 1 = .ok (.iload_n 1, 1) := by decide +kernel
theorem dSt_stands_2 : decode cSt_stands 2 = .ok (.invokevirtual 27, 3) := by decide +kernel
theorem dSt_stands_5 : decode cSt_stands 5 = .ok (.ifCond .eq 16, 3) := by decide +kernel
theorem dSt_stands_8 : decode cSt_stands 8 = .ok (.aload_n 0, 1) := by decide +kernel
theorem dSt_stands_9 : decode cSt_stands 9 = .ok (.getfield 19, 3) := by decide +kernel
theorem dSt_stands_12 : decode cSt_stands 12 = .ok (.iload_n 1, 1) := by decide +kernel
theorem dSt_stands_13 : decode cSt_stands 13 = .ok (.baload, 1) := by decide +kernel
theorem dSt_stands_14 : decode cSt_stands 14 = .ok (.ifCond .ne 7, 3) := by decide +kernel
theorem dSt_stands_17 : decode cSt_stands 17 = .ok (.iconst 1, 1) := by decide +kernel
theorem dSt_stands_18 : decode cSt_stands 18 = .ok (.goto 4, 3) := by decide +kernel
theorem dSt_stands_21 : decode cSt_stands 21 = .ok (.iconst 0, 1) := by decide +kernel
theorem dSt_stands_22 : decode cSt_stands 22 = .ok (.ireturn, 1) := by decide +kernel
theorem dSt_add_0 : decode cSt_add 0 = .ok (.aload_n 0, 1) := by decide +kernel
theorem dSt_add_1 : decode cSt_add 1 = .ok (.getfield 23, 3) := by decide +kernel
theorem dSt_add_4 : decode cSt_add 4 = .ok (.iconst 4, 1) := by decide +kernel
theorem dSt_add_5 : decode cSt_add 5 = .ok (.if_icmp .ge 14, 3) := by decide +kernel
theorem dSt_add_8 : decode cSt_add 8 = .ok (.iload_n 1, 1) := by decide +kernel
theorem dSt_add_9 : decode cSt_add 9 = .ok (.iconst 1, 1) := by decide +kernel
theorem dSt_add_10 : decode cSt_add 10 = .ok (.if_icmp .lt 9, 3) := by decide +kernel
theorem dSt_add_13 : decode cSt_add 13 = .ok (.iload_n 1, 1) := by decide +kernel
theorem dSt_add_14 : decode cSt_add 14 = .ok (.bipush 100, 2) := by decide +kernel
theorem dSt_add_16 : decode cSt_add 16 = .ok (.if_icmp .le 5, 3) := by decide +kernel
theorem dSt_add_19 : decode cSt_add 19 = .ok (.iconst (-1), 1) := by decide +kernel
theorem dSt_add_20 : decode cSt_add 20 = .ok (.ireturn, 1) := by decide +kernel
theorem dSt_add_21 : decode cSt_add 21 = .ok (.aload_n 0, 1) := by decide +kernel
theorem dSt_add_22 : decode cSt_add 22 = .ok (.getfield 23, 3) := by decide +kernel
theorem dSt_add_25 : decode cSt_add 25 = .ok (.istore_n 2, 1) := by decide +kernel
theorem dSt_add_26 : decode cSt_add 26 = .ok (.aload_n 0, 1) := by decide +kernel
theorem dSt_add_27 : decode cSt_add 27 = .ok (.getfield 9, 3) := by decide +kernel
theorem dSt_add_30 : decode cSt_add 30 = .ok (.iload_n 2, 1) := by decide +kernel
theorem dSt_add_31 : decode cSt_add 31 = .ok (.iload_n 1, 1) := by decide +kernel
theorem dSt_add_32 : decode cSt_add 32 = .ok (.iastore, 1) := by decide +kernel
theorem dSt_add_33 : decode cSt_add 33 = .ok (.aload_n 0, 1) := by decide +kernel
theorem dSt_add_34 : decode cSt_add 34 = .ok (.getfield 15, 3) := by decide +kernel
theorem dSt_add_37 : decode cSt_add 37 = .ok (.iload_n 2, 1) := by decide +kernel
theorem dSt_add_38 : decode cSt_add 38 = .ok (.lconst 1, 1) := by decide +kernel
theorem dSt_add_39 : decode cSt_add 39 = .ok (.lastore, 1) := by decide +kernel
theorem dSt_add_40 : decode cSt_add 40 = .ok (.aload_n 0, 1) := by decide +kernel
theorem dSt_add_41 : decode cSt_add 41 = .ok (.dup, 1) := by decide +kernel
theorem dSt_add_42 : decode cSt_add 42 = .ok (.getfield 23, 3) := by decide +kernel
theorem dSt_add_45 : decode cSt_add 45 = .ok (.iconst 1, 1) := by decide +kernel
theorem dSt_add_46 : decode cSt_add 46 = .ok (.iadd, 1) := by decide +kernel
theorem dSt_add_47 : decode cSt_add 47 = .ok (.putfield 23, 3) := by decide +kernel
theorem dSt_add_50 : decode cSt_add 50 = .ok (.iload_n 2, 1) := by decide +kernel
theorem dSt_add_51 : decode cSt_add 51 = .ok (.ireturn, 1) := by decide +kernel
theorem dSt_setCost_0 : decode cSt_setCost 0 = .ok (.aload_n 0, 1) := by decide +kernel
theorem dSt_setCost_1 : decode cSt_setCost 1 = .ok (.iload_n 1, 1) := by decide +kernel
theorem dSt_setCost_2 : decode cSt_setCost 2 = .ok (.invokevirtual 31, 3) := by decide +kernel
theorem dSt_setCost_5 : decode cSt_setCost 5 = .ok (.ifCond .eq 17, 3) := by decide +kernel
theorem dSt_setCost_8 : decode cSt_setCost 8 = .ok (.lload_n 2, 1) := by decide +kernel
theorem dSt_setCost_9 : decode cSt_setCost 9 = .ok (.lconst 1, 1) := by decide +kernel
theorem dSt_setCost_10 : decode cSt_setCost 10 = .ok (.lcmp, 1) := by decide +kernel
theorem dSt_setCost_11 : decode cSt_setCost 11 = .ok (.ifCond .lt 11, 3) := by decide +kernel
theorem dSt_setCost_14 : decode cSt_setCost 14 = .ok (.lload_n 2, 1) := by decide +kernel
theorem dSt_setCost_15 : decode cSt_setCost 15 = .ok (.ldc2_w 34, 3) := by decide +kernel
theorem dSt_setCost_18 : decode cSt_setCost 18 = .ok (.lcmp, 1) := by decide +kernel
theorem dSt_setCost_19 : decode cSt_setCost 19 = .ok (.ifCond .le 5, 3) := by decide +kernel
theorem dSt_setCost_22 : decode cSt_setCost 22 = .ok (.iconst 0, 1) := by decide +kernel
theorem dSt_setCost_23 : decode cSt_setCost 23 = .ok (.ireturn, 1) := by decide +kernel
theorem dSt_setCost_24 : decode cSt_setCost 24 = .ok (.aload_n 0, 1) := by decide +kernel
theorem dSt_setCost_25 : decode cSt_setCost 25 = .ok (.getfield 15, 3) := by decide +kernel
theorem dSt_setCost_28 : decode cSt_setCost 28 = .ok (.iload_n 1, 1) := by decide +kernel
theorem dSt_setCost_29 : decode cSt_setCost 29 = .ok (.lload_n 2, 1) := by decide +kernel
theorem dSt_setCost_30 : decode cSt_setCost 30 = .ok (.lastore, 1) := by decide +kernel
theorem dSt_setCost_31 : decode cSt_setCost 31 = .ok (.iconst 1, 1) := by decide +kernel
theorem dSt_setCost_32 : decode cSt_setCost 32 = .ok (.ireturn, 1) := by decide +kernel
theorem dSt_merge_0 : decode cSt_merge 0 = .ok (.aload_n 0, 1) := by decide +kernel
theorem dSt_merge_1 : decode cSt_merge 1 = .ok (.iload_n 1, 1) := by decide +kernel
theorem dSt_merge_2 : decode cSt_merge 2 = .ok (.invokevirtual 31, 3) := by decide +kernel
theorem dSt_merge_5 : decode cSt_merge 5 = .ok (.ifCond .eq 16, 3) := by decide +kernel
theorem dSt_merge_8 : decode cSt_merge 8 = .ok (.aload_n 0, 1) := by decide +kernel
theorem dSt_merge_9 : decode cSt_merge 9 = .ok (.iload_n 2, 1) := by decide +kernel
theorem dSt_merge_10 : decode cSt_merge 10 = .ok (.invokevirtual 31, 3) := by decide +kernel
theorem dSt_merge_13 : decode cSt_merge 13 = .ok (.ifCond .eq 8, 3) := by decide +kernel
theorem dSt_merge_16 : decode cSt_merge 16 = .ok (.iload_n 1, 1) := by decide +kernel
theorem dSt_merge_17 : decode cSt_merge 17 = .ok (.iload_n 2, 1) := by decide +kernel
theorem dSt_merge_18 : decode cSt_merge 18 = .ok (.if_icmp .ne 5, 3) := by decide +kernel
theorem dSt_merge_21 : decode cSt_merge 21 = .ok (.iconst 0, 1) := by decide +kernel
theorem dSt_merge_22 : decode cSt_merge 22 = .ok (.ireturn, 1) := by decide +kernel
theorem dSt_merge_23 : decode cSt_merge 23 = .ok (.aload_n 0, 1) := by decide +kernel
theorem dSt_merge_24 : decode cSt_merge 24 = .ok (.getfield 9, 3) := by decide +kernel
theorem dSt_merge_27 : decode cSt_merge 27 = .ok (.iload_n 1, 1) := by decide +kernel
theorem dSt_merge_28 : decode cSt_merge 28 = .ok (.iaload, 1) := by decide +kernel
theorem dSt_merge_29 : decode cSt_merge 29 = .ok (.aload_n 0, 1) := by decide +kernel
theorem dSt_merge_30 : decode cSt_merge 30 = .ok (.getfield 9, 3) := by decide +kernel
theorem dSt_merge_33 : decode cSt_merge 33 = .ok (.iload_n 2, 1) := by decide +kernel
theorem dSt_merge_34 : decode cSt_merge 34 = .ok (.iaload, 1) := by decide +kernel
theorem dSt_merge_35 : decode cSt_merge 35 = .ok (.iadd, 1) := by decide +kernel
theorem dSt_merge_36 : decode cSt_merge 36 = .ok (.istore_n 3, 1) := by decide +kernel
theorem dSt_merge_37 : decode cSt_merge 37 = .ok (.iload_n 3, 1) := by decide +kernel
theorem dSt_merge_38 : decode cSt_merge 38 = .ok (.bipush 100, 2) := by decide +kernel
theorem dSt_merge_40 : decode cSt_merge 40 = .ok (.if_icmp .le 5, 3) := by decide +kernel
theorem dSt_merge_43 : decode cSt_merge 43 = .ok (.iconst 0, 1) := by decide +kernel
theorem dSt_merge_44 : decode cSt_merge 44 = .ok (.ireturn, 1) := by decide +kernel
theorem dSt_merge_45 : decode cSt_merge 45 = .ok (.aload_n 0, 1) := by decide +kernel
theorem dSt_merge_46 : decode cSt_merge 46 = .ok (.getfield 9, 3) := by decide +kernel
theorem dSt_merge_49 : decode cSt_merge 49 = .ok (.iload_n 1, 1) := by decide +kernel
theorem dSt_merge_50 : decode cSt_merge 50 = .ok (.iload_n 3, 1) := by decide +kernel
theorem dSt_merge_51 : decode cSt_merge 51 = .ok (.iastore, 1) := by decide +kernel
theorem dSt_merge_52 : decode cSt_merge 52 = .ok (.aload_n 0, 1) := by decide +kernel
theorem dSt_merge_53 : decode cSt_merge 53 = .ok (.getfield 19, 3) := by decide +kernel
theorem dSt_merge_56 : decode cSt_merge 56 = .ok (.iload_n 2, 1) := by decide +kernel
theorem dSt_merge_57 : decode cSt_merge 57 = .ok (.iconst 1, 1) := by decide +kernel
theorem dSt_merge_58 : decode cSt_merge 58 = .ok (.bastore, 1) := by decide +kernel
theorem dSt_merge_59 : decode cSt_merge 59 = .ok (.iconst 1, 1) := by decide +kernel
theorem dSt_merge_60 : decode cSt_merge 60 = .ok (.ireturn, 1) := by decide +kernel
theorem dBg_init_0 : decode cBg_init 0 = .ok (.aload_n 0, 1) := by decide +kernel
theorem dBg_init_1 : decode cBg_init 1 = .ok (.invokespecial 3, 3) := by decide +kernel
theorem dBg_init_4 : decode cBg_init 4 = .ok (.aload_n 0, 1) := by decide +kernel
theorem dBg_init_5 : decode cBg_init 5 = .ok (.bipush 12, 2) := by decide +kernel
theorem dBg_init_7 : decode cBg_init 7 = .ok (.newarray .int, 2) := by decide +kernel
theorem dBg_init_9 : decode cBg_init 9 = .ok (.putfield 9, 3) := by decide +kernel
theorem dBg_init_12 : decode cBg_init 12 = .ok (.aload_n 0, 1) := by decide +kernel
theorem dBg_init_13 : decode cBg_init 13 = .ok (.bipush 12, 2) := by decide +kernel
theorem dBg_init_15 : decode cBg_init 15 = .ok (.newarray .int, 2) := by decide +kernel
theorem dBg_init_17 : decode cBg_init 17 = .ok (.putfield 15, 3) := by decide +kernel
theorem dBg_init_20 : decode cBg_init 20 = .ok (.aload_n 0, 1) := by decide +kernel
theorem dBg_init_21 : decode cBg_init 21 = .ok (.bipush 12, 2) := by decide +kernel
theorem dBg_init_23 : decode cBg_init 23 = .ok (.newarray .boolean, 2) := by decide +kernel
theorem dBg_init_25 : decode cBg_init 25 = .ok (.putfield 18, 3) := by decide +kernel
theorem dBg_init_28 : decode cBg_init 28 = .ok (.aload_n 0, 1) := by decide +kernel
theorem dBg_init_29 : decode cBg_init 29 = .ok (.bipush 36, 2) := by decide +kernel
theorem dBg_init_31 : decode cBg_init 31 = .ok (.newarray .long, 2) := by decide +kernel
theorem dBg_init_33 : decode cBg_init 33 = .ok (.putfield 22, 3) := by decide +kernel
theorem dBg_init_36 : decode cBg_init 36 = .ok (.return_, 1) := by decide +kernel
theorem dBg_has_0 : decode cBg_has 0 = .ok (.iload_n 1, 1) := by decide +kernel
theorem dBg_has_1 : decode cBg_has 1 = .ok (.ifCond .lt 15, 3) := by decide +kernel
theorem dBg_has_4 : decode cBg_has 4 = .ok (.iload_n 1, 1) := by decide +kernel
theorem dBg_has_5 : decode cBg_has 5 = .ok (.aload_n 0, 1) := by decide +kernel
theorem dBg_has_6 : decode cBg_has 6 = .ok (.getfield 26, 3) := by decide +kernel
theorem dBg_has_9 : decode cBg_has 9 = .ok (.if_icmp .ge 7, 3) := by decide +kernel
theorem dBg_has_12 : decode cBg_has 12 = .ok (.iconst 1, 1) := by decide +kernel
theorem dBg_has_13 : decode cBg_has 13 = .ok (.goto 4, 3) := by decide +kernel
theorem dBg_has_16 : decode cBg_has 16 = .ok (.iconst 0, 1) := by decide +kernel
theorem dBg_has_17 : decode cBg_has 17 = .ok (.ireturn, 1) := by decide +kernel
theorem dBg_add_0 : decode cBg_add 0 = .ok (.aload_n 0, 1) := by decide +kernel
theorem dBg_add_1 : decode cBg_add 1 = .ok (.getfield 26, 3) := by decide +kernel
theorem dBg_add_4 : decode cBg_add 4 = .ok (.bipush 12, 2) := by decide +kernel
theorem dBg_add_6 : decode cBg_add 6 = .ok (.if_icmp .lt 5, 3) := by decide +kernel
theorem dBg_add_9 : decode cBg_add 9 = .ok (.iconst (-1), 1) := by decide +kernel
theorem dBg_add_10 : decode cBg_add 10 = .ok (.ireturn, 1) := by decide +kernel
theorem dBg_add_11 : decode cBg_add 11 = .ok (.aload_n 0, 1) := by decide +kernel
theorem dBg_add_12 : decode cBg_add 12 = .ok (.getfield 26, 3) := by decide +kernel
theorem dBg_add_15 : decode cBg_add 15 = .ok (.istore_n 2, 1) := by decide +kernel
theorem dBg_add_16 : decode cBg_add 16 = .ok (.aload_n 0, 1) := by decide +kernel
theorem dBg_add_17 : decode cBg_add 17 = .ok (.getfield 9, 3) := by decide +kernel
theorem dBg_add_20 : decode cBg_add 20 = .ok (.iload_n 2, 1) := by decide +kernel
theorem dBg_add_21 : decode cBg_add 21 = .ok (.iload_n 1, 1) := by decide +kernel
theorem dBg_add_22 : decode cBg_add 22 = .ok (.iastore, 1) := by decide +kernel
theorem dBg_add_23 : decode cBg_add 23 = .ok (.aload_n 0, 1) := by decide +kernel
theorem dBg_add_24 : decode cBg_add 24 = .ok (.dup, 1) := by decide +kernel
theorem dBg_add_25 : decode cBg_add 25 = .ok (.getfield 26, 3) := by decide +kernel
theorem dBg_add_28 : decode cBg_add 28 = .ok (.iconst 1, 1) := by decide +kernel
theorem dBg_add_29 : decode cBg_add 29 = .ok (.iadd, 1) := by decide +kernel
theorem dBg_add_30 : decode cBg_add 30 = .ok (.putfield 26, 3) := by decide +kernel
theorem dBg_add_33 : decode cBg_add 33 = .ok (.iload_n 2, 1) := by decide +kernel
theorem dBg_add_34 : decode cBg_add 34 = .ok (.ireturn, 1) := by decide +kernel
theorem dBg_setGrams_0 : decode cBg_setGrams 0 = .ok (.aload_n 0, 1) := by decide +kernel
theorem dBg_setGrams_1 : decode cBg_setGrams 1 = .ok (.iload_n 1, 1) := by decide +kernel
theorem dBg_setGrams_2 : decode cBg_setGrams 2 = .ok (.invokevirtual 30, 3) := by decide +kernel
theorem dBg_setGrams_5 : decode cBg_setGrams 5 = .ok (.ifCond .eq 17, 3) := by decide +kernel
theorem dBg_setGrams_8 : decode cBg_setGrams 8 = .ok (.iload_n 2, 1) := by decide +kernel
theorem dBg_setGrams_9 : decode cBg_setGrams 9 = .ok (.invokestatic 34, 3) := by decide +kernel
theorem dBg_setGrams_12 : decode cBg_setGrams 12 = .ok (.ifCond .eq 10, 3) := by decide +kernel
theorem dBg_setGrams_15 : decode cBg_setGrams 15 = .ok (.lload_n 3, 1) := by decide +kernel
theorem dBg_setGrams_16 : decode cBg_setGrams 16 = .ok (.invokestatic 37, 3) := by decide +kernel
theorem dBg_setGrams_19 : decode cBg_setGrams 19 = .ok (.ifCond .ne 5, 3) := by decide +kernel
theorem dBg_setGrams_22 : decode cBg_setGrams 22 = .ok (.iconst 0, 1) := by decide +kernel
theorem dBg_setGrams_23 : decode cBg_setGrams 23 = .ok (.ireturn, 1) := by decide +kernel
theorem dBg_setGrams_24 : decode cBg_setGrams 24 = .ok (.aload_n 0, 1) := by decide +kernel
theorem dBg_setGrams_25 : decode cBg_setGrams 25 = .ok (.getfield 22, 3) := by decide +kernel
theorem dBg_setGrams_28 : decode cBg_setGrams 28 = .ok (.iload_n 1, 1) := by decide +kernel
theorem dBg_setGrams_29 : decode cBg_setGrams 29 = .ok (.iconst 3, 1) := by decide +kernel
theorem dBg_setGrams_30 : decode cBg_setGrams 30 = .ok (.imul, 1) := by decide +kernel
theorem dBg_setGrams_31 : decode cBg_setGrams 31 = .ok (.iload_n 2, 1) := by decide +kernel
theorem dBg_setGrams_32 : decode cBg_setGrams 32 = .ok (.iadd, 1) := by decide +kernel
theorem dBg_setGrams_33 : decode cBg_setGrams 33 = .ok (.lload_n 3, 1) := by decide +kernel
theorem dBg_setGrams_34 : decode cBg_setGrams 34 = .ok (.lastore, 1) := by decide +kernel
theorem dBg_setGrams_35 : decode cBg_setGrams 35 = .ok (.iconst 1, 1) := by decide +kernel
theorem dBg_setGrams_36 : decode cBg_setGrams 36 = .ok (.ireturn, 1) := by decide +kernel
theorem dBg_setYear_0 : decode cBg_setYear 0 = .ok (.aload_n 0, 1) := by decide +kernel
theorem dBg_setYear_1 : decode cBg_setYear 1 = .ok (.iload_n 1, 1) := by decide +kernel
theorem dBg_setYear_2 : decode cBg_setYear 2 = .ok (.invokevirtual 30, 3) := by decide +kernel
theorem dBg_setYear_5 : decode cBg_setYear 5 = .ok (.ifCond .eq 12, 3) := by decide +kernel
theorem dBg_setYear_8 : decode cBg_setYear 8 = .ok (.iload_n 2, 1) := by decide +kernel
theorem dBg_setYear_9 : decode cBg_setYear 9 = .ok (.ifCond .lt 8, 3) := by decide +kernel
theorem dBg_setYear_12 : decode cBg_setYear 12 = .ok (.iload_n 2, 1) := by decide +kernel
theorem dBg_setYear_13 : decode cBg_setYear 13 = .ok (.iconst 2, 1) := by decide +kernel
theorem dBg_setYear_14 : decode cBg_setYear 14 = .ok (.if_icmp .lt 5, 3) := by decide +kernel
theorem dBg_setYear_17 : decode cBg_setYear 17 = .ok (.iconst 0, 1) := by decide +kernel
theorem dBg_setYear_18 : decode cBg_setYear 18 = .ok (.ireturn, 1) := by decide +kernel
theorem dBg_setYear_19 : decode cBg_setYear 19 = .ok (.aload_n 0, 1) := by decide +kernel
theorem dBg_setYear_20 : decode cBg_setYear 20 = .ok (.getfield 15, 3) := by decide +kernel
theorem dBg_setYear_23 : decode cBg_setYear 23 = .ok (.iload_n 1, 1) := by decide +kernel
theorem dBg_setYear_24 : decode cBg_setYear 24 = .ok (.iload_n 2, 1) := by decide +kernel
theorem dBg_setYear_25 : decode cBg_setYear 25 = .ok (.iastore, 1) := by decide +kernel
theorem dBg_setYear_26 : decode cBg_setYear 26 = .ok (.iconst 1, 1) := by decide +kernel
theorem dBg_setYear_27 : decode cBg_setYear 27 = .ok (.ireturn, 1) := by decide +kernel
theorem dBg_lose_0 : decode cBg_lose 0 = .ok (.aload_n 0, 1) := by decide +kernel
theorem dBg_lose_1 : decode cBg_lose 1 = .ok (.iload_n 1, 1) := by decide +kernel
theorem dBg_lose_2 : decode cBg_lose 2 = .ok (.invokevirtual 30, 3) := by decide +kernel
theorem dBg_lose_5 : decode cBg_lose 5 = .ok (.ifCond .eq 12, 3) := by decide +kernel
theorem dBg_lose_8 : decode cBg_lose 8 = .ok (.aload_n 0, 1) := by decide +kernel
theorem dBg_lose_9 : decode cBg_lose 9 = .ok (.getfield 18, 3) := by decide +kernel
theorem dBg_lose_12 : decode cBg_lose 12 = .ok (.iload_n 1, 1) := by decide +kernel
theorem dBg_lose_13 : decode cBg_lose 13 = .ok (.baload, 1) := by decide +kernel
theorem dBg_lose_14 : decode cBg_lose 14 = .ok (.ifCond .eq 5, 3) := by decide +kernel
theorem dBg_lose_17 : decode cBg_lose 17 = .ok (.iconst 0, 1) := by decide +kernel
theorem dBg_lose_18 : decode cBg_lose 18 = .ok (.ireturn, 1) := by decide +kernel
theorem dBg_lose_19 : decode cBg_lose 19 = .ok (.aload_n 0, 1) := by decide +kernel
theorem dBg_lose_20 : decode cBg_lose 20 = .ok (.getfield 18, 3) := by decide +kernel
theorem dBg_lose_23 : decode cBg_lose 23 = .ok (.iload_n 1, 1) := by decide +kernel
theorem dBg_lose_24 : decode cBg_lose 24 = .ok (.iconst 1, 1) := by decide +kernel
theorem dBg_lose_25 : decode cBg_lose 25 = .ok (.bastore, 1) := by decide +kernel
theorem dBg_lose_26 : decode cBg_lose 26 = .ok (.iconst 1, 1) := by decide +kernel
theorem dBg_lose_27 : decode cBg_lose 27 = .ok (.ireturn, 1) := by decide +kernel
theorem dBg_move_0 : decode cBg_move 0 = .ok (.iconst 0, 1) := by decide +kernel
theorem dBg_move_1 : decode cBg_move 1 = .ok (.istore_n 3, 1) := by decide +kernel
theorem dBg_move_2 : decode cBg_move 2 = .ok (.iload_n 3, 1) := by decide +kernel
theorem dBg_move_3 : decode cBg_move 3 = .ok (.aload_n 0, 1) := by decide +kernel
theorem dBg_move_4 : decode cBg_move 4 = .ok (.getfield 26, 3) := by decide +kernel
theorem dBg_move_7 : decode cBg_move 7 = .ok (.if_icmp .ge 26, 3) := by decide +kernel
theorem dBg_move_10 : decode cBg_move 10 = .ok (.aload_n 0, 1) := by decide +kernel
theorem dBg_move_11 : decode cBg_move 11 = .ok (.getfield 9, 3) := by decide +kernel
theorem dBg_move_14 : decode cBg_move 14 = .ok (.iload_n 3, 1) := by decide +kernel
theorem dBg_move_15 : decode cBg_move 15 = .ok (.iaload, 1) := by decide +kernel
theorem dBg_move_16 : decode cBg_move 16 = .ok (.iload_n 1, 1) := by decide +kernel
theorem dBg_move_17 : decode cBg_move 17 = .ok (.if_icmp .ne 10, 3) := by decide +kernel
theorem dBg_move_20 : decode cBg_move 20 = .ok (.aload_n 0, 1) := by decide +kernel
theorem dBg_move_21 : decode cBg_move 21 = .ok (.getfield 9, 3) := by decide +kernel
theorem dBg_move_24 : decode cBg_move 24 = .ok (.iload_n 3, 1) := by decide +kernel
theorem dBg_move_25 : decode cBg_move 25 = .ok (.iload_n 2, 1) := by decide +kernel
theorem dBg_move_26 : decode cBg_move 26 = .ok (.iastore, 1) := by decide +kernel
theorem dBg_move_27 : decode cBg_move 27 = .ok (.iinc 3 1, 3) := by decide +kernel
theorem dBg_move_30 : decode cBg_move 30 = .ok (.goto (-28), 3) := by decide +kernel
theorem dBg_move_33 : decode cBg_move 33 = .ok (.return_, 1) := by decide +kernel
theorem dBg_gramsOf_0 : decode cBg_gramsOf 0 = .ok (.aload_n 0, 1) := by decide +kernel
theorem dBg_gramsOf_1 : decode cBg_gramsOf 1 = .ok (.iload_n 1, 1) := by decide +kernel
theorem dBg_gramsOf_2 : decode cBg_gramsOf 2 = .ok (.invokevirtual 30, 3) := by decide +kernel
theorem dBg_gramsOf_5 : decode cBg_gramsOf 5 = .ok (.ifCond .eq 23, 3) := by decide +kernel
theorem dBg_gramsOf_8 : decode cBg_gramsOf 8 = .ok (.iload_n 2, 1) := by decide +kernel
theorem dBg_gramsOf_9 : decode cBg_gramsOf 9 = .ok (.invokestatic 34, 3) := by decide +kernel
theorem dBg_gramsOf_12 : decode cBg_gramsOf 12 = .ok (.ifCond .eq 16, 3) := by decide +kernel
theorem dBg_gramsOf_15 : decode cBg_gramsOf 15 = .ok (.aload_n 0, 1) := by decide +kernel
theorem dBg_gramsOf_16 : decode cBg_gramsOf 16 = .ok (.getfield 22, 3) := by decide +kernel
theorem dBg_gramsOf_19 : decode cBg_gramsOf 19 = .ok (.iload_n 1, 1) := by decide +kernel
theorem dBg_gramsOf_20 : decode cBg_gramsOf 20 = .ok (.iconst 3, 1) := by decide +kernel
theorem dBg_gramsOf_21 : decode cBg_gramsOf 21 = .ok (.imul, 1) := by decide +kernel
theorem dBg_gramsOf_22 : decode cBg_gramsOf 22 = .ok (.iload_n 2, 1) := by decide +kernel
theorem dBg_gramsOf_23 : decode cBg_gramsOf 23 = .ok (.iadd, 1) := by decide +kernel
theorem dBg_gramsOf_24 : decode cBg_gramsOf 24 = .ok (.laload, 1) := by decide +kernel
theorem dBg_gramsOf_25 : decode cBg_gramsOf 25 = .ok (.goto 4, 3) := by decide +kernel
theorem dBg_gramsOf_28 : decode cBg_gramsOf 28 = .ok (.lconst 0, 1) := by decide +kernel
theorem dBg_gramsOf_29 : decode cBg_gramsOf 29 = .ok (.lreturn, 1) := by decide +kernel
theorem dDr_init_0 : decode cDr_init 0 = .ok (.aload_n 0, 1) := by decide +kernel
theorem dDr_init_1 : decode cDr_init 1 = .ok (.invokespecial 3, 3) := by decide +kernel
theorem dDr_init_4 : decode cDr_init 4 = .ok (.aload_n 0, 1) := by decide +kernel
theorem dDr_init_5 : decode cDr_init 5 = .ok (.sipush 400, 3) := by decide +kernel
theorem dDr_init_8 : decode cDr_init 8 = .ok (.newarray .int, 2) := by decide +kernel
theorem dDr_init_10 : decode cDr_init 10 = .ok (.putfield 9, 3) := by decide +kernel
theorem dDr_init_13 : decode cDr_init 13 = .ok (.aload_n 0, 1) := by decide +kernel
theorem dDr_init_14 : decode cDr_init 14 = .ok (.iconst 4, 1) := by decide +kernel
theorem dDr_init_15 : decode cDr_init 15 = .ok (.newarray .int, 2) := by decide +kernel
theorem dDr_init_17 : decode cDr_init 17 = .ok (.putfield 15, 3) := by decide +kernel
theorem dDr_init_20 : decode cDr_init 20 = .ok (.aload_n 0, 1) := by decide +kernel
theorem dDr_init_21 : decode cDr_init 21 = .ok (.lload_n 1, 1) := by decide +kernel
theorem dDr_init_22 : decode cDr_init 22 = .ok (.putfield 18, 3) := by decide +kernel
theorem dDr_init_25 : decode cDr_init 25 = .ok (.return_, 1) := by decide +kernel
theorem dDr_take_0 : decode cDr_take 0 = .ok (.iload_n 3, 1) := by decide +kernel
theorem dDr_take_1 : decode cDr_take 1 = .ok (.ifCond .lt 8, 3) := by decide +kernel
theorem dDr_take_4 : decode cDr_take 4 = .ok (.iload_n 3, 1) := by decide +kernel
theorem dDr_take_5 : decode cDr_take 5 = .ok (.iload_n 2, 1) := by decide +kernel
theorem dDr_take_6 : decode cDr_take 6 = .ok (.if_icmp .le 5, 3) := by decide +kernel
theorem dDr_take_9 : decode cDr_take 9 = .ok (.iconst (-1), 1) := by decide +kernel
theorem dDr_take_10 : decode cDr_take 10 = .ok (.ireturn, 1) := by decide +kernel
theorem dDr_take_11 : decode cDr_take 11 = .ok (.iload_n 1, 1) := by decide +kernel
theorem dDr_take_12 : decode cDr_take 12 = .ok (.bipush 100, 2) := by decide +kernel
theorem dDr_take_14 : decode cDr_take 14 = .ok (.imul, 1) := by decide +kernel
theorem dDr_take_15 : decode cDr_take 15 = .ok (.istore 4, 2) := by decide +kernel
theorem dDr_take_17 : decode cDr_take 17 = .ok (.iconst 0, 1) := by decide +kernel
theorem dDr_take_18 : decode cDr_take 18 = .ok (.istore 5, 2) := by decide +kernel
theorem dDr_take_20 : decode cDr_take 20 = .ok (.iload 5, 2) := by decide +kernel
theorem dDr_take_22 : decode cDr_take 22 = .ok (.iload_n 2, 1) := by decide +kernel
theorem dDr_take_23 : decode cDr_take 23 = .ok (.if_icmp .ge 21, 3) := by decide +kernel
theorem dDr_take_26 : decode cDr_take 26 = .ok (.aload_n 0, 1) := by decide +kernel
theorem dDr_take_27 : decode cDr_take 27 = .ok (.getfield 9, 3) := by decide +kernel
theorem dDr_take_30 : decode cDr_take 30 = .ok (.iload 4, 2) := by decide +kernel
theorem dDr_take_32 : decode cDr_take 32 = .ok (.iload 5, 2) := by decide +kernel
theorem dDr_take_34 : decode cDr_take 34 = .ok (.iadd, 1) := by decide +kernel
theorem dDr_take_35 : decode cDr_take 35 = .ok (.iload 5, 2) := by decide +kernel
theorem dDr_take_37 : decode cDr_take 37 = .ok (.iastore, 1) := by decide +kernel
theorem dDr_take_38 : decode cDr_take 38 = .ok (.iinc 5 1, 3) := by decide +kernel
theorem dDr_take_41 : decode cDr_take 41 = .ok (.goto (-21), 3) := by decide +kernel
theorem dDr_take_44 : decode cDr_take 44 = .ok (.iconst 0, 1) := by decide +kernel
theorem dDr_take_45 : decode cDr_take 45 = .ok (.istore 5, 2) := by decide +kernel
theorem dDr_take_47 : decode cDr_take 47 = .ok (.iload 5, 2) := by decide +kernel
theorem dDr_take_49 : decode cDr_take 49 = .ok (.iload_n 3, 1) := by decide +kernel
theorem dDr_take_50 : decode cDr_take 50 = .ok (.if_icmp .ge 38, 3) := by decide +kernel
theorem dDr_take_53 : decode cDr_take 53 = .ok (.iload 5, 2) := by decide +kernel
theorem dDr_take_55 : decode cDr_take 55 = .ok (.iload_n 2, 1) := by decide +kernel
theorem dDr_take_56 : decode cDr_take 56 = .ok (.if_icmp .ge 32, 3) := by decide +kernel
theorem dDr_take_59 : decode cDr_take 59 = .ok (.aload_n 0, 1) := by decide +kernel
theorem dDr_take_60 : decode cDr_take 60 = .ok (.iload 4, 2) := by decide +kernel
theorem dDr_take_62 : decode cDr_take 62 = .ok (.iload 5, 2) := by decide +kernel
theorem dDr_take_64 : decode cDr_take 64 = .ok (.iadd, 1) := by decide +kernel
theorem dDr_take_65 : decode cDr_take 65 = .ok (.iload 4, 2) := by decide +kernel
theorem dDr_take_67 : decode cDr_take 67 = .ok (.iload 5, 2) := by decide +kernel
theorem dDr_take_69 : decode cDr_take 69 = .ok (.iadd, 1) := by decide +kernel
theorem dDr_take_70 : decode cDr_take 70 = .ok (.aload_n 0, 1) := by decide +kernel
theorem dDr_take_71 : decode cDr_take 71 = .ok (.iload_n 2, 1) := by decide +kernel
theorem dDr_take_72 : decode cDr_take 72 = .ok (.iload 5, 2) := by decide +kernel
theorem dDr_take_74 : decode cDr_take 74 = .ok (.isub, 1) := by decide +kernel
theorem dDr_take_75 : decode cDr_take 75 = .ok (.invokevirtual 22, 3) := by decide +kernel
theorem dDr_take_78 : decode cDr_take 78 = .ok (.iadd, 1) := by decide +kernel
theorem dDr_take_79 : decode cDr_take 79 = .ok (.invokevirtual 26, 3) := by decide +kernel
theorem dDr_take_82 : decode cDr_take 82 = .ok (.iinc 5 1, 3) := by decide +kernel
theorem dDr_take_85 : decode cDr_take 85 = .ok (.goto (-38), 3) := by decide +kernel
theorem dDr_take_88 : decode cDr_take 88 = .ok (.aload_n 0, 1) := by decide +kernel
theorem dDr_take_89 : decode cDr_take 89 = .ok (.getfield 15, 3) := by decide +kernel
theorem dDr_take_92 : decode cDr_take 92 = .ok (.iload_n 1, 1) := by decide +kernel
theorem dDr_take_93 : decode cDr_take 93 = .ok (.iload_n 3, 1) := by decide +kernel
theorem dDr_take_94 : decode cDr_take 94 = .ok (.iastore, 1) := by decide +kernel
theorem dDr_take_95 : decode cDr_take 95 = .ok (.iload_n 3, 1) := by decide +kernel
theorem dDr_take_96 : decode cDr_take 96 = .ok (.ireturn, 1) := by decide +kernel
theorem dDr_nextBelow_0 : decode cDr_nextBelow 0 = .ok (.aload_n 0, 1) := by decide +kernel
theorem dDr_nextBelow_1 : decode cDr_nextBelow 1 = .ok (.aload_n 0, 1) := by decide +kernel
theorem dDr_nextBelow_2 : decode cDr_nextBelow 2 = .ok (.getfield 18, 3) := by decide +kernel
theorem dDr_nextBelow_5 : decode cDr_nextBelow 5 = .ok (.ldc2_w 30, 3) := by decide +kernel
theorem dDr_nextBelow_8 : decode cDr_nextBelow 8 = .ok (.lmul, 1) := by decide +kernel
theorem dDr_nextBelow_9 : decode cDr_nextBelow 9 = .ok (.ldc2_w 32, 3) := by decide +kernel
theorem dDr_nextBelow_12 : decode cDr_nextBelow 12 = .ok (.ladd, 1) := by decide +kernel
theorem dDr_nextBelow_13 : decode cDr_nextBelow 13 = .ok (.putfield 18, 3) := by decide +kernel
theorem dDr_nextBelow_16 : decode cDr_nextBelow 16 = .ok (.iload_n 1, 1) := by decide +kernel
theorem dDr_nextBelow_17 : decode cDr_nextBelow 17 = .ok (.iconst 1, 1) := by decide +kernel
theorem dDr_nextBelow_18 : decode cDr_nextBelow 18 = .ok (.if_icmp .ge 7, 3) := by decide +kernel
theorem dDr_nextBelow_21 : decode cDr_nextBelow 21 = .ok (.iconst 0, 1) := by decide +kernel
theorem dDr_nextBelow_22 : decode cDr_nextBelow 22 = .ok (.goto 14, 3) := by decide +kernel
theorem dDr_nextBelow_25 : decode cDr_nextBelow 25 = .ok (.aload_n 0, 1) := by decide +kernel
theorem dDr_nextBelow_26 : decode cDr_nextBelow 26 = .ok (.getfield 18, 3) := by decide +kernel
theorem dDr_nextBelow_29 : decode cDr_nextBelow 29 = .ok (.bipush 33, 2) := by decide +kernel
theorem dDr_nextBelow_31 : decode cDr_nextBelow 31 = .ok (.lushr, 1) := by decide +kernel
theorem dDr_nextBelow_32 : decode cDr_nextBelow 32 = .ok (.iload_n 1, 1) := by decide +kernel
theorem dDr_nextBelow_33 : decode cDr_nextBelow 33 = .ok (.i2l, 1) := by decide +kernel
theorem dDr_nextBelow_34 : decode cDr_nextBelow 34 = .ok (.lrem, 1) := by decide +kernel
theorem dDr_nextBelow_35 : decode cDr_nextBelow 35 = .ok (.l2i, 1) := by decide +kernel
theorem dDr_nextBelow_36 : decode cDr_nextBelow 36 = .ok (.ireturn, 1) := by decide +kernel
theorem dDr_swap_0 : decode cDr_swap 0 = .ok (.aload_n 0, 1) := by decide +kernel
theorem dDr_swap_1 : decode cDr_swap 1 = .ok (.getfield 9, 3) := by decide +kernel
theorem dDr_swap_4 : decode cDr_swap 4 = .ok (.iload_n 1, 1) := by decide +kernel
theorem dDr_swap_5 : decode cDr_swap 5 = .ok (.iaload, 1) := by decide +kernel
theorem dDr_swap_6 : decode cDr_swap 6 = .ok (.istore_n 3, 1) := by decide +kernel
theorem dDr_swap_7 : decode cDr_swap 7 = .ok (.aload_n 0, 1) := by decide +kernel
theorem dDr_swap_8 : decode cDr_swap 8 = .ok (.getfield 9, 3) := by decide +kernel
theorem dDr_swap_11 : decode cDr_swap 11 = .ok (.iload_n 1, 1) := by decide +kernel
theorem dDr_swap_12 : decode cDr_swap 12 = .ok (.aload_n 0, 1) := by decide +kernel
theorem dDr_swap_13 : decode cDr_swap 13 = .ok (.getfield 9, 3) := by decide +kernel
theorem dDr_swap_16 : decode cDr_swap 16 = .ok (.iload_n 2, 1) := by decide +kernel
theorem dDr_swap_17 : decode cDr_swap 17 = .ok (.iaload, 1) := by decide +kernel
theorem dDr_swap_18 : decode cDr_swap 18 = .ok (.iastore, 1) := by decide +kernel
theorem dDr_swap_19 : decode cDr_swap 19 = .ok (.aload_n 0, 1) := by decide +kernel
theorem dDr_swap_20 : decode cDr_swap 20 = .ok (.getfield 9, 3) := by decide +kernel
theorem dDr_swap_23 : decode cDr_swap 23 = .ok (.iload_n 2, 1) := by decide +kernel
theorem dDr_swap_24 : decode cDr_swap 24 = .ok (.iload_n 3, 1) := by decide +kernel
theorem dDr_swap_25 : decode cDr_swap 25 = .ok (.iastore, 1) := by decide +kernel
theorem dDr_swap_26 : decode cDr_swap 26 = .ok (.return_, 1) := by decide +kernel
theorem dDr_taken_0 : decode cDr_taken 0 = .ok (.iload_n 2, 1) := by decide +kernel
theorem dDr_taken_1 : decode cDr_taken 1 = .ok (.ifCond .lt 27, 3) := by decide +kernel
theorem dDr_taken_4 : decode cDr_taken 4 = .ok (.iload_n 2, 1) := by decide +kernel
theorem dDr_taken_5 : decode cDr_taken 5 = .ok (.aload_n 0, 1) := by decide +kernel
theorem dDr_taken_6 : decode cDr_taken 6 = .ok (.getfield 15, 3) := by decide +kernel
theorem dDr_taken_9 : decode cDr_taken 9 = .ok (.iload_n 1, 1) := by decide +kernel
theorem dDr_taken_10 : decode cDr_taken 10 = .ok (.iaload, 1) := by decide +kernel
theorem dDr_taken_11 : decode cDr_taken 11 = .ok (.if_icmp .ge 17, 3) := by decide +kernel
theorem dDr_taken_14 : decode cDr_taken 14 = .ok (.aload_n 0, 1) := by decide +kernel
theorem dDr_taken_15 : decode cDr_taken 15 = .ok (.getfield 9, 3) := by decide +kernel
theorem dDr_taken_18 : decode cDr_taken 18 = .ok (.iload_n 1, 1) := by decide +kernel
theorem dDr_taken_19 : decode cDr_taken 19 = .ok (.bipush 100, 2) := by decide +kernel
theorem dDr_taken_21 : decode cDr_taken 21 = .ok (.imul, 1) := by decide +kernel
theorem dDr_taken_22 : decode cDr_taken 22 = .ok (.iload_n 2, 1) := by decide +kernel
theorem dDr_taken_23 : decode cDr_taken 23 = .ok (.iadd, 1) := by decide +kernel
theorem dDr_taken_24 : decode cDr_taken 24 = .ok (.iaload, 1) := by decide +kernel
theorem dDr_taken_25 : decode cDr_taken 25 = .ok (.goto 4, 3) := by decide +kernel
theorem dDr_taken_28 : decode cDr_taken 28 = .ok (.iconst (-1), 1) := by decide +kernel
theorem dDr_taken_29 : decode cDr_taken 29 = .ok (.ireturn, 1) := by decide +kernel
theorem dRp_init_0 : decode cRp_init 0 = .ok (.aload_n 0, 1) := by decide +kernel
theorem dRp_init_1 : decode cRp_init 1 = .ok (.invokespecial 3, 3) := by decide +kernel
theorem dRp_init_4 : decode cRp_init 4 = .ok (.aload_n 0, 1) := by decide +kernel
theorem dRp_init_5 : decode cRp_init 5 = .ok (.bipush 40, 2) := by decide +kernel
theorem dRp_init_7 : decode cRp_init 7 = .ok (.newarray .int, 2) := by decide +kernel
theorem dRp_init_9 : decode cRp_init 9 = .ok (.putfield 9, 3) := by decide +kernel
theorem dRp_init_12 : decode cRp_init 12 = .ok (.aload_n 0, 1) := by decide +kernel
theorem dRp_init_13 : decode cRp_init 13 = .ok (.bipush 40, 2) := by decide +kernel
theorem dRp_init_15 : decode cRp_init 15 = .ok (.newarray .int, 2) := by decide +kernel
theorem dRp_init_17 : decode cRp_init 17 = .ok (.putfield 15, 3) := by decide +kernel
theorem dRp_init_20 : decode cRp_init 20 = .ok (.aload_n 0, 1) := by decide +kernel
theorem dRp_init_21 : decode cRp_init 21 = .ok (.bipush 40, 2) := by decide +kernel
theorem dRp_init_23 : decode cRp_init 23 = .ok (.newarray .long, 2) := by decide +kernel
theorem dRp_init_25 : decode cRp_init 25 = .ok (.putfield 18, 3) := by decide +kernel
theorem dRp_init_28 : decode cRp_init 28 = .ok (.return_, 1) := by decide +kernel
theorem dRp_add_0 : decode cRp_add 0 = .ok (.aload_n 0, 1) := by decide +kernel
theorem dRp_add_1 : decode cRp_add 1 = .ok (.getfield 22, 3) := by decide +kernel
theorem dRp_add_4 : decode cRp_add 4 = .ok (.bipush 40, 2) := by decide +kernel
theorem dRp_add_6 : decode cRp_add 6 = .ok (.if_icmp .lt 5, 3) := by decide +kernel
theorem dRp_add_9 : decode cRp_add 9 = .ok (.iconst (-1), 1) := by decide +kernel
theorem dRp_add_10 : decode cRp_add 10 = .ok (.ireturn, 1) := by decide +kernel
theorem dRp_add_11 : decode cRp_add 11 = .ok (.aload_n 0, 1) := by decide +kernel
theorem dRp_add_12 : decode cRp_add 12 = .ok (.getfield 9, 3) := by decide +kernel
theorem dRp_add_15 : decode cRp_add 15 = .ok (.aload_n 0, 1) := by decide +kernel
theorem dRp_add_16 : decode cRp_add 16 = .ok (.getfield 22, 3) := by decide +kernel
theorem dRp_add_19 : decode cRp_add 19 = .ok (.iload_n 1, 1) := by decide +kernel
theorem dRp_add_20 : decode cRp_add 20 = .ok (.iastore, 1) := by decide +kernel
theorem dRp_add_21 : decode cRp_add 21 = .ok (.aload_n 0, 1) := by decide +kernel
theorem dRp_add_22 : decode cRp_add 22 = .ok (.getfield 15, 3) := by decide +kernel
theorem dRp_add_25 : decode cRp_add 25 = .ok (.aload_n 0, 1) := by decide +kernel
theorem dRp_add_26 : decode cRp_add 26 = .ok (.getfield 22, 3) := by decide +kernel
theorem dRp_add_29 : decode cRp_add 29 = .ok (.iload_n 2, 1) := by decide +kernel
theorem dRp_add_30 : decode cRp_add 30 = .ok (.iastore, 1) := by decide +kernel
theorem dRp_add_31 : decode cRp_add 31 = .ok (.aload_n 0, 1) := by decide +kernel
theorem dRp_add_32 : decode cRp_add 32 = .ok (.getfield 18, 3) := by decide +kernel
theorem dRp_add_35 : decode cRp_add 35 = .ok (.aload_n 0, 1) := by decide +kernel
theorem dRp_add_36 : decode cRp_add 36 = .ok (.getfield 22, 3) := by decide +kernel
theorem dRp_add_39 : decode cRp_add 39 = .ok (.lload_n 3, 1) := by decide +kernel
theorem dRp_add_40 : decode cRp_add 40 = .ok (.lastore, 1) := by decide +kernel
theorem dRp_add_41 : decode cRp_add 41 = .ok (.aload_n 0, 1) := by decide +kernel
theorem dRp_add_42 : decode cRp_add 42 = .ok (.dup, 1) := by decide +kernel
theorem dRp_add_43 : decode cRp_add 43 = .ok (.getfield 22, 3) := by decide +kernel
theorem dRp_add_46 : decode cRp_add 46 = .ok (.iconst 1, 1) := by decide +kernel
theorem dRp_add_47 : decode cRp_add 47 = .ok (.iadd, 1) := by decide +kernel
theorem dRp_add_48 : decode cRp_add 48 = .ok (.putfield 22, 3) := by decide +kernel
theorem dRp_add_51 : decode cRp_add 51 = .ok (.aload_n 0, 1) := by decide +kernel
theorem dRp_add_52 : decode cRp_add 52 = .ok (.getfield 22, 3) := by decide +kernel
theorem dRp_add_55 : decode cRp_add 55 = .ok (.ireturn, 1) := by decide +kernel
theorem dRp_tellError_0 : decode cRp_tellError 0 = .ok (.lconst 0, 1) := by decide +kernel
theorem dRp_tellError_1 : decode cRp_tellError 1 = .ok (.lstore 4, 2) := by decide +kernel
theorem dRp_tellError_3 : decode cRp_tellError 3 = .ok (.lconst 0, 1) := by decide +kernel
theorem dRp_tellError_4 : decode cRp_tellError 4 = .ok (.lstore 6, 2) := by decide +kernel
theorem dRp_tellError_6 : decode cRp_tellError 6 = .ok (.iconst 0, 1) := by decide +kernel
theorem dRp_tellError_7 : decode cRp_tellError 7 = .ok (.istore 8, 2) := by decide +kernel
theorem dRp_tellError_9 : decode cRp_tellError 9 = .ok (.iload 8, 2) := by decide +kernel
theorem dRp_tellError_11 : decode cRp_tellError 11 = .ok (.aload_n 0, 1) := by decide +kernel
theorem dRp_tellError_12 : decode cRp_tellError 12 = .ok (.getfield 22, 3) := by decide +kernel
theorem dRp_tellError_15 : decode cRp_tellError 15 = .ok (.if_icmp .ge 58, 3) := by decide +kernel
theorem dRp_tellError_18 : decode cRp_tellError 18 = .ok (.aload_n 0, 1) := by decide +kernel
theorem dRp_tellError_19 : decode cRp_tellError 19 = .ok (.getfield 15, 3) := by decide +kernel
theorem dRp_tellError_22 : decode cRp_tellError 22 = .ok (.iload 8, 2) := by decide +kernel
theorem dRp_tellError_24 : decode cRp_tellError 24 = .ok (.iaload, 1) := by decide +kernel
theorem dRp_tellError_25 : decode cRp_tellError 25 = .ok (.iload_n 2, 1) := by decide +kernel
theorem dRp_tellError_26 : decode cRp_tellError 26 = .ok (.if_icmp .ne 41, 3) := by decide +kernel
theorem dRp_tellError_29 : decode cRp_tellError 29 = .ok (.aload_n 0, 1) := by decide +kernel
theorem dRp_tellError_30 : decode cRp_tellError 30 = .ok (.getfield 18, 3) := by decide +kernel
theorem dRp_tellError_33 : decode cRp_tellError 33 = .ok (.iload 8, 2) := by decide +kernel
theorem dRp_tellError_35 : decode cRp_tellError 35 = .ok (.laload, 1) := by decide +kernel
theorem dRp_tellError_36 : decode cRp_tellError 36 = .ok (.aload_n 1, 1) := by decide +kernel
theorem dRp_tellError_37 : decode cRp_tellError 37 = .ok (.aload_n 0, 1) := by decide +kernel
theorem dRp_tellError_38 : decode cRp_tellError 38 = .ok (.getfield 9, 3) := by decide +kernel
theorem dRp_tellError_41 : decode cRp_tellError 41 = .ok (.iload 8, 2) := by decide +kernel
theorem dRp_tellError_43 : decode cRp_tellError 43 = .ok (.iaload, 1) := by decide +kernel
theorem dRp_tellError_44 : decode cRp_tellError 44 = .ok (.iload_n 2, 1) := by decide +kernel
theorem dRp_tellError_45 : decode cRp_tellError 45 = .ok (.invokevirtual 26, 3) := by decide +kernel
theorem dRp_tellError_48 : decode cRp_tellError 48 = .ok (.lsub, 1) := by decide +kernel
theorem dRp_tellError_49 : decode cRp_tellError 49 = .ok (.lstore 9, 2) := by decide +kernel
theorem dRp_tellError_51 : decode cRp_tellError 51 = .ok (.lload 4, 2) := by decide +kernel
theorem dRp_tellError_53 : decode cRp_tellError 53 = .ok (.lload 9, 2) := by decide +kernel
theorem dRp_tellError_55 : decode cRp_tellError 55 = .ok (.lload 9, 2) := by decide +kernel
theorem dRp_tellError_57 : decode cRp_tellError 57 = .ok (.lmul, 1) := by decide +kernel
theorem dRp_tellError_58 : decode cRp_tellError 58 = .ok (.ladd, 1) := by decide +kernel
theorem dRp_tellError_59 : decode cRp_tellError 59 = .ok (.lstore 4, 2) := by decide +kernel
theorem dRp_tellError_61 : decode cRp_tellError 61 = .ok (.lload 6, 2) := by decide +kernel
theorem dRp_tellError_63 : decode cRp_tellError 63 = .ok (.lconst 1, 1) := by decide +kernel
theorem dRp_tellError_64 : decode cRp_tellError 64 = .ok (.ladd, 1) := by decide +kernel
theorem dRp_tellError_65 : decode cRp_tellError 65 = .ok (.lstore 6, 2) := by decide +kernel
theorem dRp_tellError_67 : decode cRp_tellError 67 = .ok (.iinc 8 1, 3) := by decide +kernel
theorem dRp_tellError_70 : decode cRp_tellError 70 = .ok (.goto (-61), 3) := by decide +kernel
theorem dRp_tellError_73 : decode cRp_tellError 73 = .ok (.lload 6, 2) := by decide +kernel
theorem dRp_tellError_75 : decode cRp_tellError 75 = .ok (.lconst 0, 1) := by decide +kernel
theorem dRp_tellError_76 : decode cRp_tellError 76 = .ok (.lcmp, 1) := by decide +kernel
theorem dRp_tellError_77 : decode cRp_tellError 77 = .ok (.ifCond .le 18, 3) := by decide +kernel
theorem dRp_tellError_80 : decode cRp_tellError 80 = .ok (.lload 4, 2) := by decide +kernel
theorem dRp_tellError_82 : decode cRp_tellError 82 = .ok (.ldc2_w 32, 3) := by decide +kernel
theorem dRp_tellError_85 : decode cRp_tellError 85 = .ok (.lload 6, 2) := by decide +kernel
theorem dRp_tellError_87 : decode cRp_tellError 87 = .ok (.lmul, 1) := by decide +kernel
theorem dRp_tellError_88 : decode cRp_tellError 88 = .ok (.iload_n 3, 1) := by decide +kernel
theorem dRp_tellError_89 : decode cRp_tellError 89 = .ok (.invokestatic 34, 3) := by decide +kernel
theorem dRp_tellError_92 : decode cRp_tellError 92 = .ok (.goto 6, 3) := by decide +kernel
theorem dRp_tellError_95 : decode cRp_tellError 95 = .ok (.ldc2_w 38, 3) := by decide +kernel
theorem dRp_tellError_98 : decode cRp_tellError 98 = .ok (.lreturn, 1) := by decide +kernel
theorem dTm_init_0 : decode cTm_init 0 = .ok (.aload_n 0, 1) := by decide +kernel
theorem dTm_init_1 : decode cTm_init 1 = .ok (.invokespecial 3, 3) := by decide +kernel
theorem dTm_init_4 : decode cTm_init 4 = .ok (.aload_n 0, 1) := by decide +kernel
theorem dTm_init_5 : decode cTm_init 5 = .ok (.iconst 4, 1) := by decide +kernel
theorem dTm_init_6 : decode cTm_init 6 = .ok (.newarray .long, 2) := by decide +kernel
theorem dTm_init_8 : decode cTm_init 8 = .ok (.putfield 9, 3) := by decide +kernel
theorem dTm_init_11 : decode cTm_init 11 = .ok (.aload_n 0, 1) := by decide +kernel
theorem dTm_init_12 : decode cTm_init 12 = .ok (.iconst 4, 1) := by decide +kernel
theorem dTm_init_13 : decode cTm_init 13 = .ok (.newarray .long, 2) := by decide +kernel
theorem dTm_init_15 : decode cTm_init 15 = .ok (.putfield 15, 3) := by decide +kernel
theorem dTm_init_18 : decode cTm_init 18 = .ok (.return_, 1) := by decide +kernel
theorem dTm_clear_0 : decode cTm_clear 0 = .ok (.aload_n 0, 1) := by decide +kernel
theorem dTm_clear_1 : decode cTm_clear 1 = .ok (.getfield 9, 3) := by decide +kernel
theorem dTm_clear_4 : decode cTm_clear 4 = .ok (.lconst 0, 1) := by decide +kernel
theorem dTm_clear_5 : decode cTm_clear 5 = .ok (.invokestatic 18, 3) := by decide +kernel
theorem dTm_clear_8 : decode cTm_clear 8 = .ok (.aload_n 0, 1) := by decide +kernel
theorem dTm_clear_9 : decode cTm_clear 9 = .ok (.getfield 15, 3) := by decide +kernel
theorem dTm_clear_12 : decode cTm_clear 12 = .ok (.lconst 1, 1) := by decide +kernel
theorem dTm_clear_13 : decode cTm_clear 13 = .ok (.invokestatic 18, 3) := by decide +kernel
theorem dTm_clear_16 : decode cTm_clear 16 = .ok (.return_, 1) := by decide +kernel
theorem dTm_set_0 : decode cTm_set 0 = .ok (.aload_n 0, 1) := by decide +kernel
theorem dTm_set_1 : decode cTm_set 1 = .ok (.getfield 9, 3) := by decide +kernel
theorem dTm_set_4 : decode cTm_set 4 = .ok (.iload_n 1, 1) := by decide +kernel
theorem dTm_set_5 : decode cTm_set 5 = .ok (.lload_n 2, 1) := by decide +kernel
theorem dTm_set_6 : decode cTm_set 6 = .ok (.lastore, 1) := by decide +kernel
theorem dTm_set_7 : decode cTm_set 7 = .ok (.aload_n 0, 1) := by decide +kernel
theorem dTm_set_8 : decode cTm_set 8 = .ok (.getfield 15, 3) := by decide +kernel
theorem dTm_set_11 : decode cTm_set 11 = .ok (.iload_n 1, 1) := by decide +kernel
theorem dTm_set_12 : decode cTm_set 12 = .ok (.lload 4, 2) := by decide +kernel
theorem dTm_set_14 : decode cTm_set 14 = .ok (.lastore, 1) := by decide +kernel
theorem dTm_set_15 : decode cTm_set 15 = .ok (.return_, 1) := by decide +kernel
theorem dTm_common_0 : decode cTm_common 0 = .ok (.lconst 1, 1) := by decide +kernel
theorem dTm_common_1 : decode cTm_common 1 = .ok (.lstore_n 1, 1) := by decide +kernel
theorem dTm_common_2 : decode cTm_common 2 = .ok (.iconst 0, 1) := by decide +kernel
theorem dTm_common_3 : decode cTm_common 3 = .ok (.istore_n 3, 1) := by decide +kernel
theorem dTm_common_4 : decode cTm_common 4 = .ok (.iload_n 3, 1) := by decide +kernel
theorem dTm_common_5 : decode cTm_common 5 = .ok (.iconst 4, 1) := by decide +kernel
theorem dTm_common_6 : decode cTm_common 6 = .ok (.if_icmp .ge 20, 3) := by decide +kernel
theorem dTm_common_9 : decode cTm_common 9 = .ok (.lload_n 1, 1) := by decide +kernel
theorem dTm_common_10 : decode cTm_common 10 = .ok (.aload_n 0, 1) := by decide +kernel
theorem dTm_common_11 : decode cTm_common 11 = .ok (.getfield 15, 3) := by decide +kernel
theorem dTm_common_14 : decode cTm_common 14 = .ok (.iload_n 3, 1) := by decide +kernel
theorem dTm_common_15 : decode cTm_common 15 = .ok (.laload, 1) := by decide +kernel
theorem dTm_common_16 : decode cTm_common 16 = .ok (.invokestatic 24, 3) := by decide +kernel
theorem dTm_common_19 : decode cTm_common 19 = .ok (.lstore_n 1, 1) := by decide +kernel
theorem dTm_common_20 : decode cTm_common 20 = .ok (.iinc 3 1, 3) := by decide +kernel
theorem dTm_common_23 : decode cTm_common 23 = .ok (.goto (-19), 3) := by decide +kernel
theorem dTm_common_26 : decode cTm_common 26 = .ok (.lload_n 1, 1) := by decide +kernel
theorem dTm_common_27 : decode cTm_common 27 = .ok (.lreturn, 1) := by decide +kernel
theorem dTm_scaled_0 : decode cTm_scaled 0 = .ok (.aload_n 0, 1) := by decide +kernel
theorem dTm_scaled_1 : decode cTm_scaled 1 = .ok (.getfield 15, 3) := by decide +kernel
theorem dTm_scaled_4 : decode cTm_scaled 4 = .ok (.iload_n 1, 1) := by decide +kernel
theorem dTm_scaled_5 : decode cTm_scaled 5 = .ok (.laload, 1) := by decide +kernel
theorem dTm_scaled_6 : decode cTm_scaled 6 = .ok (.lconst 1, 1) := by decide +kernel
theorem dTm_scaled_7 : decode cTm_scaled 7 = .ok (.lcmp, 1) := by decide +kernel
theorem dTm_scaled_8 : decode cTm_scaled 8 = .ok (.ifCond .ge 7, 3) := by decide +kernel
theorem dTm_scaled_11 : decode cTm_scaled 11 = .ok (.lconst 0, 1) := by decide +kernel
theorem dTm_scaled_12 : decode cTm_scaled 12 = .ok (.goto 18, 3) := by decide +kernel
theorem dTm_scaled_15 : decode cTm_scaled 15 = .ok (.aload_n 0, 1) := by decide +kernel
theorem dTm_scaled_16 : decode cTm_scaled 16 = .ok (.getfield 9, 3) := by decide +kernel
theorem dTm_scaled_19 : decode cTm_scaled 19 = .ok (.iload_n 1, 1) := by decide +kernel
theorem dTm_scaled_20 : decode cTm_scaled 20 = .ok (.laload, 1) := by decide +kernel
theorem dTm_scaled_21 : decode cTm_scaled 21 = .ok (.lload_n 2, 1) := by decide +kernel
theorem dTm_scaled_22 : decode cTm_scaled 22 = .ok (.aload_n 0, 1) := by decide +kernel
theorem dTm_scaled_23 : decode cTm_scaled 23 = .ok (.getfield 15, 3) := by decide +kernel
theorem dTm_scaled_26 : decode cTm_scaled 26 = .ok (.iload_n 1, 1) := by decide +kernel
theorem dTm_scaled_27 : decode cTm_scaled 27 = .ok (.laload, 1) := by decide +kernel
theorem dTm_scaled_28 : decode cTm_scaled 28 = .ok (.ldiv, 1) := by decide +kernel
theorem dTm_scaled_29 : decode cTm_scaled 29 = .ok (.lmul, 1) := by decide +kernel
theorem dTm_scaled_30 : decode cTm_scaled 30 = .ok (.lreturn, 1) := by decide +kernel
theorem dTm_sum_0 : decode cTm_sum 0 = .ok (.lconst 0, 1) := by decide +kernel
theorem dTm_sum_1 : decode cTm_sum 1 = .ok (.lstore_n 3, 1) := by decide +kernel
theorem dTm_sum_2 : decode cTm_sum 2 = .ok (.iconst 0, 1) := by decide +kernel
theorem dTm_sum_3 : decode cTm_sum 3 = .ok (.istore 5, 2) := by decide +kernel
theorem dTm_sum_5 : decode cTm_sum 5 = .ok (.iload 5, 2) := by decide +kernel
theorem dTm_sum_7 : decode cTm_sum 7 = .ok (.iconst 4, 1) := by decide +kernel
theorem dTm_sum_8 : decode cTm_sum 8 = .ok (.if_icmp .ge 19, 3) := by decide +kernel
theorem dTm_sum_11 : decode cTm_sum 11 = .ok (.lload_n 3, 1) := by decide +kernel
theorem dTm_sum_12 : decode cTm_sum 12 = .ok (.aload_n 0, 1) := by decide +kernel
theorem dTm_sum_13 : decode cTm_sum 13 = .ok (.iload 5, 2) := by decide +kernel
theorem dTm_sum_15 : decode cTm_sum 15 = .ok (.lload_n 1, 1) := by decide +kernel
theorem dTm_sum_16 : decode cTm_sum 16 = .ok (.invokevirtual 28, 3) := by decide +kernel
theorem dTm_sum_19 : decode cTm_sum 19 = .ok (.ladd, 1) := by decide +kernel
theorem dTm_sum_20 : decode cTm_sum 20 = .ok (.lstore_n 3, 1) := by decide +kernel
theorem dTm_sum_21 : decode cTm_sum 21 = .ok (.iinc 5 1, 3) := by decide +kernel
theorem dTm_sum_24 : decode cTm_sum 24 = .ok (.goto (-19), 3) := by decide +kernel
theorem dTm_sum_27 : decode cTm_sum 27 = .ok (.lload_n 3, 1) := by decide +kernel
theorem dTm_sum_28 : decode cTm_sum 28 = .ok (.lreturn, 1) := by decide +kernel
