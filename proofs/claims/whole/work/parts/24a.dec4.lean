theorem dMd_init_0 : decode cMd_init 0 = .ok (.aload_n 0, 1) := by decide +kernel
theorem dMd_init_1 : decode cMd_init 1 = .ok (.invokespecial 1, 3) := by decide +kernel
theorem dMd_init_4 : decode cMd_init 4 = .ok (.aload_n 0, 1) := by decide +kernel
theorem dMd_init_5 : decode cMd_init 5 = .ok (.iconst 4, 1) := by decide +kernel
theorem dMd_init_6 : decode cMd_init 6 = .ok (.newarray .int, 2) := by decide +kernel
theorem dMd_init_8 : decode cMd_init 8 = .ok (.putfield 7, 3) := by decide +kernel
theorem dMd_init_11 : decode cMd_init 11 = .ok (.aload_n 0, 1) := by decide +kernel
theorem dMd_init_12 : decode cMd_init 12 = .ok (.iconst 4, 1) := by decide +kernel
theorem dMd_init_13 : decode cMd_init 13 = .ok (.newarray .long, 2) := by decide +kernel
theorem dMd_init_15 : decode cMd_init 15 = .ok (.putfield 13, 3) := by decide +kernel
theorem dMd_init_18 : decode cMd_init 18 = .ok (.aload_n 0, 1) := by decide +kernel
theorem dMd_init_19 : decode cMd_init 19 = .ok (.iconst 4, 1) := by decide +kernel
theorem dMd_init_20 : decode cMd_init 20 = .ok (.newarray .boolean, 2) := by decide +kernel
theorem dMd_init_22 : decode cMd_init 22 = .ok (.putfield 17, 3) := by decide +kernel
theorem dMd_init_25 : decode cMd_init 25 = .ok (.aload_n 0, 1) := by decide +kernel
theorem dMd_init_26 : decode cMd_init 26 = .ok (.sipush 400, 3) := by decide +kernel
theorem dMd_init_29 : decode cMd_init 29 = .ok (.newarray .int, 2) := by decide +kernel
theorem dMd_init_31 : decode cMd_init 31 = .ok (.putfield 21, 3) := by decide +kernel
theorem dMd_init_34 : decode cMd_init 34 = .ok (.aload_n 0, 1) := by decide +kernel
theorem dMd_init_35 : decode cMd_init 35 = .ok (.iconst 4, 1) := by decide +kernel
theorem dMd_init_36 : decode cMd_init 36 = .ok (.newarray .int, 2) := by decide +kernel
theorem dMd_init_38 : decode cMd_init 38 = .ok (.putfield 24, 3) := by decide +kernel
theorem dMd_init_41 : decode cMd_init 41 = .ok (.aload_n 0, 1) := by decide +kernel
theorem dMd_init_42 : decode cMd_init 42 = .ok (.bipush 12, 2) := by decide +kernel
theorem dMd_init_44 : decode cMd_init 44 = .ok (.newarray .int, 2) := by decide +kernel
theorem dMd_init_46 : decode cMd_init 46 = .ok (.putfield 27, 3) := by decide +kernel
theorem dMd_init_49 : decode cMd_init 49 = .ok (.aload_n 0, 1) := by decide +kernel
theorem dMd_init_50 : decode cMd_init 50 = .ok (.bipush 12, 2) := by decide +kernel
theorem dMd_init_52 : decode cMd_init 52 = .ok (.newarray .int, 2) := by decide +kernel
theorem dMd_init_54 : decode cMd_init 54 = .ok (.putfield 30, 3) := by decide +kernel
theorem dMd_init_57 : decode cMd_init 57 = .ok (.aload_n 0, 1) := by decide +kernel
theorem dMd_init_58 : decode cMd_init 58 = .ok (.bipush 12, 2) := by decide +kernel
theorem dMd_init_60 : decode cMd_init 60 = .ok (.newarray .boolean, 2) := by decide +kernel
theorem dMd_init_62 : decode cMd_init 62 = .ok (.putfield 33, 3) := by decide +kernel
theorem dMd_init_65 : decode cMd_init 65 = .ok (.aload_n 0, 1) := by decide +kernel
theorem dMd_init_66 : decode cMd_init 66 = .ok (.bipush 36, 2) := by decide +kernel
theorem dMd_init_68 : decode cMd_init 68 = .ok (.newarray .long, 2) := by decide +kernel
theorem dMd_init_70 : decode cMd_init 70 = .ok (.putfield 36, 3) := by decide +kernel
theorem dMd_init_73 : decode cMd_init 73 = .ok (.aload_n 0, 1) := by decide +kernel
theorem dMd_init_74 : decode cMd_init 74 = .ok (.iconst 4, 1) := by decide +kernel
theorem dMd_init_75 : decode cMd_init 75 = .ok (.newarray .int, 2) := by decide +kernel
theorem dMd_init_77 : decode cMd_init 77 = .ok (.putfield 39, 3) := by decide +kernel
theorem dMd_init_80 : decode cMd_init 80 = .ok (.aload_n 0, 1) := by decide +kernel
theorem dMd_init_81 : decode cMd_init 81 = .ok (.bipush 40, 2) := by decide +kernel
theorem dMd_init_83 : decode cMd_init 83 = .ok (.newarray .int, 2) := by decide +kernel
theorem dMd_init_85 : decode cMd_init 85 = .ok (.putfield 42, 3) := by decide +kernel
theorem dMd_init_88 : decode cMd_init 88 = .ok (.aload_n 0, 1) := by decide +kernel
theorem dMd_init_89 : decode cMd_init 89 = .ok (.bipush 40, 2) := by decide +kernel
theorem dMd_init_91 : decode cMd_init 91 = .ok (.newarray .int, 2) := by decide +kernel
theorem dMd_init_93 : decode cMd_init 93 = .ok (.putfield 45, 3) := by decide +kernel
theorem dMd_init_96 : decode cMd_init 96 = .ok (.aload_n 0, 1) := by decide +kernel
theorem dMd_init_97 : decode cMd_init 97 = .ok (.bipush 40, 2) := by decide +kernel
theorem dMd_init_99 : decode cMd_init 99 = .ok (.newarray .long, 2) := by decide +kernel
theorem dMd_init_101 : decode cMd_init 101 = .ok (.putfield 48, 3) := by decide +kernel
theorem dMd_init_104 : decode cMd_init 104 = .ok (.aload_n 0, 1) := by decide +kernel
theorem dMd_init_105 : decode cMd_init 105 = .ok (.iconst 4, 1) := by decide +kernel
theorem dMd_init_106 : decode cMd_init 106 = .ok (.newarray .int, 2) := by decide +kernel
theorem dMd_init_108 : decode cMd_init 108 = .ok (.putfield 51, 3) := by decide +kernel
theorem dMd_init_111 : decode cMd_init 111 = .ok (.aload_n 0, 1) := by decide +kernel
theorem dMd_init_112 : decode cMd_init 112 = .ok (.lload_n 1, 1) := by decide +kernel
theorem dMd_init_113 : decode cMd_init 113 = .ok (.putfield 54, 3) := by decide +kernel
theorem dMd_init_116 : decode cMd_init 116 = .ok (.return_, 1) := by decide +kernel
theorem dMd_isIn_0 : decode cMd_isIn 0 = .ok (.lload_n 0, 1) := by decide +kernel
theorem dMd_isIn_1 : decode cMd_isIn 1 = .ok (.lload_n 2, 1) := by decide +kernel
theorem dMd_isIn_2 : decode cMd_isIn 2 = .ok (.lcmp, 1) := by decide +kernel
theorem dMd_isIn_3 : decode cMd_isIn 3 = .ok (.ifCond .lt 14, 3) := by decide +kernel
theorem dMd_isIn_6 : decode cMd_isIn 6 = .ok (.lload_n 0, 1) := by decide +kernel
theorem dMd_isIn_7 : decode cMd_isIn 7 = .ok (.lload 4, 2) := by decide +kernel
theorem dMd_isIn_9 : decode cMd_isIn 9 = .ok (.lcmp, 1) := by decide +kernel
theorem dMd_isIn_10 : decode cMd_isIn 10 = .ok (.ifCond .gt 7, 3) := by decide +kernel
theorem dMd_isIn_13 : decode cMd_isIn 13 = .ok (.iconst 1, 1) := by decide +kernel
theorem dMd_isIn_14 : decode cMd_isIn 14 = .ok (.goto 4, 3) := by decide +kernel
theorem dMd_isIn_17 : decode cMd_isIn 17 = .ok (.iconst 0, 1) := by decide +kernel
theorem dMd_isIn_18 : decode cMd_isIn 18 = .ok (.ireturn, 1) := by decide +kernel
theorem dMd_isHere_0 : decode cMd_isHere 0 = .ok (.iload_n 1, 1) := by decide +kernel
theorem dMd_isHere_1 : decode cMd_isHere 1 = .ok (.ifCond .lt 24, 3) := by decide +kernel
theorem dMd_isHere_4 : decode cMd_isHere 4 = .ok (.iload_n 1, 1) := by decide +kernel
theorem dMd_isHere_5 : decode cMd_isHere 5 = .ok (.aload_n 0, 1) := by decide +kernel
theorem dMd_isHere_6 : decode cMd_isHere 6 = .ok (.getfield 58, 3) := by decide +kernel
theorem dMd_isHere_9 : decode cMd_isHere 9 = .ok (.if_icmp .ge 16, 3) := by decide +kernel
theorem dMd_isHere_12 : decode cMd_isHere 12 = .ok (.aload_n 0, 1) := by decide +kernel
theorem dMd_isHere_13 : decode cMd_isHere 13 = .ok (.getfield 17, 3) := by decide +kernel
theorem dMd_isHere_16 : decode cMd_isHere 16 = .ok (.iload_n 1, 1) := by decide +kernel
theorem dMd_isHere_17 : decode cMd_isHere 17 = .ok (.baload, 1) := by decide +kernel
theorem dMd_isHere_18 : decode cMd_isHere 18 = .ok (.ifCond .ne 7, 3) := by decide +kernel
theorem dMd_isHere_21 : decode cMd_isHere 21 = .ok (.iconst 1, 1) := by decide +kernel
theorem dMd_isHere_22 : decode cMd_isHere 22 = .ok (.goto 4, 3) := by decide +kernel
theorem dMd_isHere_25 : decode cMd_isHere 25 = .ok (.iconst 0, 1) := by decide +kernel
theorem dMd_isHere_26 : decode cMd_isHere 26 = .ok (.ireturn, 1) := by decide +kernel
theorem dMd_isBag_0 : decode cMd_isBag 0 = .ok (.iload_n 1, 1) := by decide +kernel
theorem dMd_isBag_1 : decode cMd_isBag 1 = .ok (.ifCond .lt 15, 3) := by decide +kernel
theorem dMd_isBag_4 : decode cMd_isBag 4 = .ok (.iload_n 1, 1) := by decide +kernel
theorem dMd_isBag_5 : decode cMd_isBag 5 = .ok (.aload_n 0, 1) := by decide +kernel
theorem dMd_isBag_6 : decode cMd_isBag 6 = .ok (.getfield 62, 3) := by decide +kernel
theorem dMd_isBag_9 : decode cMd_isBag 9 = .ok (.if_icmp .ge 7, 3) := by decide +kernel
theorem dMd_isBag_12 : decode cMd_isBag 12 = .ok (.iconst 1, 1) := by decide +kernel
theorem dMd_isBag_13 : decode cMd_isBag 13 = .ok (.goto 4, 3) := by decide +kernel
theorem dMd_isBag_16 : decode cMd_isBag 16 = .ok (.iconst 0, 1) := by decide +kernel
theorem dMd_isBag_17 : decode cMd_isBag 17 = .ok (.ireturn, 1) := by decide +kernel
theorem dMd_isKind_0 : decode cMd_isKind 0 = .ok (.iload_n 0, 1) := by decide +kernel
theorem dMd_isKind_1 : decode cMd_isKind 1 = .ok (.ifCond .lt 12, 3) := by decide +kernel
theorem dMd_isKind_4 : decode cMd_isKind 4 = .ok (.iload_n 0, 1) := by decide +kernel
theorem dMd_isKind_5 : decode cMd_isKind 5 = .ok (.iconst 3, 1) := by decide +kernel
theorem dMd_isKind_6 : decode cMd_isKind 6 = .ok (.if_icmp .ge 7, 3) := by decide +kernel
theorem dMd_isKind_9 : decode cMd_isKind 9 = .ok (.iconst 1, 1) := by decide +kernel
theorem dMd_isKind_10 : decode cMd_isKind 10 = .ok (.goto 4, 3) := by decide +kernel
theorem dMd_isKind_13 : decode cMd_isKind 13 = .ok (.iconst 0, 1) := by decide +kernel
theorem dMd_isKind_14 : decode cMd_isKind 14 = .ok (.ireturn, 1) := by decide +kernel
theorem dMd_stratum_0 : decode cMd_stratum 0 = .ok (.aload_n 0, 1) := by decide +kernel
theorem dMd_stratum_1 : decode cMd_stratum 1 = .ok (.getfield 58, 3) := by decide +kernel
theorem dMd_stratum_4 : decode cMd_stratum 4 = .ok (.iconst 4, 1) := by decide +kernel
theorem dMd_stratum_5 : decode cMd_stratum 5 = .ok (.if_icmp .eq 15, 3) := by decide +kernel
theorem dMd_stratum_8 : decode cMd_stratum 8 = .ok (.iload_n 1, 1) := by decide +kernel
theorem dMd_stratum_9 : decode cMd_stratum 9 = .ok (.i2l, 1) := by decide +kernel
theorem dMd_stratum_10 : decode cMd_stratum 10 = .ok (.lconst 1, 1) := by decide +kernel
theorem dMd_stratum_11 : decode cMd_stratum 11 = .ok (.ldc2_w 65, 3) := by decide +kernel
theorem dMd_stratum_14 : decode cMd_stratum 14 = .ok (.invokestatic 67, 3) := by decide +kernel
theorem dMd_stratum_17 : decode cMd_stratum 17 = .ok (.ifCond .ne 5, 3) := by decide +kernel
theorem dMd_stratum_20 : decode cMd_stratum 20 = .ok (.iconst (-1), 1) := by decide +kernel
theorem dMd_stratum_21 : decode cMd_stratum 21 = .ok (.ireturn, 1) := by decide +kernel
theorem dMd_stratum_22 : decode cMd_stratum 22 = .ok (.aload_n 0, 1) := by decide +kernel
theorem dMd_stratum_23 : decode cMd_stratum 23 = .ok (.getfield 7, 3) := by decide +kernel
theorem dMd_stratum_26 : decode cMd_stratum 26 = .ok (.aload_n 0, 1) := by decide +kernel
theorem dMd_stratum_27 : decode cMd_stratum 27 = .ok (.getfield 58, 3) := by decide +kernel
theorem dMd_stratum_30 : decode cMd_stratum 30 = .ok (.iload_n 1, 1) := by decide +kernel
theorem dMd_stratum_31 : decode cMd_stratum 31 = .ok (.iastore, 1) := by decide +kernel
theorem dMd_stratum_32 : decode cMd_stratum 32 = .ok (.aload_n 0, 1) := by decide +kernel
theorem dMd_stratum_33 : decode cMd_stratum 33 = .ok (.getfield 13, 3) := by decide +kernel
theorem dMd_stratum_36 : decode cMd_stratum 36 = .ok (.aload_n 0, 1) := by decide +kernel
theorem dMd_stratum_37 : decode cMd_stratum 37 = .ok (.getfield 58, 3) := by decide +kernel
theorem dMd_stratum_40 : decode cMd_stratum 40 = .ok (.lconst 1, 1) := by decide +kernel
theorem dMd_stratum_41 : decode cMd_stratum 41 = .ok (.lastore, 1) := by decide +kernel
theorem dMd_stratum_42 : decode cMd_stratum 42 = .ok (.aload_n 0, 1) := by decide +kernel
theorem dMd_stratum_43 : decode cMd_stratum 43 = .ok (.dup, 1) := by decide +kernel
theorem dMd_stratum_44 : decode cMd_stratum 44 = .ok (.getfield 58, 3) := by decide +kernel
theorem dMd_stratum_47 : decode cMd_stratum 47 = .ok (.iconst 1, 1) := by decide +kernel
theorem dMd_stratum_48 : decode cMd_stratum 48 = .ok (.iadd, 1) := by decide +kernel
theorem dMd_stratum_49 : decode cMd_stratum 49 = .ok (.putfield 58, 3) := by decide +kernel
theorem dMd_stratum_52 : decode cMd_stratum 52 = .ok (.aload_n 0, 1) := by decide +kernel
theorem dMd_stratum_53 : decode cMd_stratum 53 = .ok (.getfield 58, 3) := by decide +kernel
theorem dMd_stratum_56 : decode cMd_stratum 56 = .ok (.iconst 1, 1) := by decide +kernel
theorem dMd_stratum_57 : decode cMd_stratum 57 = .ok (.isub, 1) := by decide +kernel
theorem dMd_stratum_58 : decode cMd_stratum 58 = .ok (.ireturn, 1) := by decide +kernel
theorem dMd_cost_0 : decode cMd_cost 0 = .ok (.aload_n 0, 1) := by decide +kernel
theorem dMd_cost_1 : decode cMd_cost 1 = .ok (.iload_n 1, 1) := by decide +kernel
theorem dMd_cost_2 : decode cMd_cost 2 = .ok (.invokevirtual 71, 3) := by decide +kernel
theorem dMd_cost_5 : decode cMd_cost 5 = .ok (.ifCond .eq 14, 3) := by decide +kernel
theorem dMd_cost_8 : decode cMd_cost 8 = .ok (.lload_n 2, 1) := by decide +kernel
theorem dMd_cost_9 : decode cMd_cost 9 = .ok (.lconst 1, 1) := by decide +kernel
theorem dMd_cost_10 : decode cMd_cost 10 = .ok (.ldc2_w 75, 3) := by decide +kernel
theorem dMd_cost_13 : decode cMd_cost 13 = .ok (.invokestatic 67, 3) := by decide +kernel
theorem dMd_cost_16 : decode cMd_cost 16 = .ok (.ifCond .ne 5, 3) := by decide +kernel
theorem dMd_cost_19 : decode cMd_cost 19 = .ok (.iconst 0, 1) := by decide +kernel
theorem dMd_cost_20 : decode cMd_cost 20 = .ok (.ireturn, 1) := by decide +kernel
theorem dMd_cost_21 : decode cMd_cost 21 = .ok (.aload_n 0, 1) := by decide +kernel
theorem dMd_cost_22 : decode cMd_cost 22 = .ok (.getfield 13, 3) := by decide +kernel
theorem dMd_cost_25 : decode cMd_cost 25 = .ok (.iload_n 1, 1) := by decide +kernel
theorem dMd_cost_26 : decode cMd_cost 26 = .ok (.lload_n 2, 1) := by decide +kernel
theorem dMd_cost_27 : decode cMd_cost 27 = .ok (.lastore, 1) := by decide +kernel
theorem dMd_cost_28 : decode cMd_cost 28 = .ok (.iconst 1, 1) := by decide +kernel
theorem dMd_cost_29 : decode cMd_cost 29 = .ok (.ireturn, 1) := by decide +kernel
theorem dMd_bag_0 : decode cMd_bag 0 = .ok (.aload_n 0, 1) := by decide +kernel
theorem dMd_bag_1 : decode cMd_bag 1 = .ok (.getfield 62, 3) := by decide +kernel
theorem dMd_bag_4 : decode cMd_bag 4 = .ok (.bipush 12, 2) := by decide +kernel
theorem dMd_bag_6 : decode cMd_bag 6 = .ok (.if_icmp .eq 11, 3) := by decide +kernel
theorem dMd_bag_9 : decode cMd_bag 9 = .ok (.aload_n 0, 1) := by decide +kernel
theorem dMd_bag_10 : decode cMd_bag 10 = .ok (.iload_n 1, 1) := by decide +kernel
theorem dMd_bag_11 : decode cMd_bag 11 = .ok (.invokevirtual 71, 3) := by decide +kernel
theorem dMd_bag_14 : decode cMd_bag 14 = .ok (.ifCond .ne 5, 3) := by decide +kernel
theorem dMd_bag_17 : decode cMd_bag 17 = .ok (.iconst (-1), 1) := by decide +kernel
theorem dMd_bag_18 : decode cMd_bag 18 = .ok (.ireturn, 1) := by decide +kernel
theorem dMd_bag_19 : decode cMd_bag 19 = .ok (.aload_n 0, 1) := by decide +kernel
theorem dMd_bag_20 : decode cMd_bag 20 = .ok (.getfield 27, 3) := by decide +kernel
theorem dMd_bag_23 : decode cMd_bag 23 = .ok (.aload_n 0, 1) := by decide +kernel
theorem dMd_bag_24 : decode cMd_bag 24 = .ok (.getfield 62, 3) := by decide +kernel
theorem dMd_bag_27 : decode cMd_bag 27 = .ok (.iload_n 1, 1) := by decide +kernel
theorem dMd_bag_28 : decode cMd_bag 28 = .ok (.iastore, 1) := by decide +kernel
theorem dMd_bag_29 : decode cMd_bag 29 = .ok (.aload_n 0, 1) := by decide +kernel
theorem dMd_bag_30 : decode cMd_bag 30 = .ok (.dup, 1) := by decide +kernel
theorem dMd_bag_31 : decode cMd_bag 31 = .ok (.getfield 62, 3) := by decide +kernel
theorem dMd_bag_34 : decode cMd_bag 34 = .ok (.iconst 1, 1) := by decide +kernel
theorem dMd_bag_35 : decode cMd_bag 35 = .ok (.iadd, 1) := by decide +kernel
theorem dMd_bag_36 : decode cMd_bag 36 = .ok (.putfield 62, 3) := by decide +kernel
theorem dMd_bag_39 : decode cMd_bag 39 = .ok (.aload_n 0, 1) := by decide +kernel
theorem dMd_bag_40 : decode cMd_bag 40 = .ok (.getfield 62, 3) := by decide +kernel
theorem dMd_bag_43 : decode cMd_bag 43 = .ok (.iconst 1, 1) := by decide +kernel
theorem dMd_bag_44 : decode cMd_bag 44 = .ok (.isub, 1) := by decide +kernel
theorem dMd_bag_45 : decode cMd_bag 45 = .ok (.ireturn, 1) := by decide +kernel
theorem dMd_weight_0 : decode cMd_weight 0 = .ok (.aload_n 0, 1) := by decide +kernel
theorem dMd_weight_1 : decode cMd_weight 1 = .ok (.iload_n 1, 1) := by decide +kernel
theorem dMd_weight_2 : decode cMd_weight 2 = .ok (.invokevirtual 77, 3) := by decide +kernel
theorem dMd_weight_5 : decode cMd_weight 5 = .ok (.ifCond .eq 21, 3) := by decide +kernel
theorem dMd_weight_8 : decode cMd_weight 8 = .ok (.iload_n 2, 1) := by decide +kernel
theorem dMd_weight_9 : decode cMd_weight 9 = .ok (.invokestatic 80, 3) := by decide +kernel
theorem dMd_weight_12 : decode cMd_weight 12 = .ok (.ifCond .eq 14, 3) := by decide +kernel
theorem dMd_weight_15 : decode cMd_weight 15 = .ok (.lload_n 3, 1) := by decide +kernel
theorem dMd_weight_16 : decode cMd_weight 16 = .ok (.lconst 0, 1) := by decide +kernel
theorem dMd_weight_17 : decode cMd_weight 17 = .ok (.ldc2_w 83, 3) := by decide +kernel
theorem dMd_weight_20 : decode cMd_weight 20 = .ok (.invokestatic 67, 3) := by decide +kernel
theorem dMd_weight_23 : decode cMd_weight 23 = .ok (.ifCond .ne 5, 3) := by decide +kernel
theorem dMd_weight_26 : decode cMd_weight 26 = .ok (.iconst 0, 1) := by decide +kernel
theorem dMd_weight_27 : decode cMd_weight 27 = .ok (.ireturn, 1) := by decide +kernel
theorem dMd_weight_28 : decode cMd_weight 28 = .ok (.aload_n 0, 1) := by decide +kernel
theorem dMd_weight_29 : decode cMd_weight 29 = .ok (.getfield 36, 3) := by decide +kernel
theorem dMd_weight_32 : decode cMd_weight 32 = .ok (.iconst 3, 1) := by decide +kernel
theorem dMd_weight_33 : decode cMd_weight 33 = .ok (.iload_n 1, 1) := by decide +kernel
theorem dMd_weight_34 : decode cMd_weight 34 = .ok (.imul, 1) := by decide +kernel
theorem dMd_weight_35 : decode cMd_weight 35 = .ok (.iload_n 2, 1) := by decide +kernel
theorem dMd_weight_36 : decode cMd_weight 36 = .ok (.iadd, 1) := by decide +kernel
theorem dMd_weight_37 : decode cMd_weight 37 = .ok (.lload_n 3, 1) := by decide +kernel
theorem dMd_weight_38 : decode cMd_weight 38 = .ok (.lastore, 1) := by decide +kernel
theorem dMd_weight_39 : decode cMd_weight 39 = .ok (.iconst 1, 1) := by decide +kernel
theorem dMd_weight_40 : decode cMd_weight 40 = .ok (.ireturn, 1) := by decide +kernel
theorem dMd_year_0 : decode cMd_year 0 = .ok (.aload_n 0, 1) := by decide +kernel
theorem dMd_year_1 : decode cMd_year 1 = .ok (.iload_n 1, 1) := by decide +kernel
theorem dMd_year_2 : decode cMd_year 2 = .ok (.invokevirtual 77, 3) := by decide +kernel
theorem dMd_year_5 : decode cMd_year 5 = .ok (.ifCond .eq 12, 3) := by decide +kernel
theorem dMd_year_8 : decode cMd_year 8 = .ok (.iload_n 2, 1) := by decide +kernel
theorem dMd_year_9 : decode cMd_year 9 = .ok (.ifCond .lt 8, 3) := by decide +kernel
theorem dMd_year_12 : decode cMd_year 12 = .ok (.iload_n 2, 1) := by decide +kernel
theorem dMd_year_13 : decode cMd_year 13 = .ok (.iconst 1, 1) := by decide +kernel
theorem dMd_year_14 : decode cMd_year 14 = .ok (.if_icmp .le 5, 3) := by decide +kernel
theorem dMd_year_17 : decode cMd_year 17 = .ok (.iconst 0, 1) := by decide +kernel
theorem dMd_year_18 : decode cMd_year 18 = .ok (.ireturn, 1) := by decide +kernel
theorem dMd_year_19 : decode cMd_year 19 = .ok (.aload_n 0, 1) := by decide +kernel
theorem dMd_year_20 : decode cMd_year 20 = .ok (.getfield 30, 3) := by decide +kernel
theorem dMd_year_23 : decode cMd_year 23 = .ok (.iload_n 1, 1) := by decide +kernel
theorem dMd_year_24 : decode cMd_year 24 = .ok (.iload_n 2, 1) := by decide +kernel
theorem dMd_year_25 : decode cMd_year 25 = .ok (.iastore, 1) := by decide +kernel
theorem dMd_year_26 : decode cMd_year 26 = .ok (.iconst 1, 1) := by decide +kernel
theorem dMd_year_27 : decode cMd_year 27 = .ok (.ireturn, 1) := by decide +kernel
theorem dMd_missing_0 : decode cMd_missing 0 = .ok (.aload_n 0, 1) := by decide +kernel
theorem dMd_missing_1 : decode cMd_missing 1 = .ok (.iload_n 1, 1) := by decide +kernel
theorem dMd_missing_2 : decode cMd_missing 2 = .ok (.invokevirtual 77, 3) := by decide +kernel
theorem dMd_missing_5 : decode cMd_missing 5 = .ok (.ifCond .eq 12, 3) := by decide +kernel
theorem dMd_missing_8 : decode cMd_missing 8 = .ok (.aload_n 0, 1) := by decide +kernel
theorem dMd_missing_9 : decode cMd_missing 9 = .ok (.getfield 33, 3) := by decide +kernel
theorem dMd_missing_12 : decode cMd_missing 12 = .ok (.iload_n 1, 1) := by decide +kernel
theorem dMd_missing_13 : decode cMd_missing 13 = .ok (.baload, 1) := by decide +kernel
theorem dMd_missing_14 : decode cMd_missing 14 = .ok (.ifCond .eq 5, 3) := by decide +kernel
theorem dMd_missing_17 : decode cMd_missing 17 = .ok (.iconst 0, 1) := by decide +kernel
theorem dMd_missing_18 : decode cMd_missing 18 = .ok (.ireturn, 1) := by decide +kernel
theorem dMd_missing_19 : decode cMd_missing 19 = .ok (.aload_n 0, 1) := by decide +kernel
theorem dMd_missing_20 : decode cMd_missing 20 = .ok (.getfield 33, 3) := by decide +kernel
theorem dMd_missing_23 : decode cMd_missing 23 = .ok (.iload_n 1, 1) := by decide +kernel
theorem dMd_missing_24 : decode cMd_missing 24 = .ok (.iconst 1, 1) := by decide +kernel
theorem dMd_missing_25 : decode cMd_missing 25 = .ok (.bastore, 1) := by decide +kernel
theorem dMd_missing_26 : decode cMd_missing 26 = .ok (.iconst 1, 1) := by decide +kernel
theorem dMd_missing_27 : decode cMd_missing 27 = .ok (.ireturn, 1) := by decide +kernel
theorem dMd_draw_0 : decode cMd_draw 0 = .ok (.aload_n 0, 1) := by decide +kernel
theorem dMd_draw_1 : decode cMd_draw 1 = .ok (.iload_n 1, 1) := by decide +kernel
theorem dMd_draw_2 : decode cMd_draw 2 = .ok (.invokevirtual 71, 3) := by decide +kernel
theorem dMd_draw_5 : decode cMd_draw 5 = .ok (.ifCond .eq 17, 3) := by decide +kernel
theorem dMd_draw_8 : decode cMd_draw 8 = .ok (.iload_n 2, 1) := by decide +kernel
theorem dMd_draw_9 : decode cMd_draw 9 = .ok (.ifCond .lt 13, 3) := by decide +kernel
theorem dMd_draw_12 : decode cMd_draw 12 = .ok (.iload_n 2, 1) := by decide +kernel
theorem dMd_draw_13 : decode cMd_draw 13 = .ok (.aload_n 0, 1) := by decide +kernel
theorem dMd_draw_14 : decode cMd_draw 14 = .ok (.getfield 7, 3) := by decide +kernel
theorem dMd_draw_17 : decode cMd_draw 17 = .ok (.iload_n 1, 1) := by decide +kernel
theorem dMd_draw_18 : decode cMd_draw 18 = .ok (.iaload, 1) := by decide +kernel
theorem dMd_draw_19 : decode cMd_draw 19 = .ok (.if_icmp .le 5, 3) := by decide +kernel
theorem dMd_draw_22 : decode cMd_draw 22 = .ok (.iconst (-1), 1) := by decide +kernel
theorem dMd_draw_23 : decode cMd_draw 23 = .ok (.ireturn, 1) := by decide +kernel
theorem dMd_draw_24 : decode cMd_draw 24 = .ok (.iconst 0, 1) := by decide +kernel
theorem dMd_draw_25 : decode cMd_draw 25 = .ok (.istore_n 3, 1) := by decide +kernel
theorem dMd_draw_26 : decode cMd_draw 26 = .ok (.iload_n 3, 1) := by decide +kernel
theorem dMd_draw_27 : decode cMd_draw 27 = .ok (.aload_n 0, 1) := by decide +kernel
theorem dMd_draw_28 : decode cMd_draw 28 = .ok (.getfield 7, 3) := by decide +kernel
theorem dMd_draw_31 : decode cMd_draw 31 = .ok (.iload_n 1, 1) := by decide +kernel
theorem dMd_draw_32 : decode cMd_draw 32 = .ok (.iaload, 1) := by decide +kernel
theorem dMd_draw_33 : decode cMd_draw 33 = .ok (.if_icmp .ge 21, 3) := by decide +kernel
theorem dMd_draw_36 : decode cMd_draw 36 = .ok (.aload_n 0, 1) := by decide +kernel
theorem dMd_draw_37 : decode cMd_draw 37 = .ok (.getfield 21, 3) := by decide +kernel
theorem dMd_draw_40 : decode cMd_draw 40 = .ok (.bipush 100, 2) := by decide +kernel
theorem dMd_draw_42 : decode cMd_draw 42 = .ok (.iload_n 1, 1) := by decide +kernel
theorem dMd_draw_43 : decode cMd_draw 43 = .ok (.imul, 1) := by decide +kernel
theorem dMd_draw_44 : decode cMd_draw 44 = .ok (.iload_n 3, 1) := by decide +kernel
theorem dMd_draw_45 : decode cMd_draw 45 = .ok (.iadd, 1) := by decide +kernel
theorem dMd_draw_46 : decode cMd_draw 46 = .ok (.iload_n 3, 1) := by decide +kernel
theorem dMd_draw_47 : decode cMd_draw 47 = .ok (.iastore, 1) := by decide +kernel
theorem dMd_draw_48 : decode cMd_draw 48 = .ok (.iinc 3 1, 3) := by decide +kernel
theorem dMd_draw_51 : decode cMd_draw 51 = .ok (.goto (-25), 3) := by decide +kernel
theorem dMd_draw_54 : decode cMd_draw 54 = .ok (.iconst 0, 1) := by decide +kernel
theorem dMd_draw_55 : decode cMd_draw 55 = .ok (.istore_n 3, 1) := by decide +kernel
theorem dMd_draw_56 : decode cMd_draw 56 = .ok (.iload_n 3, 1) := by decide +kernel
theorem dMd_draw_57 : decode cMd_draw 57 = .ok (.iload_n 2, 1) := by decide +kernel
theorem dMd_draw_58 : decode cMd_draw 58 = .ok (.if_icmp .ge 97, 3) := by decide +kernel
theorem dMd_draw_61 : decode cMd_draw 61 = .ok (.aload_n 0, 1) := by decide +kernel
theorem dMd_draw_62 : decode cMd_draw 62 = .ok (.aload_n 0, 1) := by decide +kernel
theorem dMd_draw_63 : decode cMd_draw 63 = .ok (.getfield 54, 3) := by decide +kernel
theorem dMd_draw_66 : decode cMd_draw 66 = .ok (.ldc2_w 85, 3) := by decide +kernel
theorem dMd_draw_69 : decode cMd_draw 69 = .ok (.lmul, 1) := by decide +kernel
theorem dMd_draw_70 : decode cMd_draw 70 = .ok (.ldc2_w 87, 3) := by decide +kernel
theorem dMd_draw_73 : decode cMd_draw 73 = .ok (.ladd, 1) := by decide +kernel
theorem dMd_draw_74 : decode cMd_draw 74 = .ok (.putfield 54, 3) := by decide +kernel
theorem dMd_draw_77 : decode cMd_draw 77 = .ok (.iload_n 3, 1) := by decide +kernel
theorem dMd_draw_78 : decode cMd_draw 78 = .ok (.aload_n 0, 1) := by decide +kernel
theorem dMd_draw_79 : decode cMd_draw 79 = .ok (.getfield 54, 3) := by decide +kernel
theorem dMd_draw_82 : decode cMd_draw 82 = .ok (.bipush 33, 2) := by decide +kernel
theorem dMd_draw_84 : decode cMd_draw 84 = .ok (.lushr, 1) := by decide +kernel
theorem dMd_draw_85 : decode cMd_draw 85 = .ok (.aload_n 0, 1) := by decide +kernel
theorem dMd_draw_86 : decode cMd_draw 86 = .ok (.getfield 7, 3) := by decide +kernel
theorem dMd_draw_89 : decode cMd_draw 89 = .ok (.iload_n 1, 1) := by decide +kernel
theorem dMd_draw_90 : decode cMd_draw 90 = .ok (.iaload, 1) := by decide +kernel
theorem dMd_draw_91 : decode cMd_draw 91 = .ok (.iload_n 3, 1) := by decide +kernel
theorem dMd_draw_92 : decode cMd_draw 92 = .ok (.isub, 1) := by decide +kernel
theorem dMd_draw_93 : decode cMd_draw 93 = .ok (.i2l, 1) := by decide +kernel
theorem dMd_draw_94 : decode cMd_draw 94 = .ok (.lrem, 1) := by decide +kernel
theorem dMd_draw_95 : decode cMd_draw 95 = .ok (.l2i, 1) := by decide +kernel
theorem dMd_draw_96 : decode cMd_draw 96 = .ok (.iadd, 1) := by decide +kernel
theorem dMd_draw_97 : decode cMd_draw 97 = .ok (.istore 4, 2) := by decide +kernel
theorem dMd_draw_99 : decode cMd_draw 99 = .ok (.aload_n 0, 1) := by decide +kernel
theorem dMd_draw_100 : decode cMd_draw 100 = .ok (.getfield 21, 3) := by decide +kernel
theorem dMd_draw_103 : decode cMd_draw 103 = .ok (.bipush 100, 2) := by decide +kernel
theorem dMd_draw_105 : decode cMd_draw 105 = .ok (.iload_n 1, 1) := by decide +kernel
theorem dMd_draw_106 : decode cMd_draw 106 = .ok (.imul, 1) := by decide +kernel
theorem dMd_draw_107 : decode cMd_draw 107 = .ok (.iload 4, 2) := by decide +kernel
theorem dMd_draw_109 : decode cMd_draw 109 = .ok (.iadd, 1) := by decide +kernel
theorem dMd_draw_110 : decode cMd_draw 110 = .ok (.iaload, 1) := by decide +kernel
theorem dMd_draw_111 : decode cMd_draw 111 = .ok (.istore 5, 2) := by decide +kernel
theorem dMd_draw_113 : decode cMd_draw 113 = .ok (.aload_n 0, 1) := by decide +kernel
theorem dMd_draw_114 : decode cMd_draw 114 = .ok (.getfield 21, 3) := by decide +kernel
theorem dMd_draw_117 : decode cMd_draw 117 = .ok (.bipush 100, 2) := by decide +kernel
theorem dMd_draw_119 : decode cMd_draw 119 = .ok (.iload_n 1, 1) := by decide +kernel
theorem dMd_draw_120 : decode cMd_draw 120 = .ok (.imul, 1) := by decide +kernel
theorem dMd_draw_121 : decode cMd_draw 121 = .ok (.iload 4, 2) := by decide +kernel
theorem dMd_draw_123 : decode cMd_draw 123 = .ok (.iadd, 1) := by decide +kernel
theorem dMd_draw_124 : decode cMd_draw 124 = .ok (.aload_n 0, 1) := by decide +kernel
theorem dMd_draw_125 : decode cMd_draw 125 = .ok (.getfield 21, 3) := by decide +kernel
theorem dMd_draw_128 : decode cMd_draw 128 = .ok (.bipush 100, 2) := by decide +kernel
theorem dMd_draw_130 : decode cMd_draw 130 = .ok (.iload_n 1, 1) := by decide +kernel
theorem dMd_draw_131 : decode cMd_draw 131 = .ok (.imul, 1) := by decide +kernel
theorem dMd_draw_132 : decode cMd_draw 132 = .ok (.iload_n 3, 1) := by decide +kernel
theorem dMd_draw_133 : decode cMd_draw 133 = .ok (.iadd, 1) := by decide +kernel
theorem dMd_draw_134 : decode cMd_draw 134 = .ok (.iaload, 1) := by decide +kernel
theorem dMd_draw_135 : decode cMd_draw 135 = .ok (.iastore, 1) := by decide +kernel
theorem dMd_draw_136 : decode cMd_draw 136 = .ok (.aload_n 0, 1) := by decide +kernel
theorem dMd_draw_137 : decode cMd_draw 137 = .ok (.getfield 21, 3) := by decide +kernel
theorem dMd_draw_140 : decode cMd_draw 140 = .ok (.bipush 100, 2) := by decide +kernel
theorem dMd_draw_142 : decode cMd_draw 142 = .ok (.iload_n 1, 1) := by decide +kernel
theorem dMd_draw_143 : decode cMd_draw 143 = .ok (.imul, 1) := by decide +kernel
theorem dMd_draw_144 : decode cMd_draw 144 = .ok (.iload_n 3, 1) := by decide +kernel
theorem dMd_draw_145 : decode cMd_draw 145 = .ok (.iadd, 1) := by decide +kernel
theorem dMd_draw_146 : decode cMd_draw 146 = .ok (.iload 5, 2) := by decide +kernel
theorem dMd_draw_148 : decode cMd_draw 148 = .ok (.iastore, 1) := by decide +kernel
theorem dMd_draw_149 : decode cMd_draw 149 = .ok (.iinc 3 1, 3) := by decide +kernel
theorem dMd_draw_152 : decode cMd_draw 152 = .ok (.goto (-96), 3) := by decide +kernel
theorem dMd_draw_155 : decode cMd_draw 155 = .ok (.aload_n 0, 1) := by decide +kernel
theorem dMd_draw_156 : decode cMd_draw 156 = .ok (.getfield 24, 3) := by decide +kernel
theorem dMd_draw_159 : decode cMd_draw 159 = .ok (.iload_n 1, 1) := by decide +kernel
theorem dMd_draw_160 : decode cMd_draw 160 = .ok (.iload_n 2, 1) := by decide +kernel
theorem dMd_draw_161 : decode cMd_draw 161 = .ok (.iastore, 1) := by decide +kernel
theorem dMd_draw_162 : decode cMd_draw 162 = .ok (.iload_n 2, 1) := by decide +kernel
theorem dMd_draw_163 : decode cMd_draw 163 = .ok (.ireturn, 1) := by decide +kernel
theorem dMd_drawn_0 : decode cMd_drawn 0 = .ok (.iload_n 1, 1) := by decide +kernel
theorem dMd_drawn_1 : decode cMd_drawn 1 = .ok (.ifCond .lt 39, 3) := by decide +kernel
theorem dMd_drawn_4 : decode cMd_drawn 4 = .ok (.iload_n 1, 1) := by decide +kernel
theorem dMd_drawn_5 : decode cMd_drawn 5 = .ok (.aload_n 0, 1) := by decide +kernel
theorem dMd_drawn_6 : decode cMd_drawn 6 = .ok (.getfield 58, 3) := by decide +kernel
theorem dMd_drawn_9 : decode cMd_drawn 9 = .ok (.if_icmp .ge 31, 3) := by decide +kernel
theorem dMd_drawn_12 : decode cMd_drawn 12 = .ok (.iload_n 2, 1) := by decide +kernel
theorem dMd_drawn_13 : decode cMd_drawn 13 = .ok (.ifCond .lt 27, 3) := by decide +kernel
theorem dMd_drawn_16 : decode cMd_drawn 16 = .ok (.iload_n 2, 1) := by decide +kernel
theorem dMd_drawn_17 : decode cMd_drawn 17 = .ok (.aload_n 0, 1) := by decide +kernel
theorem dMd_drawn_18 : decode cMd_drawn 18 = .ok (.getfield 24, 3) := by decide +kernel
theorem dMd_drawn_21 : decode cMd_drawn 21 = .ok (.iload_n 1, 1) := by decide +kernel
theorem dMd_drawn_22 : decode cMd_drawn 22 = .ok (.iaload, 1) := by decide +kernel
theorem dMd_drawn_23 : decode cMd_drawn 23 = .ok (.if_icmp .ge 17, 3) := by decide +kernel
theorem dMd_drawn_26 : decode cMd_drawn 26 = .ok (.aload_n 0, 1) := by decide +kernel
theorem dMd_drawn_27 : decode cMd_drawn 27 = .ok (.getfield 21, 3) := by decide +kernel
theorem dMd_drawn_30 : decode cMd_drawn 30 = .ok (.bipush 100, 2) := by decide +kernel
theorem dMd_drawn_32 : decode cMd_drawn 32 = .ok (.iload_n 1, 1) := by decide +kernel
theorem dMd_drawn_33 : decode cMd_drawn 33 = .ok (.imul, 1) := by decide +kernel
theorem dMd_drawn_34 : decode cMd_drawn 34 = .ok (.iload_n 2, 1) := by decide +kernel
theorem dMd_drawn_35 : decode cMd_drawn 35 = .ok (.iadd, 1) := by decide +kernel
theorem dMd_drawn_36 : decode cMd_drawn 36 = .ok (.iaload, 1) := by decide +kernel
theorem dMd_drawn_37 : decode cMd_drawn 37 = .ok (.goto 4, 3) := by decide +kernel
theorem dMd_drawn_40 : decode cMd_drawn 40 = .ok (.iconst (-1), 1) := by decide +kernel
theorem dMd_drawn_41 : decode cMd_drawn 41 = .ok (.ireturn, 1) := by decide +kernel
theorem dMd_countOf_0 : decode cMd_countOf 0 = .ok (.iconst 0, 1) := by decide +kernel
theorem dMd_countOf_1 : decode cMd_countOf 1 = .ok (.istore_n 2, 1) := by decide +kernel
theorem dMd_countOf_2 : decode cMd_countOf 2 = .ok (.iconst 0, 1) := by decide +kernel
theorem dMd_countOf_3 : decode cMd_countOf 3 = .ok (.istore_n 3, 1) := by decide +kernel
theorem dMd_countOf_4 : decode cMd_countOf 4 = .ok (.iload_n 3, 1) := by decide +kernel
theorem dMd_countOf_5 : decode cMd_countOf 5 = .ok (.aload_n 0, 1) := by decide +kernel
theorem dMd_countOf_6 : decode cMd_countOf 6 = .ok (.getfield 62, 3) := by decide +kernel
theorem dMd_countOf_9 : decode cMd_countOf 9 = .ok (.if_icmp .ge 36, 3) := by decide +kernel
theorem dMd_countOf_12 : decode cMd_countOf 12 = .ok (.iload_n 2, 1) := by decide +kernel
theorem dMd_countOf_13 : decode cMd_countOf 13 = .ok (.aload_n 0, 1) := by decide +kernel
theorem dMd_countOf_14 : decode cMd_countOf 14 = .ok (.getfield 27, 3) := by decide +kernel
theorem dMd_countOf_17 : decode cMd_countOf 17 = .ok (.iload_n 3, 1) := by decide +kernel
theorem dMd_countOf_18 : decode cMd_countOf 18 = .ok (.iaload, 1) := by decide +kernel
theorem dMd_countOf_19 : decode cMd_countOf 19 = .ok (.iload_n 1, 1) := by decide +kernel
theorem dMd_countOf_20 : decode cMd_countOf 20 = .ok (.if_icmp .ne 16, 3) := by decide +kernel
theorem dMd_countOf_23 : decode cMd_countOf 23 = .ok (.aload_n 0, 1) := by decide +kernel
theorem dMd_countOf_24 : decode cMd_countOf 24 = .ok (.getfield 33, 3) := by decide +kernel
theorem dMd_countOf_27 : decode cMd_countOf 27 = .ok (.iload_n 3, 1) := by decide +kernel
theorem dMd_countOf_28 : decode cMd_countOf 28 = .ok (.baload, 1) := by decide +kernel
theorem dMd_countOf_29 : decode cMd_countOf 29 = .ok (.ifCond .ne 7, 3) := by decide +kernel
theorem dMd_countOf_32 : decode cMd_countOf 32 = .ok (.iconst 1, 1) := by decide +kernel
theorem dMd_countOf_33 : decode cMd_countOf 33 = .ok (.goto 4, 3) := by decide +kernel
theorem dMd_countOf_36 : decode cMd_countOf 36 = .ok (.iconst 0, 1) := by decide +kernel
theorem dMd_countOf_37 : decode cMd_countOf 37 = .ok (.iadd, 1) := by decide +kernel
theorem dMd_countOf_38 : decode cMd_countOf 38 = .ok (.istore_n 2, 1) := by decide +kernel
theorem dMd_countOf_39 : decode cMd_countOf 39 = .ok (.iinc 3 1, 3) := by decide +kernel
theorem dMd_countOf_42 : decode cMd_countOf 42 = .ok (.goto (-38), 3) := by decide +kernel
theorem dMd_countOf_45 : decode cMd_countOf 45 = .ok (.iload_n 2, 1) := by decide +kernel
theorem dMd_countOf_46 : decode cMd_countOf 46 = .ok (.ireturn, 1) := by decide +kernel
theorem dMd_counts_0 : decode cMd_counts 0 = .ok (.aload_n 0, 1) := by decide +kernel
theorem dMd_counts_1 : decode cMd_counts 1 = .ok (.iload_n 1, 1) := by decide +kernel
theorem dMd_counts_2 : decode cMd_counts 2 = .ok (.invokevirtual 71, 3) := by decide +kernel
theorem dMd_counts_5 : decode cMd_counts 5 = .ok (.ifCond .eq 15, 3) := by decide +kernel
theorem dMd_counts_8 : decode cMd_counts 8 = .ok (.aload_n 0, 1) := by decide +kernel
theorem dMd_counts_9 : decode cMd_counts 9 = .ok (.iload_n 1, 1) := by decide +kernel
theorem dMd_counts_10 : decode cMd_counts 10 = .ok (.invokevirtual 89, 3) := by decide +kernel
theorem dMd_counts_13 : decode cMd_counts 13 = .ok (.ifCond .le 7, 3) := by decide +kernel
theorem dMd_counts_16 : decode cMd_counts 16 = .ok (.iconst 1, 1) := by decide +kernel
theorem dMd_counts_17 : decode cMd_counts 17 = .ok (.goto 4, 3) := by decide +kernel
theorem dMd_counts_20 : decode cMd_counts 20 = .ok (.iconst 0, 1) := by decide +kernel
theorem dMd_counts_21 : decode cMd_counts 21 = .ok (.ireturn, 1) := by decide +kernel
theorem dMd_sumOf_0 : decode cMd_sumOf 0 = .ok (.lconst 0, 1) := by decide +kernel
theorem dMd_sumOf_1 : decode cMd_sumOf 1 = .ok (.lstore_n 3, 1) := by decide +kernel
theorem dMd_sumOf_2 : decode cMd_sumOf 2 = .ok (.iconst 0, 1) := by decide +kernel
theorem dMd_sumOf_3 : decode cMd_sumOf 3 = .ok (.istore 5, 2) := by decide +kernel
theorem dMd_sumOf_5 : decode cMd_sumOf 5 = .ok (.iload 5, 2) := by decide +kernel
theorem dMd_sumOf_7 : decode cMd_sumOf 7 = .ok (.aload_n 0, 1) := by decide +kernel
theorem dMd_sumOf_8 : decode cMd_sumOf 8 = .ok (.getfield 62, 3) := by decide +kernel
theorem dMd_sumOf_11 : decode cMd_sumOf 11 = .ok (.if_icmp .ge 48, 3) := by decide +kernel
theorem dMd_sumOf_14 : decode cMd_sumOf 14 = .ok (.lload_n 3, 1) := by decide +kernel
theorem dMd_sumOf_15 : decode cMd_sumOf 15 = .ok (.aload_n 0, 1) := by decide +kernel
theorem dMd_sumOf_16 : decode cMd_sumOf 16 = .ok (.getfield 27, 3) := by decide +kernel
theorem dMd_sumOf_19 : decode cMd_sumOf 19 = .ok (.iload 5, 2) := by decide +kernel
theorem dMd_sumOf_21 : decode cMd_sumOf 21 = .ok (.iaload, 1) := by decide +kernel
theorem dMd_sumOf_22 : decode cMd_sumOf 22 = .ok (.iload_n 1, 1) := by decide +kernel
theorem dMd_sumOf_23 : decode cMd_sumOf 23 = .ok (.if_icmp .ne 27, 3) := by decide +kernel
theorem dMd_sumOf_26 : decode cMd_sumOf 26 = .ok (.aload_n 0, 1) := by decide +kernel
theorem dMd_sumOf_27 : decode cMd_sumOf 27 = .ok (.getfield 33, 3) := by decide +kernel
theorem dMd_sumOf_30 : decode cMd_sumOf 30 = .ok (.iload 5, 2) := by decide +kernel
theorem dMd_sumOf_32 : decode cMd_sumOf 32 = .ok (.baload, 1) := by decide +kernel
theorem dMd_sumOf_33 : decode cMd_sumOf 33 = .ok (.ifCond .ne 17, 3) := by decide +kernel
theorem dMd_sumOf_36 : decode cMd_sumOf 36 = .ok (.aload_n 0, 1) := by decide +kernel
theorem dMd_sumOf_37 : decode cMd_sumOf 37 = .ok (.getfield 36, 3) := by decide +kernel
theorem dMd_sumOf_40 : decode cMd_sumOf 40 = .ok (.iconst 3, 1) := by decide +kernel
theorem dMd_sumOf_41 : decode cMd_sumOf 41 = .ok (.iload 5, 2) := by decide +kernel
theorem dMd_sumOf_43 : decode cMd_sumOf 43 = .ok (.imul, 1) := by decide +kernel
theorem dMd_sumOf_44 : decode cMd_sumOf 44 = .ok (.iload_n 2, 1) := by decide +kernel
theorem dMd_sumOf_45 : decode cMd_sumOf 45 = .ok (.iadd, 1) := by decide +kernel
theorem dMd_sumOf_46 : decode cMd_sumOf 46 = .ok (.laload, 1) := by decide +kernel
theorem dMd_sumOf_47 : decode cMd_sumOf 47 = .ok (.goto 4, 3) := by decide +kernel
theorem dMd_sumOf_50 : decode cMd_sumOf 50 = .ok (.lconst 0, 1) := by decide +kernel
theorem dMd_sumOf_51 : decode cMd_sumOf 51 = .ok (.ladd, 1) := by decide +kernel
theorem dMd_sumOf_52 : decode cMd_sumOf 52 = .ok (.lstore_n 3, 1) := by decide +kernel
theorem dMd_sumOf_53 : decode cMd_sumOf 53 = .ok (.iinc 5 1, 3) := by decide +kernel
theorem dMd_sumOf_56 : decode cMd_sumOf 56 = .ok (.goto (-51), 3) := by decide +kernel
theorem dMd_sumOf_59 : decode cMd_sumOf 59 = .ok (.lload_n 3, 1) := by decide +kernel
theorem dMd_sumOf_60 : decode cMd_sumOf 60 = .ok (.lreturn, 1) := by decide +kernel
theorem dMd_squaresOf_0 : decode cMd_squaresOf 0 = .ok (.lconst 0, 1) := by decide +kernel
theorem dMd_squaresOf_1 : decode cMd_squaresOf 1 = .ok (.lstore_n 3, 1) := by decide +kernel
theorem dMd_squaresOf_2 : decode cMd_squaresOf 2 = .ok (.iconst 0, 1) := by decide +kernel
theorem dMd_squaresOf_3 : decode cMd_squaresOf 3 = .ok (.istore 5, 2) := by decide +kernel
theorem dMd_squaresOf_5 : decode cMd_squaresOf 5 = .ok (.iload 5, 2) := by decide +kernel
theorem dMd_squaresOf_7 : decode cMd_squaresOf 7 = .ok (.aload_n 0, 1) := by decide +kernel
theorem dMd_squaresOf_8 : decode cMd_squaresOf 8 = .ok (.getfield 62, 3) := by decide +kernel
theorem dMd_squaresOf_11 : decode cMd_squaresOf 11 = .ok (.if_icmp .ge 55, 3) := by decide +kernel
theorem dMd_squaresOf_14 : decode cMd_squaresOf 14 = .ok (.aload_n 0, 1) := by decide +kernel
theorem dMd_squaresOf_15 : decode cMd_squaresOf 15 = .ok (.getfield 36, 3) := by decide +kernel
theorem dMd_squaresOf_18 : decode cMd_squaresOf 18 = .ok (.iconst 3, 1) := by decide +kernel
theorem dMd_squaresOf_19 : decode cMd_squaresOf 19 = .ok (.iload 5, 2) := by decide +kernel
theorem dMd_squaresOf_21 : decode cMd_squaresOf 21 = .ok (.imul, 1) := by decide +kernel
theorem dMd_squaresOf_22 : decode cMd_squaresOf 22 = .ok (.iload_n 2, 1) := by decide +kernel
theorem dMd_squaresOf_23 : decode cMd_squaresOf 23 = .ok (.iadd, 1) := by decide +kernel
theorem dMd_squaresOf_24 : decode cMd_squaresOf 24 = .ok (.laload, 1) := by decide +kernel
theorem dMd_squaresOf_25 : decode cMd_squaresOf 25 = .ok (.lstore 6, 2) := by decide +kernel
theorem dMd_squaresOf_27 : decode cMd_squaresOf 27 = .ok (.lload_n 3, 1) := by decide +kernel
theorem dMd_squaresOf_28 : decode cMd_squaresOf 28 = .ok (.aload_n 0, 1) := by decide +kernel
theorem dMd_squaresOf_29 : decode cMd_squaresOf 29 = .ok (.getfield 27, 3) := by decide +kernel
theorem dMd_squaresOf_32 : decode cMd_squaresOf 32 = .ok (.iload 5, 2) := by decide +kernel
theorem dMd_squaresOf_34 : decode cMd_squaresOf 34 = .ok (.iaload, 1) := by decide +kernel
theorem dMd_squaresOf_35 : decode cMd_squaresOf 35 = .ok (.iload_n 1, 1) := by decide +kernel
theorem dMd_squaresOf_36 : decode cMd_squaresOf 36 = .ok (.if_icmp .ne 21, 3) := by decide +kernel
theorem dMd_squaresOf_39 : decode cMd_squaresOf 39 = .ok (.aload_n 0, 1) := by decide +kernel
theorem dMd_squaresOf_40 : decode cMd_squaresOf 40 = .ok (.getfield 33, 3) := by decide +kernel
theorem dMd_squaresOf_43 : decode cMd_squaresOf 43 = .ok (.iload 5, 2) := by decide +kernel
theorem dMd_squaresOf_45 : decode cMd_squaresOf 45 = .ok (.baload, 1) := by decide +kernel
theorem dMd_squaresOf_46 : decode cMd_squaresOf 46 = .ok (.ifCond .ne 11, 3) := by decide +kernel
theorem dMd_squaresOf_49 : decode cMd_squaresOf 49 = .ok (.lload 6, 2) := by decide +kernel
theorem dMd_squaresOf_51 : decode cMd_squaresOf 51 = .ok (.lload 6, 2) := by decide +kernel
theorem dMd_squaresOf_53 : decode cMd_squaresOf 53 = .ok (.lmul, 1) := by decide +kernel
theorem dMd_squaresOf_54 : decode cMd_squaresOf 54 = .ok (.goto 4, 3) := by decide +kernel
theorem dMd_squaresOf_57 : decode cMd_squaresOf 57 = .ok (.lconst 0, 1) := by decide +kernel
theorem dMd_squaresOf_58 : decode cMd_squaresOf 58 = .ok (.ladd, 1) := by decide +kernel
theorem dMd_squaresOf_59 : decode cMd_squaresOf 59 = .ok (.lstore_n 3, 1) := by decide +kernel
theorem dMd_squaresOf_60 : decode cMd_squaresOf 60 = .ok (.iinc 5 1, 3) := by decide +kernel
theorem dMd_squaresOf_63 : decode cMd_squaresOf 63 = .ok (.goto (-58), 3) := by decide +kernel
theorem dMd_squaresOf_66 : decode cMd_squaresOf 66 = .ok (.lload_n 3, 1) := by decide +kernel
theorem dMd_squaresOf_67 : decode cMd_squaresOf 67 = .ok (.lreturn, 1) := by decide +kernel
theorem dMd_counting_0 : decode cMd_counting 0 = .ok (.iconst 0, 1) := by decide +kernel
theorem dMd_counting_1 : decode cMd_counting 1 = .ok (.istore_n 1, 1) := by decide +kernel
theorem dMd_counting_2 : decode cMd_counting 2 = .ok (.iconst 0, 1) := by decide +kernel
theorem dMd_counting_3 : decode cMd_counting 3 = .ok (.istore_n 2, 1) := by decide +kernel
theorem dMd_counting_4 : decode cMd_counting 4 = .ok (.iload_n 2, 1) := by decide +kernel
theorem dMd_counting_5 : decode cMd_counting 5 = .ok (.aload_n 0, 1) := by decide +kernel
theorem dMd_counting_6 : decode cMd_counting 6 = .ok (.getfield 58, 3) := by decide +kernel
theorem dMd_counting_9 : decode cMd_counting 9 = .ok (.if_icmp .ge 25, 3) := by decide +kernel
theorem dMd_counting_12 : decode cMd_counting 12 = .ok (.iload_n 1, 1) := by decide +kernel
theorem dMd_counting_13 : decode cMd_counting 13 = .ok (.aload_n 0, 1) := by decide +kernel
theorem dMd_counting_14 : decode cMd_counting 14 = .ok (.iload_n 2, 1) := by decide +kernel
theorem dMd_counting_15 : decode cMd_counting 15 = .ok (.invokevirtual 93, 3) := by decide +kernel
theorem dMd_counting_18 : decode cMd_counting 18 = .ok (.ifCond .eq 7, 3) := by decide +kernel
theorem dMd_counting_21 : decode cMd_counting 21 = .ok (.iconst 1, 1) := by decide +kernel
theorem dMd_counting_22 : decode cMd_counting 22 = .ok (.goto 4, 3) := by decide +kernel
theorem dMd_counting_25 : decode cMd_counting 25 = .ok (.iconst 0, 1) := by decide +kernel
theorem dMd_counting_26 : decode cMd_counting 26 = .ok (.iadd, 1) := by decide +kernel
theorem dMd_counting_27 : decode cMd_counting 27 = .ok (.istore_n 1, 1) := by decide +kernel
theorem dMd_counting_28 : decode cMd_counting 28 = .ok (.iinc 2 1, 3) := by decide +kernel
theorem dMd_counting_31 : decode cMd_counting 31 = .ok (.goto (-27), 3) := by decide +kernel
theorem dMd_counting_34 : decode cMd_counting 34 = .ok (.iload_n 1, 1) := by decide +kernel
theorem dMd_counting_35 : decode cMd_counting 35 = .ok (.ireturn, 1) := by decide +kernel
theorem dMd_allSizes_0 : decode cMd_allSizes 0 = .ok (.lconst 0, 1) := by decide +kernel
theorem dMd_allSizes_1 : decode cMd_allSizes 1 = .ok (.lstore_n 1, 1) := by decide +kernel
theorem dMd_allSizes_2 : decode cMd_allSizes 2 = .ok (.iconst 0, 1) := by decide +kernel
theorem dMd_allSizes_3 : decode cMd_allSizes 3 = .ok (.istore_n 3, 1) := by decide +kernel
theorem dMd_allSizes_4 : decode cMd_allSizes 4 = .ok (.iload_n 3, 1) := by decide +kernel
theorem dMd_allSizes_5 : decode cMd_allSizes 5 = .ok (.aload_n 0, 1) := by decide +kernel
theorem dMd_allSizes_6 : decode cMd_allSizes 6 = .ok (.getfield 58, 3) := by decide +kernel
theorem dMd_allSizes_9 : decode cMd_allSizes 9 = .ok (.if_icmp .ge 31, 3) := by decide +kernel
theorem dMd_allSizes_12 : decode cMd_allSizes 12 = .ok (.lload_n 1, 1) := by decide +kernel
theorem dMd_allSizes_13 : decode cMd_allSizes 13 = .ok (.aload_n 0, 1) := by decide +kernel
theorem dMd_allSizes_14 : decode cMd_allSizes 14 = .ok (.iload_n 3, 1) := by decide +kernel
theorem dMd_allSizes_15 : decode cMd_allSizes 15 = .ok (.invokevirtual 93, 3) := by decide +kernel
theorem dMd_allSizes_18 : decode cMd_allSizes 18 = .ok (.ifCond .eq 13, 3) := by decide +kernel
theorem dMd_allSizes_21 : decode cMd_allSizes 21 = .ok (.aload_n 0, 1) := by decide +kernel
theorem dMd_allSizes_22 : decode cMd_allSizes 22 = .ok (.getfield 7, 3) := by decide +kernel
theorem dMd_allSizes_25 : decode cMd_allSizes 25 = .ok (.iload_n 3, 1) := by decide +kernel
theorem dMd_allSizes_26 : decode cMd_allSizes 26 = .ok (.iaload, 1) := by decide +kernel
theorem dMd_allSizes_27 : decode cMd_allSizes 27 = .ok (.i2l, 1) := by decide +kernel
theorem dMd_allSizes_28 : decode cMd_allSizes 28 = .ok (.goto 4, 3) := by decide +kernel
theorem dMd_allSizes_31 : decode cMd_allSizes 31 = .ok (.lconst 0, 1) := by decide +kernel
theorem dMd_allSizes_32 : decode cMd_allSizes 32 = .ok (.ladd, 1) := by decide +kernel
theorem dMd_allSizes_33 : decode cMd_allSizes 33 = .ok (.lstore_n 1, 1) := by decide +kernel
theorem dMd_allSizes_34 : decode cMd_allSizes 34 = .ok (.iinc 3 1, 3) := by decide +kernel
theorem dMd_allSizes_37 : decode cMd_allSizes 37 = .ok (.goto (-33), 3) := by decide +kernel
theorem dMd_allSizes_40 : decode cMd_allSizes 40 = .ok (.lload_n 1, 1) := by decide +kernel
theorem dMd_allSizes_41 : decode cMd_allSizes 41 = .ok (.lreturn, 1) := by decide +kernel
theorem dMd_common_0 : decode cMd_common 0 = .ok (.lload_n 0, 1) := by decide +kernel
theorem dMd_common_1 : decode cMd_common 1 = .ok (.lstore 4, 2) := by decide +kernel
theorem dMd_common_3 : decode cMd_common 3 = .ok (.lload_n 2, 1) := by decide +kernel
theorem dMd_common_4 : decode cMd_common 4 = .ok (.lstore 6, 2) := by decide +kernel
theorem dMd_common_6 : decode cMd_common 6 = .ok (.lload 4, 2) := by decide +kernel
theorem dMd_common_8 : decode cMd_common 8 = .ok (.lconst 0, 1) := by decide +kernel
theorem dMd_common_9 : decode cMd_common 9 = .ok (.lcmp, 1) := by decide +kernel
theorem dMd_common_10 : decode cMd_common 10 = .ok (.ifCond .eq 21, 3) := by decide +kernel
theorem dMd_common_13 : decode cMd_common 13 = .ok (.lload 6, 2) := by decide +kernel
theorem dMd_common_15 : decode cMd_common 15 = .ok (.lload 4, 2) := by decide +kernel
theorem dMd_common_17 : decode cMd_common 17 = .ok (.lrem, 1) := by decide +kernel
theorem dMd_common_18 : decode cMd_common 18 = .ok (.lstore 8, 2) := by decide +kernel
theorem dMd_common_20 : decode cMd_common 20 = .ok (.lload 4, 2) := by decide +kernel
theorem dMd_common_22 : decode cMd_common 22 = .ok (.lstore 6, 2) := by decide +kernel
theorem dMd_common_24 : decode cMd_common 24 = .ok (.lload 8, 2) := by decide +kernel
theorem dMd_common_26 : decode cMd_common 26 = .ok (.lstore 4, 2) := by decide +kernel
theorem dMd_common_28 : decode cMd_common 28 = .ok (.goto (-22), 3) := by decide +kernel
theorem dMd_common_31 : decode cMd_common 31 = .ok (.lload 6, 2) := by decide +kernel
theorem dMd_common_33 : decode cMd_common 33 = .ok (.lreturn, 1) := by decide +kernel
theorem dMd_multiple_0 : decode cMd_multiple 0 = .ok (.lload_n 0, 1) := by decide +kernel
theorem dMd_multiple_1 : decode cMd_multiple 1 = .ok (.lload_n 0, 1) := by decide +kernel
theorem dMd_multiple_2 : decode cMd_multiple 2 = .ok (.lload_n 2, 1) := by decide +kernel
theorem dMd_multiple_3 : decode cMd_multiple 3 = .ok (.invokestatic 96, 3) := by decide +kernel
theorem dMd_multiple_6 : decode cMd_multiple 6 = .ok (.ldiv, 1) := by decide +kernel
theorem dMd_multiple_7 : decode cMd_multiple 7 = .ok (.lload_n 2, 1) := by decide +kernel
theorem dMd_multiple_8 : decode cMd_multiple 8 = .ok (.lmul, 1) := by decide +kernel
theorem dMd_multiple_9 : decode cMd_multiple 9 = .ok (.lreturn, 1) := by decide +kernel
theorem dMd_part_0 : decode cMd_part 0 = .ok (.aload_n 0, 1) := by decide +kernel
theorem dMd_part_1 : decode cMd_part 1 = .ok (.getfield 100, 3) := by decide +kernel
theorem dMd_part_4 : decode cMd_part 4 = .ok (.aload_n 0, 1) := by decide +kernel
theorem dMd_part_5 : decode cMd_part 5 = .ok (.getfield 103, 3) := by decide +kernel
theorem dMd_part_8 : decode cMd_part 8 = .ok (.invokestatic 96, 3) := by decide +kernel
theorem dMd_part_11 : decode cMd_part 11 = .ok (.lstore_n 2, 1) := by decide +kernel
theorem dMd_part_12 : decode cMd_part 12 = .ok (.iload_n 1, 1) := by decide +kernel
theorem dMd_part_13 : decode cMd_part 13 = .ok (.ifCond .ne 12, 3) := by decide +kernel
theorem dMd_part_16 : decode cMd_part 16 = .ok (.aload_n 0, 1) := by decide +kernel
theorem dMd_part_17 : decode cMd_part 17 = .ok (.getfield 100, 3) := by decide +kernel
theorem dMd_part_20 : decode cMd_part 20 = .ok (.lload_n 2, 1) := by decide +kernel
theorem dMd_part_21 : decode cMd_part 21 = .ok (.ldiv, 1) := by decide +kernel
theorem dMd_part_22 : decode cMd_part 22 = .ok (.goto 9, 3) := by decide +kernel
theorem dMd_part_25 : decode cMd_part 25 = .ok (.aload_n 0, 1) := by decide +kernel
theorem dMd_part_26 : decode cMd_part 26 = .ok (.getfield 103, 3) := by decide +kernel
theorem dMd_part_29 : decode cMd_part 29 = .ok (.lload_n 2, 1) := by decide +kernel
theorem dMd_part_30 : decode cMd_part 30 = .ok (.ldiv, 1) := by decide +kernel
theorem dMd_part_31 : decode cMd_part 31 = .ok (.lreturn, 1) := by decide +kernel
theorem dMd_mean_0 : decode cMd_mean 0 = .ok (.iload_n 1, 1) := by decide +kernel
theorem dMd_mean_1 : decode cMd_mean 1 = .ok (.invokestatic 80, 3) := by decide +kernel
theorem dMd_mean_4 : decode cMd_mean 4 = .ok (.ifCond .eq 19, 3) := by decide +kernel
theorem dMd_mean_7 : decode cMd_mean 7 = .ok (.iload_n 2, 1) := by decide +kernel
theorem dMd_mean_8 : decode cMd_mean 8 = .ok (.ifCond .lt 15, 3) := by decide +kernel
theorem dMd_mean_11 : decode cMd_mean 11 = .ok (.iload_n 2, 1) := by decide +kernel
theorem dMd_mean_12 : decode cMd_mean 12 = .ok (.iconst 1, 1) := by decide +kernel
theorem dMd_mean_13 : decode cMd_mean 13 = .ok (.if_icmp .gt 10, 3) := by decide +kernel
theorem dMd_mean_16 : decode cMd_mean 16 = .ok (.aload_n 0, 1) := by decide +kernel
theorem dMd_mean_17 : decode cMd_mean 17 = .ok (.invokevirtual 106, 3) := by decide +kernel
theorem dMd_mean_20 : decode cMd_mean 20 = .ok (.ifCond .ne 7, 3) := by decide +kernel
theorem dMd_mean_23 : decode cMd_mean 23 = .ok (.ldc2_w 110, 3) := by decide +kernel
theorem dMd_mean_26 : decode cMd_mean 26 = .ok (.lreturn, 1) := by decide +kernel
theorem dMd_mean_27 : decode cMd_mean 27 = .ok (.lconst 1, 1) := by decide +kernel
theorem dMd_mean_28 : decode cMd_mean 28 = .ok (.lstore_n 3, 1) := by decide +kernel
theorem dMd_mean_29 : decode cMd_mean 29 = .ok (.iconst 0, 1) := by decide +kernel
theorem dMd_mean_30 : decode cMd_mean 30 = .ok (.istore 5, 2) := by decide +kernel
theorem dMd_mean_32 : decode cMd_mean 32 = .ok (.iload 5, 2) := by decide +kernel
theorem dMd_mean_34 : decode cMd_mean 34 = .ok (.aload_n 0, 1) := by decide +kernel
theorem dMd_mean_35 : decode cMd_mean 35 = .ok (.getfield 58, 3) := by decide +kernel
theorem dMd_mean_38 : decode cMd_mean 38 = .ok (.if_icmp .ge 34, 3) := by decide +kernel
theorem dMd_mean_41 : decode cMd_mean 41 = .ok (.aload_n 0, 1) := by decide +kernel
theorem dMd_mean_42 : decode cMd_mean 42 = .ok (.iload 5, 2) := by decide +kernel
theorem dMd_mean_44 : decode cMd_mean 44 = .ok (.invokevirtual 93, 3) := by decide +kernel
theorem dMd_mean_47 : decode cMd_mean 47 = .ok (.ifCond .eq 17, 3) := by decide +kernel
theorem dMd_mean_50 : decode cMd_mean 50 = .ok (.lload_n 3, 1) := by decide +kernel
theorem dMd_mean_51 : decode cMd_mean 51 = .ok (.aload_n 0, 1) := by decide +kernel
theorem dMd_mean_52 : decode cMd_mean 52 = .ok (.iload 5, 2) := by decide +kernel
theorem dMd_mean_54 : decode cMd_mean 54 = .ok (.invokevirtual 89, 3) := by decide +kernel
theorem dMd_mean_57 : decode cMd_mean 57 = .ok (.i2l, 1) := by decide +kernel
theorem dMd_mean_58 : decode cMd_mean 58 = .ok (.invokestatic 112, 3) := by decide +kernel
theorem dMd_mean_61 : decode cMd_mean 61 = .ok (.goto 4, 3) := by decide +kernel
theorem dMd_mean_64 : decode cMd_mean 64 = .ok (.lload_n 3, 1) := by decide +kernel
theorem dMd_mean_65 : decode cMd_mean 65 = .ok (.lstore_n 3, 1) := by decide +kernel
theorem dMd_mean_66 : decode cMd_mean 66 = .ok (.iinc 5 1, 3) := by decide +kernel
theorem dMd_mean_69 : decode cMd_mean 69 = .ok (.goto (-37), 3) := by decide +kernel
theorem dMd_mean_72 : decode cMd_mean 72 = .ok (.aload_n 0, 1) := by decide +kernel
theorem dMd_mean_73 : decode cMd_mean 73 = .ok (.lconst 0, 1) := by decide +kernel
theorem dMd_mean_74 : decode cMd_mean 74 = .ok (.putfield 100, 3) := by decide +kernel
theorem dMd_mean_77 : decode cMd_mean 77 = .ok (.iconst 0, 1) := by decide +kernel
theorem dMd_mean_78 : decode cMd_mean 78 = .ok (.istore 5, 2) := by decide +kernel
theorem dMd_mean_80 : decode cMd_mean 80 = .ok (.iload 5, 2) := by decide +kernel
theorem dMd_mean_82 : decode cMd_mean 82 = .ok (.aload_n 0, 1) := by decide +kernel
theorem dMd_mean_83 : decode cMd_mean 83 = .ok (.getfield 58, 3) := by decide +kernel
theorem dMd_mean_86 : decode cMd_mean 86 = .ok (.if_icmp .ge 57, 3) := by decide +kernel
theorem dMd_mean_89 : decode cMd_mean 89 = .ok (.aload_n 0, 1) := by decide +kernel
theorem dMd_mean_90 : decode cMd_mean 90 = .ok (.dup, 1) := by decide +kernel
theorem dMd_mean_91 : decode cMd_mean 91 = .ok (.getfield 100, 3) := by decide +kernel
theorem dMd_mean_94 : decode cMd_mean 94 = .ok (.aload_n 0, 1) := by decide +kernel
theorem dMd_mean_95 : decode cMd_mean 95 = .ok (.iload 5, 2) := by decide +kernel
theorem dMd_mean_97 : decode cMd_mean 97 = .ok (.invokevirtual 93, 3) := by decide +kernel
theorem dMd_mean_100 : decode cMd_mean 100 = .ok (.ifCond .eq 32, 3) := by decide +kernel
theorem dMd_mean_103 : decode cMd_mean 103 = .ok (.aload_n 0, 1) := by decide +kernel
theorem dMd_mean_104 : decode cMd_mean 104 = .ok (.iload 5, 2) := by decide +kernel
theorem dMd_mean_106 : decode cMd_mean 106 = .ok (.iload_n 1, 1) := by decide +kernel
theorem dMd_mean_107 : decode cMd_mean 107 = .ok (.invokevirtual 115, 3) := by decide +kernel
theorem dMd_mean_110 : decode cMd_mean 110 = .ok (.lload_n 3, 1) := by decide +kernel
theorem dMd_mean_111 : decode cMd_mean 111 = .ok (.aload_n 0, 1) := by decide +kernel
theorem dMd_mean_112 : decode cMd_mean 112 = .ok (.iload 5, 2) := by decide +kernel
theorem dMd_mean_114 : decode cMd_mean 114 = .ok (.invokevirtual 89, 3) := by decide +kernel
theorem dMd_mean_117 : decode cMd_mean 117 = .ok (.i2l, 1) := by decide +kernel
theorem dMd_mean_118 : decode cMd_mean 118 = .ok (.ldiv, 1) := by decide +kernel
theorem dMd_mean_119 : decode cMd_mean 119 = .ok (.lmul, 1) := by decide +kernel
theorem dMd_mean_120 : decode cMd_mean 120 = .ok (.aload_n 0, 1) := by decide +kernel
theorem dMd_mean_121 : decode cMd_mean 121 = .ok (.getfield 7, 3) := by decide +kernel
theorem dMd_mean_124 : decode cMd_mean 124 = .ok (.iload 5, 2) := by decide +kernel
theorem dMd_mean_126 : decode cMd_mean 126 = .ok (.iaload, 1) := by decide +kernel
theorem dMd_mean_127 : decode cMd_mean 127 = .ok (.i2l, 1) := by decide +kernel
theorem dMd_mean_128 : decode cMd_mean 128 = .ok (.lmul, 1) := by decide +kernel
theorem dMd_mean_129 : decode cMd_mean 129 = .ok (.goto 4, 3) := by decide +kernel
theorem dMd_mean_132 : decode cMd_mean 132 = .ok (.lconst 0, 1) := by decide +kernel
theorem dMd_mean_133 : decode cMd_mean 133 = .ok (.ladd, 1) := by decide +kernel
theorem dMd_mean_134 : decode cMd_mean 134 = .ok (.putfield 100, 3) := by decide +kernel
theorem dMd_mean_137 : decode cMd_mean 137 = .ok (.iinc 5 1, 3) := by decide +kernel
theorem dMd_mean_140 : decode cMd_mean 140 = .ok (.goto (-60), 3) := by decide +kernel
theorem dMd_mean_143 : decode cMd_mean 143 = .ok (.aload_n 0, 1) := by decide +kernel
theorem dMd_mean_144 : decode cMd_mean 144 = .ok (.lload_n 3, 1) := by decide +kernel
theorem dMd_mean_145 : decode cMd_mean 145 = .ok (.aload_n 0, 1) := by decide +kernel
theorem dMd_mean_146 : decode cMd_mean 146 = .ok (.invokevirtual 119, 3) := by decide +kernel
theorem dMd_mean_149 : decode cMd_mean 149 = .ok (.lmul, 1) := by decide +kernel
theorem dMd_mean_150 : decode cMd_mean 150 = .ok (.putfield 103, 3) := by decide +kernel
theorem dMd_mean_153 : decode cMd_mean 153 = .ok (.aload_n 0, 1) := by decide +kernel
theorem dMd_mean_154 : decode cMd_mean 154 = .ok (.iload_n 2, 1) := by decide +kernel
theorem dMd_mean_155 : decode cMd_mean 155 = .ok (.invokevirtual 123, 3) := by decide +kernel
theorem dMd_mean_158 : decode cMd_mean 158 = .ok (.lreturn, 1) := by decide +kernel
theorem dMd_hasSpread_0 : decode cMd_hasSpread 0 = .ok (.iload_n 1, 1) := by decide +kernel
theorem dMd_hasSpread_1 : decode cMd_hasSpread 1 = .ok (.invokestatic 80, 3) := by decide +kernel
theorem dMd_hasSpread_4 : decode cMd_hasSpread 4 = .ok (.ifCond .eq 14, 3) := by decide +kernel
theorem dMd_hasSpread_7 : decode cMd_hasSpread 7 = .ok (.aload_n 0, 1) := by decide +kernel
theorem dMd_hasSpread_8 : decode cMd_hasSpread 8 = .ok (.invokevirtual 106, 3) := by decide +kernel
theorem dMd_hasSpread_11 : decode cMd_hasSpread 11 = .ok (.ifCond .le 7, 3) := by decide +kernel
theorem dMd_hasSpread_14 : decode cMd_hasSpread 14 = .ok (.iconst 1, 1) := by decide +kernel
theorem dMd_hasSpread_15 : decode cMd_hasSpread 15 = .ok (.goto 4, 3) := by decide +kernel
theorem dMd_hasSpread_18 : decode cMd_hasSpread 18 = .ok (.iconst 0, 1) := by decide +kernel
theorem dMd_hasSpread_19 : decode cMd_hasSpread 19 = .ok (.istore_n 2, 1) := by decide +kernel
theorem dMd_hasSpread_20 : decode cMd_hasSpread 20 = .ok (.iconst 0, 1) := by decide +kernel
theorem dMd_hasSpread_21 : decode cMd_hasSpread 21 = .ok (.istore_n 3, 1) := by decide +kernel
theorem dMd_hasSpread_22 : decode cMd_hasSpread 22 = .ok (.iload_n 3, 1) := by decide +kernel
theorem dMd_hasSpread_23 : decode cMd_hasSpread 23 = .ok (.aload_n 0, 1) := by decide +kernel
theorem dMd_hasSpread_24 : decode cMd_hasSpread 24 = .ok (.getfield 58, 3) := by decide +kernel
theorem dMd_hasSpread_27 : decode cMd_hasSpread 27 = .ok (.if_icmp .ge 36, 3) := by decide +kernel
theorem dMd_hasSpread_30 : decode cMd_hasSpread 30 = .ok (.iload_n 2, 1) := by decide +kernel
theorem dMd_hasSpread_31 : decode cMd_hasSpread 31 = .ok (.ifCond .eq 24, 3) := by decide +kernel
theorem dMd_hasSpread_34 : decode cMd_hasSpread 34 = .ok (.aload_n 0, 1) := by decide +kernel
theorem dMd_hasSpread_35 : decode cMd_hasSpread 35 = .ok (.iload_n 3, 1) := by decide +kernel
theorem dMd_hasSpread_36 : decode cMd_hasSpread 36 = .ok (.invokevirtual 93, 3) := by decide +kernel
theorem dMd_hasSpread_39 : decode cMd_hasSpread 39 = .ok (.ifCond .eq 12, 3) := by decide +kernel
theorem dMd_hasSpread_42 : decode cMd_hasSpread 42 = .ok (.aload_n 0, 1) := by decide +kernel
theorem dMd_hasSpread_43 : decode cMd_hasSpread 43 = .ok (.iload_n 3, 1) := by decide +kernel
theorem dMd_hasSpread_44 : decode cMd_hasSpread 44 = .ok (.invokevirtual 89, 3) := by decide +kernel
theorem dMd_hasSpread_47 : decode cMd_hasSpread 47 = .ok (.iconst 1, 1) := by decide +kernel
theorem dMd_hasSpread_48 : decode cMd_hasSpread 48 = .ok (.if_icmp .le 7, 3) := by decide +kernel
theorem dMd_hasSpread_51 : decode cMd_hasSpread 51 = .ok (.iconst 1, 1) := by decide +kernel
theorem dMd_hasSpread_52 : decode cMd_hasSpread 52 = .ok (.goto 4, 3) := by decide +kernel
theorem dMd_hasSpread_55 : decode cMd_hasSpread 55 = .ok (.iconst 0, 1) := by decide +kernel
theorem dMd_hasSpread_56 : decode cMd_hasSpread 56 = .ok (.istore_n 2, 1) := by decide +kernel
theorem dMd_hasSpread_57 : decode cMd_hasSpread 57 = .ok (.iinc 3 1, 3) := by decide +kernel
theorem dMd_hasSpread_60 : decode cMd_hasSpread 60 = .ok (.goto (-38), 3) := by decide +kernel
theorem dMd_hasSpread_63 : decode cMd_hasSpread 63 = .ok (.iload_n 2, 1) := by decide +kernel
theorem dMd_hasSpread_64 : decode cMd_hasSpread 64 = .ok (.ireturn, 1) := by decide +kernel
