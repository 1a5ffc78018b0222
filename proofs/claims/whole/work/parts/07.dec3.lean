theorem dSc_init_0 : decode cSc_init 0 = .ok (.aload_n 0, 1) := by decide +kernel
theorem dSc_init_1 : decode cSc_init 1 = .ok (.invokespecial 1, 3) := by decide +kernel
theorem dSc_init_4 : decode cSc_init 4 = .ok (.aload_n 0, 1) := by decide +kernel
theorem dSc_init_5 : decode cSc_init 5 = .ok (.new 7, 3) := by decide +kernel
theorem dSc_init_8 : decode cSc_init 8 = .ok (.dup, 1) := by decide +kernel
theorem dSc_init_9 : decode cSc_init 9 = .ok (.invokespecial 9, 3) := by decide +kernel
theorem dSc_init_12 : decode cSc_init 12 = .ok (.putfield 10, 3) := by decide +kernel
theorem dSc_init_15 : decode cSc_init 15 = .ok (.aload_n 0, 1) := by decide +kernel
theorem dSc_init_16 : decode cSc_init 16 = .ok (.new 16, 3) := by decide +kernel
theorem dSc_init_19 : decode cSc_init 19 = .ok (.dup, 1) := by decide +kernel
theorem dSc_init_20 : decode cSc_init 20 = .ok (.invokespecial 18, 3) := by decide +kernel
theorem dSc_init_23 : decode cSc_init 23 = .ok (.putfield 19, 3) := by decide +kernel
theorem dSc_init_26 : decode cSc_init 26 = .ok (.aload_n 0, 1) := by decide +kernel
theorem dSc_init_27 : decode cSc_init 27 = .ok (.new 23, 3) := by decide +kernel
theorem dSc_init_30 : decode cSc_init 30 = .ok (.dup, 1) := by decide +kernel
theorem dSc_init_31 : decode cSc_init 31 = .ok (.lload_n 1, 1) := by decide +kernel
theorem dSc_init_32 : decode cSc_init 32 = .ok (.invokespecial 25, 3) := by decide +kernel
theorem dSc_init_35 : decode cSc_init 35 = .ok (.putfield 28, 3) := by decide +kernel
theorem dSc_init_38 : decode cSc_init 38 = .ok (.aload_n 0, 1) := by decide +kernel
theorem dSc_init_39 : decode cSc_init 39 = .ok (.new 32, 3) := by decide +kernel
theorem dSc_init_42 : decode cSc_init 42 = .ok (.dup, 1) := by decide +kernel
theorem dSc_init_43 : decode cSc_init 43 = .ok (.invokespecial 34, 3) := by decide +kernel
theorem dSc_init_46 : decode cSc_init 46 = .ok (.putfield 35, 3) := by decide +kernel
theorem dSc_init_49 : decode cSc_init 49 = .ok (.aload_n 0, 1) := by decide +kernel
theorem dSc_init_50 : decode cSc_init 50 = .ok (.new 39, 3) := by decide +kernel
theorem dSc_init_53 : decode cSc_init 53 = .ok (.dup, 1) := by decide +kernel
theorem dSc_init_54 : decode cSc_init 54 = .ok (.invokespecial 41, 3) := by decide +kernel
theorem dSc_init_57 : decode cSc_init 57 = .ok (.putfield 42, 3) := by decide +kernel
theorem dSc_init_60 : decode cSc_init 60 = .ok (.aload_n 0, 1) := by decide +kernel
theorem dSc_init_61 : decode cSc_init 61 = .ok (.new 46, 3) := by decide +kernel
theorem dSc_init_64 : decode cSc_init 64 = .ok (.dup, 1) := by decide +kernel
theorem dSc_init_65 : decode cSc_init 65 = .ok (.invokespecial 48, 3) := by decide +kernel
theorem dSc_init_68 : decode cSc_init 68 = .ok (.putfield 49, 3) := by decide +kernel
theorem dSc_init_71 : decode cSc_init 71 = .ok (.aload_n 0, 1) := by decide +kernel
theorem dSc_init_72 : decode cSc_init 72 = .ok (.new 53, 3) := by decide +kernel
theorem dSc_init_75 : decode cSc_init 75 = .ok (.dup, 1) := by decide +kernel
theorem dSc_init_76 : decode cSc_init 76 = .ok (.invokespecial 55, 3) := by decide +kernel
theorem dSc_init_79 : decode cSc_init 79 = .ok (.putfield 56, 3) := by decide +kernel
theorem dSc_init_82 : decode cSc_init 82 = .ok (.return_, 1) := by decide +kernel
theorem dSc_stratum_0 : decode cSc_stratum 0 = .ok (.aload_n 0, 1) := by decide +kernel
theorem dSc_stratum_1 : decode cSc_stratum 1 = .ok (.getfield 10, 3) := by decide +kernel
theorem dSc_stratum_4 : decode cSc_stratum 4 = .ok (.iload_n 1, 1) := by decide +kernel
theorem dSc_stratum_5 : decode cSc_stratum 5 = .ok (.invokevirtual 60, 3) := by decide +kernel
theorem dSc_stratum_8 : decode cSc_stratum 8 = .ok (.ireturn, 1) := by decide +kernel
theorem dSc_cost_0 : decode cSc_cost 0 = .ok (.aload_n 0, 1) := by decide +kernel
theorem dSc_cost_1 : decode cSc_cost 1 = .ok (.getfield 10, 3) := by decide +kernel
theorem dSc_cost_4 : decode cSc_cost 4 = .ok (.iload_n 1, 1) := by decide +kernel
theorem dSc_cost_5 : decode cSc_cost 5 = .ok (.lload_n 2, 1) := by decide +kernel
theorem dSc_cost_6 : decode cSc_cost 6 = .ok (.invokevirtual 64, 3) := by decide +kernel
theorem dSc_cost_9 : decode cSc_cost 9 = .ok (.ireturn, 1) := by decide +kernel
theorem dSc_bag_0 : decode cSc_bag 0 = .ok (.aload_n 0, 1) := by decide +kernel
theorem dSc_bag_1 : decode cSc_bag 1 = .ok (.getfield 10, 3) := by decide +kernel
theorem dSc_bag_4 : decode cSc_bag 4 = .ok (.iload_n 1, 1) := by decide +kernel
theorem dSc_bag_5 : decode cSc_bag 5 = .ok (.invokevirtual 68, 3) := by decide +kernel
theorem dSc_bag_8 : decode cSc_bag 8 = .ok (.ifCond .eq 14, 3) := by decide +kernel
theorem dSc_bag_11 : decode cSc_bag 11 = .ok (.aload_n 0, 1) := by decide +kernel
theorem dSc_bag_12 : decode cSc_bag 12 = .ok (.getfield 19, 3) := by decide +kernel
theorem dSc_bag_15 : decode cSc_bag 15 = .ok (.iload_n 1, 1) := by decide +kernel
theorem dSc_bag_16 : decode cSc_bag 16 = .ok (.invokevirtual 72, 3) := by decide +kernel
theorem dSc_bag_19 : decode cSc_bag 19 = .ok (.goto 4, 3) := by decide +kernel
theorem dSc_bag_22 : decode cSc_bag 22 = .ok (.iconst (-1), 1) := by decide +kernel
theorem dSc_bag_23 : decode cSc_bag 23 = .ok (.ireturn, 1) := by decide +kernel
theorem dSc_weight_0 : decode cSc_weight 0 = .ok (.aload_n 0, 1) := by decide +kernel
theorem dSc_weight_1 : decode cSc_weight 1 = .ok (.getfield 19, 3) := by decide +kernel
theorem dSc_weight_4 : decode cSc_weight 4 = .ok (.iload_n 1, 1) := by decide +kernel
theorem dSc_weight_5 : decode cSc_weight 5 = .ok (.iload_n 2, 1) := by decide +kernel
theorem dSc_weight_6 : decode cSc_weight 6 = .ok (.lload_n 3, 1) := by decide +kernel
theorem dSc_weight_7 : decode cSc_weight 7 = .ok (.invokevirtual 73, 3) := by decide +kernel
theorem dSc_weight_10 : decode cSc_weight 10 = .ok (.ireturn, 1) := by decide +kernel
theorem dSc_year_0 : decode cSc_year 0 = .ok (.aload_n 0, 1) := by decide +kernel
theorem dSc_year_1 : decode cSc_year 1 = .ok (.getfield 19, 3) := by decide +kernel
theorem dSc_year_4 : decode cSc_year 4 = .ok (.iload_n 1, 1) := by decide +kernel
theorem dSc_year_5 : decode cSc_year 5 = .ok (.iload_n 2, 1) := by decide +kernel
theorem dSc_year_6 : decode cSc_year 6 = .ok (.invokevirtual 77, 3) := by decide +kernel
theorem dSc_year_9 : decode cSc_year 9 = .ok (.ireturn, 1) := by decide +kernel
theorem dSc_missing_0 : decode cSc_missing 0 = .ok (.aload_n 0, 1) := by decide +kernel
theorem dSc_missing_1 : decode cSc_missing 1 = .ok (.getfield 19, 3) := by decide +kernel
theorem dSc_missing_4 : decode cSc_missing 4 = .ok (.iload_n 1, 1) := by decide +kernel
theorem dSc_missing_5 : decode cSc_missing 5 = .ok (.invokevirtual 81, 3) := by decide +kernel
theorem dSc_missing_8 : decode cSc_missing 8 = .ok (.ireturn, 1) := by decide +kernel
theorem dSc_draw_0 : decode cSc_draw 0 = .ok (.aload_n 0, 1) := by decide +kernel
theorem dSc_draw_1 : decode cSc_draw 1 = .ok (.getfield 10, 3) := by decide +kernel
theorem dSc_draw_4 : decode cSc_draw 4 = .ok (.iload_n 1, 1) := by decide +kernel
theorem dSc_draw_5 : decode cSc_draw 5 = .ok (.invokevirtual 68, 3) := by decide +kernel
theorem dSc_draw_8 : decode cSc_draw 8 = .ok (.ifCond .ne 5, 3) := by decide +kernel
theorem dSc_draw_11 : decode cSc_draw 11 = .ok (.iconst (-1), 1) := by decide +kernel
theorem dSc_draw_12 : decode cSc_draw 12 = .ok (.ireturn, 1) := by decide +kernel
theorem dSc_draw_13 : decode cSc_draw 13 = .ok (.aload_n 0, 1) := by decide +kernel
theorem dSc_draw_14 : decode cSc_draw 14 = .ok (.getfield 28, 3) := by decide +kernel
theorem dSc_draw_17 : decode cSc_draw 17 = .ok (.iload_n 1, 1) := by decide +kernel
theorem dSc_draw_18 : decode cSc_draw 18 = .ok (.aload_n 0, 1) := by decide +kernel
theorem dSc_draw_19 : decode cSc_draw 19 = .ok (.getfield 10, 3) := by decide +kernel
theorem dSc_draw_22 : decode cSc_draw 22 = .ok (.getfield 84, 3) := by decide +kernel
theorem dSc_draw_25 : decode cSc_draw 25 = .ok (.iload_n 1, 1) := by decide +kernel
theorem dSc_draw_26 : decode cSc_draw 26 = .ok (.iaload, 1) := by decide +kernel
theorem dSc_draw_27 : decode cSc_draw 27 = .ok (.iload_n 2, 1) := by decide +kernel
theorem dSc_draw_28 : decode cSc_draw 28 = .ok (.invokevirtual 88, 3) := by decide +kernel
theorem dSc_draw_31 : decode cSc_draw 31 = .ok (.ireturn, 1) := by decide +kernel
theorem dSc_drawn_0 : decode cSc_drawn 0 = .ok (.aload_n 0, 1) := by decide +kernel
theorem dSc_drawn_1 : decode cSc_drawn 1 = .ok (.getfield 10, 3) := by decide +kernel
theorem dSc_drawn_4 : decode cSc_drawn 4 = .ok (.iload_n 1, 1) := by decide +kernel
theorem dSc_drawn_5 : decode cSc_drawn 5 = .ok (.invokevirtual 92, 3) := by decide +kernel
theorem dSc_drawn_8 : decode cSc_drawn 8 = .ok (.ifCond .eq 15, 3) := by decide +kernel
theorem dSc_drawn_11 : decode cSc_drawn 11 = .ok (.aload_n 0, 1) := by decide +kernel
theorem dSc_drawn_12 : decode cSc_drawn 12 = .ok (.getfield 28, 3) := by decide +kernel
theorem dSc_drawn_15 : decode cSc_drawn 15 = .ok (.iload_n 1, 1) := by decide +kernel
theorem dSc_drawn_16 : decode cSc_drawn 16 = .ok (.iload_n 2, 1) := by decide +kernel
theorem dSc_drawn_17 : decode cSc_drawn 17 = .ok (.invokevirtual 95, 3) := by decide +kernel
theorem dSc_drawn_20 : decode cSc_drawn 20 = .ok (.goto 4, 3) := by decide +kernel
theorem dSc_drawn_23 : decode cSc_drawn 23 = .ok (.iconst (-1), 1) := by decide +kernel
theorem dSc_drawn_24 : decode cSc_drawn 24 = .ok (.ireturn, 1) := by decide +kernel
theorem dSc_mean_0 : decode cSc_mean 0 = .ok (.iload_n 1, 1) := by decide +kernel
theorem dSc_mean_1 : decode cSc_mean 1 = .ok (.invokestatic 99, 3) := by decide +kernel
theorem dSc_mean_4 : decode cSc_mean 4 = .ok (.ifCond .eq 10, 3) := by decide +kernel
theorem dSc_mean_7 : decode cSc_mean 7 = .ok (.iload_n 2, 1) := by decide +kernel
theorem dSc_mean_8 : decode cSc_mean 8 = .ok (.invokestatic 102, 3) := by decide +kernel
theorem dSc_mean_11 : decode cSc_mean 11 = .ok (.ifCond .ne 7, 3) := by decide +kernel
theorem dSc_mean_14 : decode cSc_mean 14 = .ok (.ldc2_w 105, 3) := by decide +kernel
theorem dSc_mean_17 : decode cSc_mean 17 = .ok (.lreturn, 1) := by decide +kernel
theorem dSc_mean_18 : decode cSc_mean 18 = .ok (.aload_n 0, 1) := by decide +kernel
theorem dSc_mean_19 : decode cSc_mean 19 = .ok (.getfield 42, 3) := by decide +kernel
theorem dSc_mean_22 : decode cSc_mean 22 = .ok (.aload_n 0, 1) := by decide +kernel
theorem dSc_mean_23 : decode cSc_mean 23 = .ok (.getfield 10, 3) := by decide +kernel
theorem dSc_mean_26 : decode cSc_mean 26 = .ok (.aload_n 0, 1) := by decide +kernel
theorem dSc_mean_27 : decode cSc_mean 27 = .ok (.getfield 19, 3) := by decide +kernel
theorem dSc_mean_30 : decode cSc_mean 30 = .ok (.iload_n 1, 1) := by decide +kernel
theorem dSc_mean_31 : decode cSc_mean 31 = .ok (.invokevirtual 107, 3) := by decide +kernel
theorem dSc_mean_34 : decode cSc_mean 34 = .ok (.aload_n 0, 1) := by decide +kernel
theorem dSc_mean_35 : decode cSc_mean 35 = .ok (.getfield 42, 3) := by decide +kernel
theorem dSc_mean_38 : decode cSc_mean 38 = .ok (.getfield 111, 3) := by decide +kernel
theorem dSc_mean_41 : decode cSc_mean 41 = .ok (.ifCond .le 14, 3) := by decide +kernel
theorem dSc_mean_44 : decode cSc_mean 44 = .ok (.aload_n 0, 1) := by decide +kernel
theorem dSc_mean_45 : decode cSc_mean 45 = .ok (.getfield 42, 3) := by decide +kernel
theorem dSc_mean_48 : decode cSc_mean 48 = .ok (.iload_n 2, 1) := by decide +kernel
theorem dSc_mean_49 : decode cSc_mean 49 = .ok (.invokevirtual 115, 3) := by decide +kernel
theorem dSc_mean_52 : decode cSc_mean 52 = .ok (.goto 6, 3) := by decide +kernel
theorem dSc_mean_55 : decode cSc_mean 55 = .ok (.ldc2_w 105, 3) := by decide +kernel
theorem dSc_mean_58 : decode cSc_mean 58 = .ok (.lreturn, 1) := by decide +kernel
theorem dSc_spread_0 : decode cSc_spread 0 = .ok (.iload_n 1, 1) := by decide +kernel
theorem dSc_spread_1 : decode cSc_spread 1 = .ok (.invokestatic 99, 3) := by decide +kernel
theorem dSc_spread_4 : decode cSc_spread 4 = .ok (.ifCond .eq 10, 3) := by decide +kernel
theorem dSc_spread_7 : decode cSc_spread 7 = .ok (.iload_n 2, 1) := by decide +kernel
theorem dSc_spread_8 : decode cSc_spread 8 = .ok (.invokestatic 102, 3) := by decide +kernel
theorem dSc_spread_11 : decode cSc_spread 11 = .ok (.ifCond .ne 7, 3) := by decide +kernel
theorem dSc_spread_14 : decode cSc_spread 14 = .ok (.ldc2_w 105, 3) := by decide +kernel
theorem dSc_spread_17 : decode cSc_spread 17 = .ok (.lreturn, 1) := by decide +kernel
theorem dSc_spread_18 : decode cSc_spread 18 = .ok (.aload_n 0, 1) := by decide +kernel
theorem dSc_spread_19 : decode cSc_spread 19 = .ok (.getfield 42, 3) := by decide +kernel
theorem dSc_spread_22 : decode cSc_spread 22 = .ok (.aload_n 0, 1) := by decide +kernel
theorem dSc_spread_23 : decode cSc_spread 23 = .ok (.getfield 10, 3) := by decide +kernel
theorem dSc_spread_26 : decode cSc_spread 26 = .ok (.aload_n 0, 1) := by decide +kernel
theorem dSc_spread_27 : decode cSc_spread 27 = .ok (.getfield 19, 3) := by decide +kernel
theorem dSc_spread_30 : decode cSc_spread 30 = .ok (.iload_n 1, 1) := by decide +kernel
theorem dSc_spread_31 : decode cSc_spread 31 = .ok (.invokevirtual 107, 3) := by decide +kernel
theorem dSc_spread_34 : decode cSc_spread 34 = .ok (.aload_n 0, 1) := by decide +kernel
theorem dSc_spread_35 : decode cSc_spread 35 = .ok (.getfield 42, 3) := by decide +kernel
theorem dSc_spread_38 : decode cSc_spread 38 = .ok (.invokevirtual 119, 3) := by decide +kernel
theorem dSc_spread_41 : decode cSc_spread 41 = .ok (.ifCond .eq 14, 3) := by decide +kernel
theorem dSc_spread_44 : decode cSc_spread 44 = .ok (.aload_n 0, 1) := by decide +kernel
theorem dSc_spread_45 : decode cSc_spread 45 = .ok (.getfield 42, 3) := by decide +kernel
theorem dSc_spread_48 : decode cSc_spread 48 = .ok (.iload_n 2, 1) := by decide +kernel
theorem dSc_spread_49 : decode cSc_spread 49 = .ok (.invokevirtual 123, 3) := by decide +kernel
theorem dSc_spread_52 : decode cSc_spread 52 = .ok (.goto 6, 3) := by decide +kernel
theorem dSc_spread_55 : decode cSc_spread 55 = .ok (.ldc2_w 105, 3) := by decide +kernel
theorem dSc_spread_58 : decode cSc_spread 58 = .ok (.lreturn, 1) := by decide +kernel
theorem dSc_plan_0 : decode cSc_plan 0 = .ok (.iload_n 1, 1) := by decide +kernel
theorem dSc_plan_1 : decode cSc_plan 1 = .ok (.invokestatic 99, 3) := by decide +kernel
theorem dSc_plan_4 : decode cSc_plan 4 = .ok (.ifCond .eq 33, 3) := by decide +kernel
theorem dSc_plan_7 : decode cSc_plan 7 = .ok (.lload_n 2, 1) := by decide +kernel
theorem dSc_plan_8 : decode cSc_plan 8 = .ok (.lconst 0, 1) := by decide +kernel
theorem dSc_plan_9 : decode cSc_plan 9 = .ok (.lcmp, 1) := by decide +kernel
theorem dSc_plan_10 : decode cSc_plan 10 = .ok (.ifCond .lt 27, 3) := by decide +kernel
theorem dSc_plan_13 : decode cSc_plan 13 = .ok (.lload_n 2, 1) := by decide +kernel
theorem dSc_plan_14 : decode cSc_plan 14 = .ok (.ldc2_w 126, 3) := by decide +kernel
theorem dSc_plan_17 : decode cSc_plan 17 = .ok (.lcmp, 1) := by decide +kernel
theorem dSc_plan_18 : decode cSc_plan 18 = .ok (.ifCond .gt 19, 3) := by decide +kernel
theorem dSc_plan_21 : decode cSc_plan 21 = .ok (.lload 4, 2) := by decide +kernel
theorem dSc_plan_23 : decode cSc_plan 23 = .ok (.lconst 1, 1) := by decide +kernel
theorem dSc_plan_24 : decode cSc_plan 24 = .ok (.lcmp, 1) := by decide +kernel
theorem dSc_plan_25 : decode cSc_plan 25 = .ok (.ifCond .lt 12, 3) := by decide +kernel
theorem dSc_plan_28 : decode cSc_plan 28 = .ok (.lload 4, 2) := by decide +kernel
theorem dSc_plan_30 : decode cSc_plan 30 = .ok (.ldc2_w 128, 3) := by decide +kernel
theorem dSc_plan_33 : decode cSc_plan 33 = .ok (.lcmp, 1) := by decide +kernel
theorem dSc_plan_34 : decode cSc_plan 34 = .ok (.ifCond .le 7, 3) := by decide +kernel
theorem dSc_plan_37 : decode cSc_plan 37 = .ok (.ldc2_w 105, 3) := by decide +kernel
theorem dSc_plan_40 : decode cSc_plan 40 = .ok (.lreturn, 1) := by decide +kernel
theorem dSc_plan_41 : decode cSc_plan 41 = .ok (.aload_n 0, 1) := by decide +kernel
theorem dSc_plan_42 : decode cSc_plan 42 = .ok (.getfield 42, 3) := by decide +kernel
theorem dSc_plan_45 : decode cSc_plan 45 = .ok (.aload_n 0, 1) := by decide +kernel
theorem dSc_plan_46 : decode cSc_plan 46 = .ok (.getfield 10, 3) := by decide +kernel
theorem dSc_plan_49 : decode cSc_plan 49 = .ok (.aload_n 0, 1) := by decide +kernel
theorem dSc_plan_50 : decode cSc_plan 50 = .ok (.getfield 19, 3) := by decide +kernel
theorem dSc_plan_53 : decode cSc_plan 53 = .ok (.iload_n 1, 1) := by decide +kernel
theorem dSc_plan_54 : decode cSc_plan 54 = .ok (.invokevirtual 107, 3) := by decide +kernel
theorem dSc_plan_57 : decode cSc_plan 57 = .ok (.aload_n 0, 1) := by decide +kernel
theorem dSc_plan_58 : decode cSc_plan 58 = .ok (.getfield 42, 3) := by decide +kernel
theorem dSc_plan_61 : decode cSc_plan 61 = .ok (.invokevirtual 119, 3) := by decide +kernel
theorem dSc_plan_64 : decode cSc_plan 64 = .ok (.ifCond .ne 7, 3) := by decide +kernel
theorem dSc_plan_67 : decode cSc_plan 67 = .ok (.ldc2_w 105, 3) := by decide +kernel
theorem dSc_plan_70 : decode cSc_plan 70 = .ok (.lreturn, 1) := by decide +kernel
theorem dSc_plan_71 : decode cSc_plan 71 = .ok (.aload_n 0, 1) := by decide +kernel
theorem dSc_plan_72 : decode cSc_plan 72 = .ok (.getfield 49, 3) := by decide +kernel
theorem dSc_plan_75 : decode cSc_plan 75 = .ok (.aload_n 0, 1) := by decide +kernel
theorem dSc_plan_76 : decode cSc_plan 76 = .ok (.getfield 42, 3) := by decide +kernel
theorem dSc_plan_79 : decode cSc_plan 79 = .ok (.aload_n 0, 1) := by decide +kernel
theorem dSc_plan_80 : decode cSc_plan 80 = .ok (.getfield 10, 3) := by decide +kernel
theorem dSc_plan_83 : decode cSc_plan 83 = .ok (.lload_n 2, 1) := by decide +kernel
theorem dSc_plan_84 : decode cSc_plan 84 = .ok (.lload 4, 2) := by decide +kernel
theorem dSc_plan_86 : decode cSc_plan 86 = .ok (.invokevirtual 130, 3) := by decide +kernel
theorem dSc_plan_89 : decode cSc_plan 89 = .ok (.aload_n 0, 1) := by decide +kernel
theorem dSc_plan_90 : decode cSc_plan 90 = .ok (.getfield 49, 3) := by decide +kernel
theorem dSc_plan_93 : decode cSc_plan 93 = .ok (.invokevirtual 134, 3) := by decide +kernel
theorem dSc_plan_96 : decode cSc_plan 96 = .ok (.lreturn, 1) := by decide +kernel
theorem dSc_planned_0 : decode cSc_planned 0 = .ok (.aload_n 0, 1) := by decide +kernel
theorem dSc_planned_1 : decode cSc_planned 1 = .ok (.getfield 10, 3) := by decide +kernel
theorem dSc_planned_4 : decode cSc_planned 4 = .ok (.iload_n 1, 1) := by decide +kernel
theorem dSc_planned_5 : decode cSc_planned 5 = .ok (.invokevirtual 92, 3) := by decide +kernel
theorem dSc_planned_8 : decode cSc_planned 8 = .ok (.ifCond .eq 14, 3) := by decide +kernel
theorem dSc_planned_11 : decode cSc_planned 11 = .ok (.aload_n 0, 1) := by decide +kernel
theorem dSc_planned_12 : decode cSc_planned 12 = .ok (.getfield 49, 3) := by decide +kernel
theorem dSc_planned_15 : decode cSc_planned 15 = .ok (.iload_n 1, 1) := by decide +kernel
theorem dSc_planned_16 : decode cSc_planned 16 = .ok (.invokevirtual 138, 3) := by decide +kernel
theorem dSc_planned_19 : decode cSc_planned 19 = .ok (.goto 4, 3) := by decide +kernel
theorem dSc_planned_22 : decode cSc_planned 22 = .ok (.iconst (-1), 1) := by decide +kernel
theorem dSc_planned_23 : decode cSc_planned 23 = .ok (.ireturn, 1) := by decide +kernel
theorem dSc_compared_0 : decode cSc_compared 0 = .ok (.iload_n 1, 1) := by decide +kernel
theorem dSc_compared_1 : decode cSc_compared 1 = .ok (.invokestatic 99, 3) := by decide +kernel
theorem dSc_compared_4 : decode cSc_compared 4 = .ok (.ifCond .eq 25, 3) := by decide +kernel
theorem dSc_compared_7 : decode cSc_compared 7 = .ok (.iload_n 2, 1) := by decide +kernel
theorem dSc_compared_8 : decode cSc_compared 8 = .ok (.invokestatic 102, 3) := by decide +kernel
theorem dSc_compared_11 : decode cSc_compared 11 = .ok (.ifCond .eq 18, 3) := by decide +kernel
theorem dSc_compared_14 : decode cSc_compared 14 = .ok (.aload_n 0, 1) := by decide +kernel
theorem dSc_compared_15 : decode cSc_compared 15 = .ok (.getfield 56, 3) := by decide +kernel
theorem dSc_compared_18 : decode cSc_compared 18 = .ok (.aload_n 0, 1) := by decide +kernel
theorem dSc_compared_19 : decode cSc_compared 19 = .ok (.getfield 19, 3) := by decide +kernel
theorem dSc_compared_22 : decode cSc_compared 22 = .ok (.iload_n 1, 1) := by decide +kernel
theorem dSc_compared_23 : decode cSc_compared 23 = .ok (.invokevirtual 141, 3) := by decide +kernel
theorem dSc_compared_26 : decode cSc_compared 26 = .ok (.ifCond .ne 7, 3) := by decide +kernel
theorem dSc_compared_29 : decode cSc_compared 29 = .ok (.ldc2_w 105, 3) := by decide +kernel
theorem dSc_compared_32 : decode cSc_compared 32 = .ok (.lreturn, 1) := by decide +kernel
theorem dSc_compared_33 : decode cSc_compared 33 = .ok (.iload_n 2, 1) := by decide +kernel
theorem dSc_compared_34 : decode cSc_compared 34 = .ok (.ifCond .ne 13, 3) := by decide +kernel
theorem dSc_compared_37 : decode cSc_compared 37 = .ok (.aload_n 0, 1) := by decide +kernel
theorem dSc_compared_38 : decode cSc_compared 38 = .ok (.getfield 56, 3) := by decide +kernel
theorem dSc_compared_41 : decode cSc_compared 41 = .ok (.invokevirtual 144, 3) := by decide +kernel
theorem dSc_compared_44 : decode cSc_compared 44 = .ok (.goto 10, 3) := by decide +kernel
theorem dSc_compared_47 : decode cSc_compared 47 = .ok (.aload_n 0, 1) := by decide +kernel
theorem dSc_compared_48 : decode cSc_compared 48 = .ok (.getfield 56, 3) := by decide +kernel
theorem dSc_compared_51 : decode cSc_compared 51 = .ok (.invokevirtual 147, 3) := by decide +kernel
theorem dSc_compared_54 : decode cSc_compared 54 = .ok (.lreturn, 1) := by decide +kernel
theorem dSc_joined_0 : decode cSc_joined 0 = .ok (.aload_n 0, 1) := by decide +kernel
theorem dSc_joined_1 : decode cSc_joined 1 = .ok (.getfield 10, 3) := by decide +kernel
theorem dSc_joined_4 : decode cSc_joined 4 = .ok (.iload_n 1, 1) := by decide +kernel
theorem dSc_joined_5 : decode cSc_joined 5 = .ok (.iload_n 2, 1) := by decide +kernel
theorem dSc_joined_6 : decode cSc_joined 6 = .ok (.invokevirtual 150, 3) := by decide +kernel
theorem dSc_joined_9 : decode cSc_joined 9 = .ok (.ifCond .ne 5, 3) := by decide +kernel
theorem dSc_joined_12 : decode cSc_joined 12 = .ok (.iconst 0, 1) := by decide +kernel
theorem dSc_joined_13 : decode cSc_joined 13 = .ok (.ireturn, 1) := by decide +kernel
theorem dSc_joined_14 : decode cSc_joined 14 = .ok (.aload_n 0, 1) := by decide +kernel
theorem dSc_joined_15 : decode cSc_joined 15 = .ok (.getfield 19, 3) := by decide +kernel
theorem dSc_joined_18 : decode cSc_joined 18 = .ok (.iload_n 2, 1) := by decide +kernel
theorem dSc_joined_19 : decode cSc_joined 19 = .ok (.iload_n 1, 1) := by decide +kernel
theorem dSc_joined_20 : decode cSc_joined 20 = .ok (.invokevirtual 153, 3) := by decide +kernel
theorem dSc_joined_23 : decode cSc_joined 23 = .ok (.iconst 1, 1) := by decide +kernel
theorem dSc_joined_24 : decode cSc_joined 24 = .ok (.ireturn, 1) := by decide +kernel
theorem dSc_repeat_0 : decode cSc_repeat 0 = .ok (.aload_n 0, 1) := by decide +kernel
theorem dSc_repeat_1 : decode cSc_repeat 1 = .ok (.getfield 19, 3) := by decide +kernel
theorem dSc_repeat_4 : decode cSc_repeat 4 = .ok (.iload_n 1, 1) := by decide +kernel
theorem dSc_repeat_5 : decode cSc_repeat 5 = .ok (.invokevirtual 157, 3) := by decide +kernel
theorem dSc_repeat_8 : decode cSc_repeat 8 = .ok (.ifCond .eq 17, 3) := by decide +kernel
theorem dSc_repeat_11 : decode cSc_repeat 11 = .ok (.iload_n 2, 1) := by decide +kernel
theorem dSc_repeat_12 : decode cSc_repeat 12 = .ok (.invokestatic 99, 3) := by decide +kernel
theorem dSc_repeat_15 : decode cSc_repeat 15 = .ok (.ifCond .eq 10, 3) := by decide +kernel
theorem dSc_repeat_18 : decode cSc_repeat 18 = .ok (.lload_n 3, 1) := by decide +kernel
theorem dSc_repeat_19 : decode cSc_repeat 19 = .ok (.invokestatic 158, 3) := by decide +kernel
theorem dSc_repeat_22 : decode cSc_repeat 22 = .ok (.ifCond .ne 5, 3) := by decide +kernel
theorem dSc_repeat_25 : decode cSc_repeat 25 = .ok (.iconst (-1), 1) := by decide +kernel
theorem dSc_repeat_26 : decode cSc_repeat 26 = .ok (.ireturn, 1) := by decide +kernel
theorem dSc_repeat_27 : decode cSc_repeat 27 = .ok (.aload_n 0, 1) := by decide +kernel
theorem dSc_repeat_28 : decode cSc_repeat 28 = .ok (.getfield 35, 3) := by decide +kernel
theorem dSc_repeat_31 : decode cSc_repeat 31 = .ok (.iload_n 1, 1) := by decide +kernel
theorem dSc_repeat_32 : decode cSc_repeat 32 = .ok (.iload_n 2, 1) := by decide +kernel
theorem dSc_repeat_33 : decode cSc_repeat 33 = .ok (.lload_n 3, 1) := by decide +kernel
theorem dSc_repeat_34 : decode cSc_repeat 34 = .ok (.invokevirtual 162, 3) := by decide +kernel
theorem dSc_repeat_37 : decode cSc_repeat 37 = .ok (.ireturn, 1) := by decide +kernel
theorem dSc_error_0 : decode cSc_error 0 = .ok (.iload_n 1, 1) := by decide +kernel
theorem dSc_error_1 : decode cSc_error 1 = .ok (.invokestatic 99, 3) := by decide +kernel
theorem dSc_error_4 : decode cSc_error 4 = .ok (.ifCond .eq 10, 3) := by decide +kernel
theorem dSc_error_7 : decode cSc_error 7 = .ok (.iload_n 2, 1) := by decide +kernel
theorem dSc_error_8 : decode cSc_error 8 = .ok (.invokestatic 102, 3) := by decide +kernel
theorem dSc_error_11 : decode cSc_error 11 = .ok (.ifCond .ne 7, 3) := by decide +kernel
theorem dSc_error_14 : decode cSc_error 14 = .ok (.ldc2_w 105, 3) := by decide +kernel
theorem dSc_error_17 : decode cSc_error 17 = .ok (.lreturn, 1) := by decide +kernel
theorem dSc_error_18 : decode cSc_error 18 = .ok (.aload_n 0, 1) := by decide +kernel
theorem dSc_error_19 : decode cSc_error 19 = .ok (.getfield 35, 3) := by decide +kernel
theorem dSc_error_22 : decode cSc_error 22 = .ok (.aload_n 0, 1) := by decide +kernel
theorem dSc_error_23 : decode cSc_error 23 = .ok (.getfield 19, 3) := by decide +kernel
theorem dSc_error_26 : decode cSc_error 26 = .ok (.iload_n 1, 1) := by decide +kernel
theorem dSc_error_27 : decode cSc_error 27 = .ok (.iload_n 2, 1) := by decide +kernel
theorem dSc_error_28 : decode cSc_error 28 = .ok (.invokevirtual 165, 3) := by decide +kernel
theorem dSc_error_31 : decode cSc_error 31 = .ok (.lreturn, 1) := by decide +kernel
theorem dSc_counting_0 : decode cSc_counting 0 = .ok (.aload_n 0, 1) := by decide +kernel
theorem dSc_counting_1 : decode cSc_counting 1 = .ok (.getfield 42, 3) := by decide +kernel
theorem dSc_counting_4 : decode cSc_counting 4 = .ok (.aload_n 0, 1) := by decide +kernel
theorem dSc_counting_5 : decode cSc_counting 5 = .ok (.getfield 10, 3) := by decide +kernel
theorem dSc_counting_8 : decode cSc_counting 8 = .ok (.aload_n 0, 1) := by decide +kernel
theorem dSc_counting_9 : decode cSc_counting 9 = .ok (.getfield 19, 3) := by decide +kernel
theorem dSc_counting_12 : decode cSc_counting 12 = .ok (.iconst 0, 1) := by decide +kernel
theorem dSc_counting_13 : decode cSc_counting 13 = .ok (.invokevirtual 107, 3) := by decide +kernel
theorem dSc_counting_16 : decode cSc_counting 16 = .ok (.aload_n 0, 1) := by decide +kernel
theorem dSc_counting_17 : decode cSc_counting 17 = .ok (.getfield 42, 3) := by decide +kernel
theorem dSc_counting_20 : decode cSc_counting 20 = .ok (.getfield 111, 3) := by decide +kernel
theorem dSc_counting_23 : decode cSc_counting 23 = .ok (.ireturn, 1) := by decide +kernel
theorem dSc_isKind_0 : decode cSc_isKind 0 = .ok (.iload_n 0, 1) := by decide +kernel
theorem dSc_isKind_1 : decode cSc_isKind 1 = .ok (.ifCond .lt 12, 3) := by decide +kernel
theorem dSc_isKind_4 : decode cSc_isKind 4 = .ok (.iload_n 0, 1) := by decide +kernel
theorem dSc_isKind_5 : decode cSc_isKind 5 = .ok (.iconst 3, 1) := by decide +kernel
theorem dSc_isKind_6 : decode cSc_isKind 6 = .ok (.if_icmp .ge 7, 3) := by decide +kernel
theorem dSc_isKind_9 : decode cSc_isKind 9 = .ok (.iconst 1, 1) := by decide +kernel
theorem dSc_isKind_10 : decode cSc_isKind 10 = .ok (.goto 4, 3) := by decide +kernel
theorem dSc_isKind_13 : decode cSc_isKind 13 = .ok (.iconst 0, 1) := by decide +kernel
theorem dSc_isKind_14 : decode cSc_isKind 14 = .ok (.ireturn, 1) := by decide +kernel
theorem dSc_isPart_0 : decode cSc_isPart 0 = .ok (.iload_n 0, 1) := by decide +kernel
theorem dSc_isPart_1 : decode cSc_isPart 1 = .ok (.ifCond .lt 12, 3) := by decide +kernel
theorem dSc_isPart_4 : decode cSc_isPart 4 = .ok (.iload_n 0, 1) := by decide +kernel
theorem dSc_isPart_5 : decode cSc_isPart 5 = .ok (.iconst 2, 1) := by decide +kernel
theorem dSc_isPart_6 : decode cSc_isPart 6 = .ok (.if_icmp .ge 7, 3) := by decide +kernel
theorem dSc_isPart_9 : decode cSc_isPart 9 = .ok (.iconst 1, 1) := by decide +kernel
theorem dSc_isPart_10 : decode cSc_isPart 10 = .ok (.goto 4, 3) := by decide +kernel
theorem dSc_isPart_13 : decode cSc_isPart 13 = .ok (.iconst 0, 1) := by decide +kernel
theorem dSc_isPart_14 : decode cSc_isPart 14 = .ok (.ireturn, 1) := by decide +kernel
theorem dSc_isGrams_0 : decode cSc_isGrams 0 = .ok (.lload_n 0, 1) := by decide +kernel
theorem dSc_isGrams_1 : decode cSc_isGrams 1 = .ok (.lconst 0, 1) := by decide +kernel
theorem dSc_isGrams_2 : decode cSc_isGrams 2 = .ok (.lcmp, 1) := by decide +kernel
theorem dSc_isGrams_3 : decode cSc_isGrams 3 = .ok (.ifCond .lt 15, 3) := by decide +kernel
theorem dSc_isGrams_6 : decode cSc_isGrams 6 = .ok (.lload_n 0, 1) := by decide +kernel
theorem dSc_isGrams_7 : decode cSc_isGrams 7 = .ok (.ldc2_w 169, 3) := by decide +kernel
theorem dSc_isGrams_10 : decode cSc_isGrams 10 = .ok (.lcmp, 1) := by decide +kernel
theorem dSc_isGrams_11 : decode cSc_isGrams 11 = .ok (.ifCond .gt 7, 3) := by decide +kernel
theorem dSc_isGrams_14 : decode cSc_isGrams 14 = .ok (.iconst 1, 1) := by decide +kernel
theorem dSc_isGrams_15 : decode cSc_isGrams 15 = .ok (.goto 4, 3) := by decide +kernel
theorem dSc_isGrams_18 : decode cSc_isGrams 18 = .ok (.iconst 0, 1) := by decide +kernel
theorem dSc_isGrams_19 : decode cSc_isGrams 19 = .ok (.ireturn, 1) := by decide +kernel
theorem dSc_greatestShared_0 : decode cSc_greatestShared 0 = .ok (.lload_n 0, 1) := by decide +kernel
theorem dSc_greatestShared_1 : decode cSc_greatestShared 1 = .ok (.lstore 4, 2) := by decide +kernel
theorem dSc_greatestShared_3 : decode cSc_greatestShared 3 = .ok (.lload_n 2, 1) := by decide +kernel
theorem dSc_greatestShared_4 : decode cSc_greatestShared 4 = .ok (.lstore 6, 2) := by decide +kernel
theorem dSc_greatestShared_6 : decode cSc_greatestShared 6 = .ok (.iconst 0, 1) := by decide +kernel
theorem dSc_greatestShared_7 : decode cSc_greatestShared 7 = .ok (.istore 8, 2) := by decide +kernel
theorem dSc_greatestShared_9 : decode cSc_greatestShared 9 = .ok (.iload 8, 2) := by decide +kernel
theorem dSc_greatestShared_11 : decode cSc_greatestShared 11 = .ok (.bipush 100, 2) := by decide +kernel
theorem dSc_greatestShared_13 : decode cSc_greatestShared 13 = .ok (.if_icmp .ge 31, 3) := by decide +kernel
theorem dSc_greatestShared_16 : decode cSc_greatestShared 16 = .ok (.lload 6, 2) := by decide +kernel
theorem dSc_greatestShared_18 : decode cSc_greatestShared 18 = .ok (.lconst 0, 1) := by decide +kernel
theorem dSc_greatestShared_19 : decode cSc_greatestShared 19 = .ok (.lcmp, 1) := by decide +kernel
theorem dSc_greatestShared_20 : decode cSc_greatestShared 20 = .ok (.ifCond .eq 24, 3) := by decide +kernel
theorem dSc_greatestShared_23 : decode cSc_greatestShared 23 = .ok (.lload 4, 2) := by decide +kernel
theorem dSc_greatestShared_25 : decode cSc_greatestShared 25 = .ok (.lload 6, 2) := by decide +kernel
theorem dSc_greatestShared_27 : decode cSc_greatestShared 27 = .ok (.lrem, 1) := by decide +kernel
theorem dSc_greatestShared_28 : decode cSc_greatestShared 28 = .ok (.lstore 9, 2) := by decide +kernel
theorem dSc_greatestShared_30 : decode cSc_greatestShared 30 = .ok (.lload 6, 2) := by decide +kernel
theorem dSc_greatestShared_32 : decode cSc_greatestShared 32 = .ok (.lstore 4, 2) := by decide +kernel
theorem dSc_greatestShared_34 : decode cSc_greatestShared 34 = .ok (.lload 9, 2) := by decide +kernel
theorem dSc_greatestShared_36 : decode cSc_greatestShared 36 = .ok (.lstore 6, 2) := by decide +kernel
theorem dSc_greatestShared_38 : decode cSc_greatestShared 38 = .ok (.iinc 8 1, 3) := by decide +kernel
theorem dSc_greatestShared_41 : decode cSc_greatestShared 41 = .ok (.goto (-32), 3) := by decide +kernel
theorem dSc_greatestShared_44 : decode cSc_greatestShared 44 = .ok (.lload 4, 2) := by decide +kernel
theorem dSc_greatestShared_46 : decode cSc_greatestShared 46 = .ok (.lreturn, 1) := by decide +kernel
theorem dSc_leastCommon_0 : decode cSc_leastCommon 0 = .ok (.lload_n 0, 1) := by decide +kernel
theorem dSc_leastCommon_1 : decode cSc_leastCommon 1 = .ok (.lload_n 2, 1) := by decide +kernel
theorem dSc_leastCommon_2 : decode cSc_leastCommon 2 = .ok (.invokestatic 171, 3) := by decide +kernel
theorem dSc_leastCommon_5 : decode cSc_leastCommon 5 = .ok (.lstore 4, 2) := by decide +kernel
theorem dSc_leastCommon_7 : decode cSc_leastCommon 7 = .ok (.lload 4, 2) := by decide +kernel
theorem dSc_leastCommon_9 : decode cSc_leastCommon 9 = .ok (.lconst 1, 1) := by decide +kernel
theorem dSc_leastCommon_10 : decode cSc_leastCommon 10 = .ok (.lcmp, 1) := by decide +kernel
theorem dSc_leastCommon_11 : decode cSc_leastCommon 11 = .ok (.ifCond .ge 7, 3) := by decide +kernel
theorem dSc_leastCommon_14 : decode cSc_leastCommon 14 = .ok (.lconst 0, 1) := by decide +kernel
theorem dSc_leastCommon_15 : decode cSc_leastCommon 15 = .ok (.goto 9, 3) := by decide +kernel
theorem dSc_leastCommon_18 : decode cSc_leastCommon 18 = .ok (.lload_n 0, 1) := by decide +kernel
theorem dSc_leastCommon_19 : decode cSc_leastCommon 19 = .ok (.lload 4, 2) := by decide +kernel
theorem dSc_leastCommon_21 : decode cSc_leastCommon 21 = .ok (.ldiv, 1) := by decide +kernel
theorem dSc_leastCommon_22 : decode cSc_leastCommon 22 = .ok (.lload_n 2, 1) := by decide +kernel
theorem dSc_leastCommon_23 : decode cSc_leastCommon 23 = .ok (.lmul, 1) := by decide +kernel
theorem dSc_leastCommon_24 : decode cSc_leastCommon 24 = .ok (.lreturn, 1) := by decide +kernel
theorem dSc_tell_0 : decode cSc_tell 0 = .ok (.lload_n 0, 1) := by decide +kernel
theorem dSc_tell_1 : decode cSc_tell 1 = .ok (.lload_n 2, 1) := by decide +kernel
theorem dSc_tell_2 : decode cSc_tell 2 = .ok (.invokestatic 171, 3) := by decide +kernel
theorem dSc_tell_5 : decode cSc_tell 5 = .ok (.lstore 5, 2) := by decide +kernel
theorem dSc_tell_7 : decode cSc_tell 7 = .ok (.lload 5, 2) := by decide +kernel
theorem dSc_tell_9 : decode cSc_tell 9 = .ok (.lconst 1, 1) := by decide +kernel
theorem dSc_tell_10 : decode cSc_tell 10 = .ok (.lcmp, 1) := by decide +kernel
theorem dSc_tell_11 : decode cSc_tell 11 = .ok (.ifCond .ge 7, 3) := by decide +kernel
theorem dSc_tell_14 : decode cSc_tell 14 = .ok (.ldc2_w 105, 3) := by decide +kernel
theorem dSc_tell_17 : decode cSc_tell 17 = .ok (.lreturn, 1) := by decide +kernel
theorem dSc_tell_18 : decode cSc_tell 18 = .ok (.iload 4, 2) := by decide +kernel
theorem dSc_tell_20 : decode cSc_tell 20 = .ok (.ifCond .ne 7, 3) := by decide +kernel
theorem dSc_tell_23 : decode cSc_tell 23 = .ok (.lload_n 0, 1) := by decide +kernel
theorem dSc_tell_24 : decode cSc_tell 24 = .ok (.goto 4, 3) := by decide +kernel
theorem dSc_tell_27 : decode cSc_tell 27 = .ok (.lload_n 2, 1) := by decide +kernel
theorem dSc_tell_28 : decode cSc_tell 28 = .ok (.lload 5, 2) := by decide +kernel
theorem dSc_tell_30 : decode cSc_tell 30 = .ok (.ldiv, 1) := by decide +kernel
theorem dSc_tell_31 : decode cSc_tell 31 = .ok (.lreturn, 1) := by decide +kernel
