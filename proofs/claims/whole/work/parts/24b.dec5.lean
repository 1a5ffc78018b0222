theorem dMd_bagsOf_0 : decode cMd_bagsOf 0 = .ok (.iload_n 2, 1) := by decide +kernel
theorem dMd_bagsOf_1 : decode cMd_bagsOf 1 = .ok (.ifCond .eq 13, 3) := by decide +kernel
theorem dMd_bagsOf_4 : decode cMd_bagsOf 4 = .ok (.aload_n 0, 1) := by decide +kernel
theorem dMd_bagsOf_5 : decode cMd_bagsOf 5 = .ok (.getfield 51, 3) := by decide +kernel
theorem dMd_bagsOf_8 : decode cMd_bagsOf 8 = .ok (.iload_n 1, 1) := by decide +kernel
theorem dMd_bagsOf_9 : decode cMd_bagsOf 9 = .ok (.iaload, 1) := by decide +kernel
theorem dMd_bagsOf_10 : decode cMd_bagsOf 10 = .ok (.i2l, 1) := by decide +kernel
theorem dMd_bagsOf_11 : decode cMd_bagsOf 11 = .ok (.goto 9, 3) := by decide +kernel
theorem dMd_bagsOf_14 : decode cMd_bagsOf 14 = .ok (.aload_n 0, 1) := by decide +kernel
theorem dMd_bagsOf_15 : decode cMd_bagsOf 15 = .ok (.iload_n 1, 1) := by decide +kernel
theorem dMd_bagsOf_16 : decode cMd_bagsOf 16 = .ok (.invokevirtual 89, 3) := by decide +kernel
theorem dMd_bagsOf_19 : decode cMd_bagsOf 19 = .ok (.i2l, 1) := by decide +kernel
theorem dMd_bagsOf_20 : decode cMd_bagsOf 20 = .ok (.lreturn, 1) := by decide +kernel
theorem dMd_makeSpread_0 : decode cMd_makeSpread 0 = .ok (.lconst 1, 1) := by decide +kernel
theorem dMd_makeSpread_1 : decode cMd_makeSpread 1 = .ok (.lstore_n 3, 1) := by decide +kernel
theorem dMd_makeSpread_2 : decode cMd_makeSpread 2 = .ok (.iconst 0, 1) := by decide +kernel
theorem dMd_makeSpread_3 : decode cMd_makeSpread 3 = .ok (.istore 5, 2) := by decide +kernel
theorem dMd_makeSpread_5 : decode cMd_makeSpread 5 = .ok (.iload 5, 2) := by decide +kernel
theorem dMd_makeSpread_7 : decode cMd_makeSpread 7 = .ok (.aload_n 0, 1) := by decide +kernel
theorem dMd_makeSpread_8 : decode cMd_makeSpread 8 = .ok (.getfield 58, 3) := by decide +kernel
theorem dMd_makeSpread_11 : decode cMd_makeSpread 11 = .ok (.if_icmp .ge 51, 3) := by decide +kernel
theorem dMd_makeSpread_14 : decode cMd_makeSpread 14 = .ok (.aload_n 0, 1) := by decide +kernel
theorem dMd_makeSpread_15 : decode cMd_makeSpread 15 = .ok (.iload 5, 2) := by decide +kernel
theorem dMd_makeSpread_17 : decode cMd_makeSpread 17 = .ok (.invokevirtual 89, 3) := by decide +kernel
theorem dMd_makeSpread_20 : decode cMd_makeSpread 20 = .ok (.i2l, 1) := by decide +kernel
theorem dMd_makeSpread_21 : decode cMd_makeSpread 21 = .ok (.lstore 6, 2) := by decide +kernel
theorem dMd_makeSpread_23 : decode cMd_makeSpread 23 = .ok (.aload_n 0, 1) := by decide +kernel
theorem dMd_makeSpread_24 : decode cMd_makeSpread 24 = .ok (.iload 5, 2) := by decide +kernel
theorem dMd_makeSpread_26 : decode cMd_makeSpread 26 = .ok (.invokevirtual 93, 3) := by decide +kernel
theorem dMd_makeSpread_29 : decode cMd_makeSpread 29 = .ok (.ifCond .eq 25, 3) := by decide +kernel
theorem dMd_makeSpread_32 : decode cMd_makeSpread 32 = .ok (.lload_n 3, 1) := by decide +kernel
theorem dMd_makeSpread_33 : decode cMd_makeSpread 33 = .ok (.lload 6, 2) := by decide +kernel
theorem dMd_makeSpread_35 : decode cMd_makeSpread 35 = .ok (.lload 6, 2) := by decide +kernel
theorem dMd_makeSpread_37 : decode cMd_makeSpread 37 = .ok (.lconst 1, 1) := by decide +kernel
theorem dMd_makeSpread_38 : decode cMd_makeSpread 38 = .ok (.lsub, 1) := by decide +kernel
theorem dMd_makeSpread_39 : decode cMd_makeSpread 39 = .ok (.lmul, 1) := by decide +kernel
theorem dMd_makeSpread_40 : decode cMd_makeSpread 40 = .ok (.aload_n 0, 1) := by decide +kernel
theorem dMd_makeSpread_41 : decode cMd_makeSpread 41 = .ok (.iload 5, 2) := by decide +kernel
theorem dMd_makeSpread_43 : decode cMd_makeSpread 43 = .ok (.iload_n 2, 1) := by decide +kernel
theorem dMd_makeSpread_44 : decode cMd_makeSpread 44 = .ok (.invokevirtual 127, 3) := by decide +kernel
theorem dMd_makeSpread_47 : decode cMd_makeSpread 47 = .ok (.lmul, 1) := by decide +kernel
theorem dMd_makeSpread_48 : decode cMd_makeSpread 48 = .ok (.invokestatic 112, 3) := by decide +kernel
theorem dMd_makeSpread_51 : decode cMd_makeSpread 51 = .ok (.goto 4, 3) := by decide +kernel
theorem dMd_makeSpread_54 : decode cMd_makeSpread 54 = .ok (.lload_n 3, 1) := by decide +kernel
theorem dMd_makeSpread_55 : decode cMd_makeSpread 55 = .ok (.lstore_n 3, 1) := by decide +kernel
theorem dMd_makeSpread_56 : decode cMd_makeSpread 56 = .ok (.iinc 5 1, 3) := by decide +kernel
theorem dMd_makeSpread_59 : decode cMd_makeSpread 59 = .ok (.goto (-54), 3) := by decide +kernel
theorem dMd_makeSpread_62 : decode cMd_makeSpread 62 = .ok (.aload_n 0, 1) := by decide +kernel
theorem dMd_makeSpread_63 : decode cMd_makeSpread 63 = .ok (.lconst 0, 1) := by decide +kernel
theorem dMd_makeSpread_64 : decode cMd_makeSpread 64 = .ok (.putfield 100, 3) := by decide +kernel
theorem dMd_makeSpread_67 : decode cMd_makeSpread 67 = .ok (.iconst 0, 1) := by decide +kernel
theorem dMd_makeSpread_68 : decode cMd_makeSpread 68 = .ok (.istore 5, 2) := by decide +kernel
theorem dMd_makeSpread_70 : decode cMd_makeSpread 70 = .ok (.iload 5, 2) := by decide +kernel
theorem dMd_makeSpread_72 : decode cMd_makeSpread 72 = .ok (.aload_n 0, 1) := by decide +kernel
theorem dMd_makeSpread_73 : decode cMd_makeSpread 73 = .ok (.getfield 58, 3) := by decide +kernel
theorem dMd_makeSpread_76 : decode cMd_makeSpread 76 = .ok (.if_icmp .ge 102, 3) := by decide +kernel
theorem dMd_makeSpread_79 : decode cMd_makeSpread 79 = .ok (.aload_n 0, 1) := by decide +kernel
theorem dMd_makeSpread_80 : decode cMd_makeSpread 80 = .ok (.iload 5, 2) := by decide +kernel
theorem dMd_makeSpread_82 : decode cMd_makeSpread 82 = .ok (.invokevirtual 93, 3) := by decide +kernel
theorem dMd_makeSpread_85 : decode cMd_makeSpread 85 = .ok (.ifCond .eq 87, 3) := by decide +kernel
theorem dMd_makeSpread_88 : decode cMd_makeSpread 88 = .ok (.aload_n 0, 1) := by decide +kernel
theorem dMd_makeSpread_89 : decode cMd_makeSpread 89 = .ok (.iload 5, 2) := by decide +kernel
theorem dMd_makeSpread_91 : decode cMd_makeSpread 91 = .ok (.invokevirtual 89, 3) := by decide +kernel
theorem dMd_makeSpread_94 : decode cMd_makeSpread 94 = .ok (.i2l, 1) := by decide +kernel
theorem dMd_makeSpread_95 : decode cMd_makeSpread 95 = .ok (.lstore 6, 2) := by decide +kernel
theorem dMd_makeSpread_97 : decode cMd_makeSpread 97 = .ok (.lload 6, 2) := by decide +kernel
theorem dMd_makeSpread_99 : decode cMd_makeSpread 99 = .ok (.aload_n 0, 1) := by decide +kernel
theorem dMd_makeSpread_100 : decode cMd_makeSpread 100 = .ok (.iload 5, 2) := by decide +kernel
theorem dMd_makeSpread_102 : decode cMd_makeSpread 102 = .ok (.iload_n 1, 1) := by decide +kernel
theorem dMd_makeSpread_103 : decode cMd_makeSpread 103 = .ok (.invokevirtual 131, 3) := by decide +kernel
theorem dMd_makeSpread_106 : decode cMd_makeSpread 106 = .ok (.lmul, 1) := by decide +kernel
theorem dMd_makeSpread_107 : decode cMd_makeSpread 107 = .ok (.aload_n 0, 1) := by decide +kernel
theorem dMd_makeSpread_108 : decode cMd_makeSpread 108 = .ok (.iload 5, 2) := by decide +kernel
theorem dMd_makeSpread_110 : decode cMd_makeSpread 110 = .ok (.iload_n 1, 1) := by decide +kernel
theorem dMd_makeSpread_111 : decode cMd_makeSpread 111 = .ok (.invokevirtual 115, 3) := by decide +kernel
theorem dMd_makeSpread_114 : decode cMd_makeSpread 114 = .ok (.aload_n 0, 1) := by decide +kernel
theorem dMd_makeSpread_115 : decode cMd_makeSpread 115 = .ok (.iload 5, 2) := by decide +kernel
theorem dMd_makeSpread_117 : decode cMd_makeSpread 117 = .ok (.iload_n 1, 1) := by decide +kernel
theorem dMd_makeSpread_118 : decode cMd_makeSpread 118 = .ok (.invokevirtual 115, 3) := by decide +kernel
theorem dMd_makeSpread_121 : decode cMd_makeSpread 121 = .ok (.lmul, 1) := by decide +kernel
theorem dMd_makeSpread_122 : decode cMd_makeSpread 122 = .ok (.lsub, 1) := by decide +kernel
theorem dMd_makeSpread_123 : decode cMd_makeSpread 123 = .ok (.lstore 8, 2) := by decide +kernel
theorem dMd_makeSpread_125 : decode cMd_makeSpread 125 = .ok (.aload_n 0, 1) := by decide +kernel
theorem dMd_makeSpread_126 : decode cMd_makeSpread 126 = .ok (.dup, 1) := by decide +kernel
theorem dMd_makeSpread_127 : decode cMd_makeSpread 127 = .ok (.getfield 100, 3) := by decide +kernel
theorem dMd_makeSpread_130 : decode cMd_makeSpread 130 = .ok (.lload 8, 2) := by decide +kernel
theorem dMd_makeSpread_132 : decode cMd_makeSpread 132 = .ok (.aload_n 0, 1) := by decide +kernel
theorem dMd_makeSpread_133 : decode cMd_makeSpread 133 = .ok (.getfield 7, 3) := by decide +kernel
theorem dMd_makeSpread_136 : decode cMd_makeSpread 136 = .ok (.iload 5, 2) := by decide +kernel
theorem dMd_makeSpread_138 : decode cMd_makeSpread 138 = .ok (.iaload, 1) := by decide +kernel
theorem dMd_makeSpread_139 : decode cMd_makeSpread 139 = .ok (.i2l, 1) := by decide +kernel
theorem dMd_makeSpread_140 : decode cMd_makeSpread 140 = .ok (.lmul, 1) := by decide +kernel
theorem dMd_makeSpread_141 : decode cMd_makeSpread 141 = .ok (.aload_n 0, 1) := by decide +kernel
theorem dMd_makeSpread_142 : decode cMd_makeSpread 142 = .ok (.getfield 7, 3) := by decide +kernel
theorem dMd_makeSpread_145 : decode cMd_makeSpread 145 = .ok (.iload 5, 2) := by decide +kernel
theorem dMd_makeSpread_147 : decode cMd_makeSpread 147 = .ok (.iaload, 1) := by decide +kernel
theorem dMd_makeSpread_148 : decode cMd_makeSpread 148 = .ok (.i2l, 1) := by decide +kernel
theorem dMd_makeSpread_149 : decode cMd_makeSpread 149 = .ok (.lmul, 1) := by decide +kernel
theorem dMd_makeSpread_150 : decode cMd_makeSpread 150 = .ok (.lload_n 3, 1) := by decide +kernel
theorem dMd_makeSpread_151 : decode cMd_makeSpread 151 = .ok (.lload 6, 2) := by decide +kernel
theorem dMd_makeSpread_153 : decode cMd_makeSpread 153 = .ok (.lload 6, 2) := by decide +kernel
theorem dMd_makeSpread_155 : decode cMd_makeSpread 155 = .ok (.lconst 1, 1) := by decide +kernel
theorem dMd_makeSpread_156 : decode cMd_makeSpread 156 = .ok (.lsub, 1) := by decide +kernel
theorem dMd_makeSpread_157 : decode cMd_makeSpread 157 = .ok (.lmul, 1) := by decide +kernel
theorem dMd_makeSpread_158 : decode cMd_makeSpread 158 = .ok (.aload_n 0, 1) := by decide +kernel
theorem dMd_makeSpread_159 : decode cMd_makeSpread 159 = .ok (.iload 5, 2) := by decide +kernel
theorem dMd_makeSpread_161 : decode cMd_makeSpread 161 = .ok (.iload_n 2, 1) := by decide +kernel
theorem dMd_makeSpread_162 : decode cMd_makeSpread 162 = .ok (.invokevirtual 127, 3) := by decide +kernel
theorem dMd_makeSpread_165 : decode cMd_makeSpread 165 = .ok (.lmul, 1) := by decide +kernel
theorem dMd_makeSpread_166 : decode cMd_makeSpread 166 = .ok (.ldiv, 1) := by decide +kernel
theorem dMd_makeSpread_167 : decode cMd_makeSpread 167 = .ok (.lmul, 1) := by decide +kernel
theorem dMd_makeSpread_168 : decode cMd_makeSpread 168 = .ok (.ladd, 1) := by decide +kernel
theorem dMd_makeSpread_169 : decode cMd_makeSpread 169 = .ok (.putfield 100, 3) := by decide +kernel
theorem dMd_makeSpread_172 : decode cMd_makeSpread 172 = .ok (.iinc 5 1, 3) := by decide +kernel
theorem dMd_makeSpread_175 : decode cMd_makeSpread 175 = .ok (.goto (-105), 3) := by decide +kernel
theorem dMd_makeSpread_178 : decode cMd_makeSpread 178 = .ok (.aload_n 0, 1) := by decide +kernel
theorem dMd_makeSpread_179 : decode cMd_makeSpread 179 = .ok (.lload_n 3, 1) := by decide +kernel
theorem dMd_makeSpread_180 : decode cMd_makeSpread 180 = .ok (.aload_n 0, 1) := by decide +kernel
theorem dMd_makeSpread_181 : decode cMd_makeSpread 181 = .ok (.invokevirtual 119, 3) := by decide +kernel
theorem dMd_makeSpread_184 : decode cMd_makeSpread 184 = .ok (.lmul, 1) := by decide +kernel
theorem dMd_makeSpread_185 : decode cMd_makeSpread 185 = .ok (.aload_n 0, 1) := by decide +kernel
theorem dMd_makeSpread_186 : decode cMd_makeSpread 186 = .ok (.invokevirtual 119, 3) := by decide +kernel
theorem dMd_makeSpread_189 : decode cMd_makeSpread 189 = .ok (.lmul, 1) := by decide +kernel
theorem dMd_makeSpread_190 : decode cMd_makeSpread 190 = .ok (.putfield 103, 3) := by decide +kernel
theorem dMd_makeSpread_193 : decode cMd_makeSpread 193 = .ok (.return_, 1) := by decide +kernel
theorem dMd_spread_0 : decode cMd_spread 0 = .ok (.aload_n 0, 1) := by decide +kernel
theorem dMd_spread_1 : decode cMd_spread 1 = .ok (.iload_n 1, 1) := by decide +kernel
theorem dMd_spread_2 : decode cMd_spread 2 = .ok (.invokevirtual 134, 3) := by decide +kernel
theorem dMd_spread_5 : decode cMd_spread 5 = .ok (.ifCond .eq 12, 3) := by decide +kernel
theorem dMd_spread_8 : decode cMd_spread 8 = .ok (.iload_n 2, 1) := by decide +kernel
theorem dMd_spread_9 : decode cMd_spread 9 = .ok (.ifCond .lt 8, 3) := by decide +kernel
theorem dMd_spread_12 : decode cMd_spread 12 = .ok (.iload_n 2, 1) := by decide +kernel
theorem dMd_spread_13 : decode cMd_spread 13 = .ok (.iconst 1, 1) := by decide +kernel
theorem dMd_spread_14 : decode cMd_spread 14 = .ok (.if_icmp .le 7, 3) := by decide +kernel
theorem dMd_spread_17 : decode cMd_spread 17 = .ok (.ldc2_w 110, 3) := by decide +kernel
theorem dMd_spread_20 : decode cMd_spread 20 = .ok (.lreturn, 1) := by decide +kernel
theorem dMd_spread_21 : decode cMd_spread 21 = .ok (.aload_n 0, 1) := by decide +kernel
theorem dMd_spread_22 : decode cMd_spread 22 = .ok (.iload_n 1, 1) := by decide +kernel
theorem dMd_spread_23 : decode cMd_spread 23 = .ok (.iconst 0, 1) := by decide +kernel
theorem dMd_spread_24 : decode cMd_spread 24 = .ok (.invokevirtual 137, 3) := by decide +kernel
theorem dMd_spread_27 : decode cMd_spread 27 = .ok (.aload_n 0, 1) := by decide +kernel
theorem dMd_spread_28 : decode cMd_spread 28 = .ok (.iload_n 2, 1) := by decide +kernel
theorem dMd_spread_29 : decode cMd_spread 29 = .ok (.invokevirtual 123, 3) := by decide +kernel
theorem dMd_spread_32 : decode cMd_spread 32 = .ok (.lreturn, 1) := by decide +kernel
theorem dMd_isAtMost_0 : decode cMd_isAtMost 0 = .ok (.lload_n 0, 1) := by decide +kernel
theorem dMd_isAtMost_1 : decode cMd_isAtMost 1 = .ok (.lstore 8, 2) := by decide +kernel
theorem dMd_isAtMost_3 : decode cMd_isAtMost 3 = .ok (.lload_n 2, 1) := by decide +kernel
theorem dMd_isAtMost_4 : decode cMd_isAtMost 4 = .ok (.lstore 10, 2) := by decide +kernel
theorem dMd_isAtMost_6 : decode cMd_isAtMost 6 = .ok (.lload 4, 2) := by decide +kernel
theorem dMd_isAtMost_8 : decode cMd_isAtMost 8 = .ok (.lstore 12, 2) := by decide +kernel
theorem dMd_isAtMost_10 : decode cMd_isAtMost 10 = .ok (.lload 6, 2) := by decide +kernel
theorem dMd_isAtMost_12 : decode cMd_isAtMost 12 = .ok (.lstore 14, 2) := by decide +kernel
theorem dMd_isAtMost_14 : decode cMd_isAtMost 14 = .ok (.iconst 0, 1) := by decide +kernel
theorem dMd_isAtMost_15 : decode cMd_isAtMost 15 = .ok (.istore 16, 2) := by decide +kernel
theorem dMd_isAtMost_17 : decode cMd_isAtMost 17 = .ok (.lload 8, 2) := by decide +kernel
theorem dMd_isAtMost_19 : decode cMd_isAtMost 19 = .ok (.lload 10, 2) := by decide +kernel
theorem dMd_isAtMost_21 : decode cMd_isAtMost 21 = .ok (.ldiv, 1) := by decide +kernel
theorem dMd_isAtMost_22 : decode cMd_isAtMost 22 = .ok (.lstore 17, 2) := by decide +kernel
theorem dMd_isAtMost_24 : decode cMd_isAtMost 24 = .ok (.lload 12, 2) := by decide +kernel
theorem dMd_isAtMost_26 : decode cMd_isAtMost 26 = .ok (.lload 14, 2) := by decide +kernel
theorem dMd_isAtMost_28 : decode cMd_isAtMost 28 = .ok (.ldiv, 1) := by decide +kernel
theorem dMd_isAtMost_29 : decode cMd_isAtMost 29 = .ok (.lstore 19, 2) := by decide +kernel
theorem dMd_isAtMost_31 : decode cMd_isAtMost 31 = .ok (.lload 17, 2) := by decide +kernel
theorem dMd_isAtMost_33 : decode cMd_isAtMost 33 = .ok (.lload 19, 2) := by decide +kernel
theorem dMd_isAtMost_35 : decode cMd_isAtMost 35 = .ok (.lcmp, 1) := by decide +kernel
theorem dMd_isAtMost_36 : decode cMd_isAtMost 36 = .ok (.ifCond .eq 27, 3) := by decide +kernel
theorem dMd_isAtMost_39 : decode cMd_isAtMost 39 = .ok (.lload 17, 2) := by decide +kernel
theorem dMd_isAtMost_41 : decode cMd_isAtMost 41 = .ok (.lload 19, 2) := by decide +kernel
theorem dMd_isAtMost_43 : decode cMd_isAtMost 43 = .ok (.lcmp, 1) := by decide +kernel
theorem dMd_isAtMost_44 : decode cMd_isAtMost 44 = .ok (.ifCond .ge 7, 3) := by decide +kernel
theorem dMd_isAtMost_47 : decode cMd_isAtMost 47 = .ok (.iconst 1, 1) := by decide +kernel
theorem dMd_isAtMost_48 : decode cMd_isAtMost 48 = .ok (.goto 4, 3) := by decide +kernel
theorem dMd_isAtMost_51 : decode cMd_isAtMost 51 = .ok (.iconst 0, 1) := by decide +kernel
theorem dMd_isAtMost_52 : decode cMd_isAtMost 52 = .ok (.iload 16, 2) := by decide +kernel
theorem dMd_isAtMost_54 : decode cMd_isAtMost 54 = .ok (.if_icmp .eq 7, 3) := by decide +kernel
theorem dMd_isAtMost_57 : decode cMd_isAtMost 57 = .ok (.iconst 1, 1) := by decide +kernel
theorem dMd_isAtMost_58 : decode cMd_isAtMost 58 = .ok (.goto 4, 3) := by decide +kernel
theorem dMd_isAtMost_61 : decode cMd_isAtMost 61 = .ok (.iconst 0, 1) := by decide +kernel
theorem dMd_isAtMost_62 : decode cMd_isAtMost 62 = .ok (.ireturn, 1) := by decide +kernel
theorem dMd_isAtMost_63 : decode cMd_isAtMost 63 = .ok (.lload 8, 2) := by decide +kernel
theorem dMd_isAtMost_65 : decode cMd_isAtMost 65 = .ok (.lload 10, 2) := by decide +kernel
theorem dMd_isAtMost_67 : decode cMd_isAtMost 67 = .ok (.lrem, 1) := by decide +kernel
theorem dMd_isAtMost_68 : decode cMd_isAtMost 68 = .ok (.lstore 21, 2) := by decide +kernel
theorem dMd_isAtMost_70 : decode cMd_isAtMost 70 = .ok (.lload 12, 2) := by decide +kernel
theorem dMd_isAtMost_72 : decode cMd_isAtMost 72 = .ok (.lload 14, 2) := by decide +kernel
theorem dMd_isAtMost_74 : decode cMd_isAtMost 74 = .ok (.lrem, 1) := by decide +kernel
theorem dMd_isAtMost_75 : decode cMd_isAtMost 75 = .ok (.lstore 23, 2) := by decide +kernel
theorem dMd_isAtMost_77 : decode cMd_isAtMost 77 = .ok (.lload 21, 2) := by decide +kernel
theorem dMd_isAtMost_79 : decode cMd_isAtMost 79 = .ok (.lconst 0, 1) := by decide +kernel
theorem dMd_isAtMost_80 : decode cMd_isAtMost 80 = .ok (.lcmp, 1) := by decide +kernel
theorem dMd_isAtMost_81 : decode cMd_isAtMost 81 = .ok (.ifCond .eq 10, 3) := by decide +kernel
theorem dMd_isAtMost_84 : decode cMd_isAtMost 84 = .ok (.lload 23, 2) := by decide +kernel
theorem dMd_isAtMost_86 : decode cMd_isAtMost 86 = .ok (.lconst 0, 1) := by decide +kernel
theorem dMd_isAtMost_87 : decode cMd_isAtMost 87 = .ok (.lcmp, 1) := by decide +kernel
theorem dMd_isAtMost_88 : decode cMd_isAtMost 88 = .ok (.ifCond .ne 56, 3) := by decide +kernel
theorem dMd_isAtMost_91 : decode cMd_isAtMost 91 = .ok (.lload 21, 2) := by decide +kernel
theorem dMd_isAtMost_93 : decode cMd_isAtMost 93 = .ok (.lconst 0, 1) := by decide +kernel
theorem dMd_isAtMost_94 : decode cMd_isAtMost 94 = .ok (.lcmp, 1) := by decide +kernel
theorem dMd_isAtMost_95 : decode cMd_isAtMost 95 = .ok (.ifCond .ne 7, 3) := by decide +kernel
theorem dMd_isAtMost_98 : decode cMd_isAtMost 98 = .ok (.iconst 1, 1) := by decide +kernel
theorem dMd_isAtMost_99 : decode cMd_isAtMost 99 = .ok (.goto 4, 3) := by decide +kernel
theorem dMd_isAtMost_102 : decode cMd_isAtMost 102 = .ok (.iconst 0, 1) := by decide +kernel
theorem dMd_isAtMost_103 : decode cMd_isAtMost 103 = .ok (.istore 25, 2) := by decide +kernel
theorem dMd_isAtMost_105 : decode cMd_isAtMost 105 = .ok (.lload 21, 2) := by decide +kernel
theorem dMd_isAtMost_107 : decode cMd_isAtMost 107 = .ok (.lconst 0, 1) := by decide +kernel
theorem dMd_isAtMost_108 : decode cMd_isAtMost 108 = .ok (.lcmp, 1) := by decide +kernel
theorem dMd_isAtMost_109 : decode cMd_isAtMost 109 = .ok (.ifCond .ne 14, 3) := by decide +kernel
theorem dMd_isAtMost_112 : decode cMd_isAtMost 112 = .ok (.lload 23, 2) := by decide +kernel
theorem dMd_isAtMost_114 : decode cMd_isAtMost 114 = .ok (.lconst 0, 1) := by decide +kernel
theorem dMd_isAtMost_115 : decode cMd_isAtMost 115 = .ok (.lcmp, 1) := by decide +kernel
theorem dMd_isAtMost_116 : decode cMd_isAtMost 116 = .ok (.ifCond .ne 7, 3) := by decide +kernel
theorem dMd_isAtMost_119 : decode cMd_isAtMost 119 = .ok (.iconst 1, 1) := by decide +kernel
theorem dMd_isAtMost_120 : decode cMd_isAtMost 120 = .ok (.goto 4, 3) := by decide +kernel
theorem dMd_isAtMost_123 : decode cMd_isAtMost 123 = .ok (.iconst 0, 1) := by decide +kernel
theorem dMd_isAtMost_124 : decode cMd_isAtMost 124 = .ok (.istore 26, 2) := by decide +kernel
theorem dMd_isAtMost_126 : decode cMd_isAtMost 126 = .ok (.iload 26, 2) := by decide +kernel
theorem dMd_isAtMost_128 : decode cMd_isAtMost 128 = .ok (.ifCond .ne 10, 3) := by decide +kernel
theorem dMd_isAtMost_131 : decode cMd_isAtMost 131 = .ok (.iload 25, 2) := by decide +kernel
theorem dMd_isAtMost_133 : decode cMd_isAtMost 133 = .ok (.iload 16, 2) := by decide +kernel
theorem dMd_isAtMost_135 : decode cMd_isAtMost 135 = .ok (.if_icmp .eq 7, 3) := by decide +kernel
theorem dMd_isAtMost_138 : decode cMd_isAtMost 138 = .ok (.iconst 1, 1) := by decide +kernel
theorem dMd_isAtMost_139 : decode cMd_isAtMost 139 = .ok (.goto 4, 3) := by decide +kernel
theorem dMd_isAtMost_142 : decode cMd_isAtMost 142 = .ok (.iconst 0, 1) := by decide +kernel
theorem dMd_isAtMost_143 : decode cMd_isAtMost 143 = .ok (.ireturn, 1) := by decide +kernel
theorem dMd_isAtMost_144 : decode cMd_isAtMost 144 = .ok (.lload 10, 2) := by decide +kernel
theorem dMd_isAtMost_146 : decode cMd_isAtMost 146 = .ok (.lstore 8, 2) := by decide +kernel
theorem dMd_isAtMost_148 : decode cMd_isAtMost 148 = .ok (.lload 21, 2) := by decide +kernel
theorem dMd_isAtMost_150 : decode cMd_isAtMost 150 = .ok (.lstore 10, 2) := by decide +kernel
theorem dMd_isAtMost_152 : decode cMd_isAtMost 152 = .ok (.lload 14, 2) := by decide +kernel
theorem dMd_isAtMost_154 : decode cMd_isAtMost 154 = .ok (.lstore 12, 2) := by decide +kernel
theorem dMd_isAtMost_156 : decode cMd_isAtMost 156 = .ok (.lload 23, 2) := by decide +kernel
theorem dMd_isAtMost_158 : decode cMd_isAtMost 158 = .ok (.lstore 14, 2) := by decide +kernel
theorem dMd_isAtMost_160 : decode cMd_isAtMost 160 = .ok (.iload 16, 2) := by decide +kernel
theorem dMd_isAtMost_162 : decode cMd_isAtMost 162 = .ok (.ifCond .ne 7, 3) := by decide +kernel
theorem dMd_isAtMost_165 : decode cMd_isAtMost 165 = .ok (.iconst 1, 1) := by decide +kernel
theorem dMd_isAtMost_166 : decode cMd_isAtMost 166 = .ok (.goto 4, 3) := by decide +kernel
theorem dMd_isAtMost_169 : decode cMd_isAtMost 169 = .ok (.iconst 0, 1) := by decide +kernel
theorem dMd_isAtMost_170 : decode cMd_isAtMost 170 = .ok (.istore 16, 2) := by decide +kernel
theorem dMd_isAtMost_172 : decode cMd_isAtMost 172 = .ok (.goto (-155), 3) := by decide +kernel
theorem dMd_trialCost_0 : decode cMd_trialCost 0 = .ok (.lconst 0, 1) := by decide +kernel
theorem dMd_trialCost_1 : decode cMd_trialCost 1 = .ok (.lstore_n 1, 1) := by decide +kernel
theorem dMd_trialCost_2 : decode cMd_trialCost 2 = .ok (.iconst 0, 1) := by decide +kernel
theorem dMd_trialCost_3 : decode cMd_trialCost 3 = .ok (.istore_n 3, 1) := by decide +kernel
theorem dMd_trialCost_4 : decode cMd_trialCost 4 = .ok (.iload_n 3, 1) := by decide +kernel
theorem dMd_trialCost_5 : decode cMd_trialCost 5 = .ok (.aload_n 0, 1) := by decide +kernel
theorem dMd_trialCost_6 : decode cMd_trialCost 6 = .ok (.getfield 58, 3) := by decide +kernel
theorem dMd_trialCost_9 : decode cMd_trialCost 9 = .ok (.if_icmp .ge 26, 3) := by decide +kernel
theorem dMd_trialCost_12 : decode cMd_trialCost 12 = .ok (.lload_n 1, 1) := by decide +kernel
theorem dMd_trialCost_13 : decode cMd_trialCost 13 = .ok (.aload_n 0, 1) := by decide +kernel
theorem dMd_trialCost_14 : decode cMd_trialCost 14 = .ok (.getfield 51, 3) := by decide +kernel
theorem dMd_trialCost_17 : decode cMd_trialCost 17 = .ok (.iload_n 3, 1) := by decide +kernel
theorem dMd_trialCost_18 : decode cMd_trialCost 18 = .ok (.iaload, 1) := by decide +kernel
theorem dMd_trialCost_19 : decode cMd_trialCost 19 = .ok (.i2l, 1) := by decide +kernel
theorem dMd_trialCost_20 : decode cMd_trialCost 20 = .ok (.aload_n 0, 1) := by decide +kernel
theorem dMd_trialCost_21 : decode cMd_trialCost 21 = .ok (.getfield 13, 3) := by decide +kernel
theorem dMd_trialCost_24 : decode cMd_trialCost 24 = .ok (.iload_n 3, 1) := by decide +kernel
theorem dMd_trialCost_25 : decode cMd_trialCost 25 = .ok (.laload, 1) := by decide +kernel
theorem dMd_trialCost_26 : decode cMd_trialCost 26 = .ok (.lmul, 1) := by decide +kernel
theorem dMd_trialCost_27 : decode cMd_trialCost 27 = .ok (.ladd, 1) := by decide +kernel
theorem dMd_trialCost_28 : decode cMd_trialCost 28 = .ok (.lstore_n 1, 1) := by decide +kernel
theorem dMd_trialCost_29 : decode cMd_trialCost 29 = .ok (.iinc 3 1, 3) := by decide +kernel
theorem dMd_trialCost_32 : decode cMd_trialCost 32 = .ok (.goto (-28), 3) := by decide +kernel
theorem dMd_trialCost_35 : decode cMd_trialCost 35 = .ok (.lload_n 1, 1) := by decide +kernel
theorem dMd_trialCost_36 : decode cMd_trialCost 36 = .ok (.lreturn, 1) := by decide +kernel
theorem dMd_tryPlan_0 : decode cMd_tryPlan 0 = .ok (.iload_n 1, 1) := by decide +kernel
theorem dMd_tryPlan_1 : decode cMd_tryPlan 1 = .ok (.istore_n 2, 1) := by decide +kernel
theorem dMd_tryPlan_2 : decode cMd_tryPlan 2 = .ok (.iconst 3, 1) := by decide +kernel
theorem dMd_tryPlan_3 : decode cMd_tryPlan 3 = .ok (.istore_n 3, 1) := by decide +kernel
theorem dMd_tryPlan_4 : decode cMd_tryPlan 4 = .ok (.iload_n 3, 1) := by decide +kernel
theorem dMd_tryPlan_5 : decode cMd_tryPlan 5 = .ok (.ifCond .lt 46, 3) := by decide +kernel
theorem dMd_tryPlan_8 : decode cMd_tryPlan 8 = .ok (.aload_n 0, 1) := by decide +kernel
theorem dMd_tryPlan_9 : decode cMd_tryPlan 9 = .ok (.getfield 51, 3) := by decide +kernel
theorem dMd_tryPlan_12 : decode cMd_tryPlan 12 = .ok (.iload_n 3, 1) := by decide +kernel
theorem dMd_tryPlan_13 : decode cMd_tryPlan 13 = .ok (.iload_n 3, 1) := by decide +kernel
theorem dMd_tryPlan_14 : decode cMd_tryPlan 14 = .ok (.aload_n 0, 1) := by decide +kernel
theorem dMd_tryPlan_15 : decode cMd_tryPlan 15 = .ok (.getfield 58, 3) := by decide +kernel
theorem dMd_tryPlan_18 : decode cMd_tryPlan 18 = .ok (.if_icmp .ge 20, 3) := by decide +kernel
theorem dMd_tryPlan_21 : decode cMd_tryPlan 21 = .ok (.aload_n 0, 1) := by decide +kernel
theorem dMd_tryPlan_22 : decode cMd_tryPlan 22 = .ok (.iload_n 3, 1) := by decide +kernel
theorem dMd_tryPlan_23 : decode cMd_tryPlan 23 = .ok (.invokevirtual 93, 3) := by decide +kernel
theorem dMd_tryPlan_26 : decode cMd_tryPlan 26 = .ok (.ifCond .eq 12, 3) := by decide +kernel
theorem dMd_tryPlan_29 : decode cMd_tryPlan 29 = .ok (.iconst 1, 1) := by decide +kernel
theorem dMd_tryPlan_30 : decode cMd_tryPlan 30 = .ok (.iload_n 2, 1) := by decide +kernel
theorem dMd_tryPlan_31 : decode cMd_tryPlan 31 = .ok (.bipush 6, 2) := by decide +kernel
theorem dMd_tryPlan_33 : decode cMd_tryPlan 33 = .ok (.irem, 1) := by decide +kernel
theorem dMd_tryPlan_34 : decode cMd_tryPlan 34 = .ok (.iadd, 1) := by decide +kernel
theorem dMd_tryPlan_35 : decode cMd_tryPlan 35 = .ok (.goto 4, 3) := by decide +kernel
theorem dMd_tryPlan_38 : decode cMd_tryPlan 38 = .ok (.iconst 0, 1) := by decide +kernel
theorem dMd_tryPlan_39 : decode cMd_tryPlan 39 = .ok (.iastore, 1) := by decide +kernel
theorem dMd_tryPlan_40 : decode cMd_tryPlan 40 = .ok (.iload_n 2, 1) := by decide +kernel
theorem dMd_tryPlan_41 : decode cMd_tryPlan 41 = .ok (.bipush 6, 2) := by decide +kernel
theorem dMd_tryPlan_43 : decode cMd_tryPlan 43 = .ok (.idiv, 1) := by decide +kernel
theorem dMd_tryPlan_44 : decode cMd_tryPlan 44 = .ok (.istore_n 2, 1) := by decide +kernel
theorem dMd_tryPlan_45 : decode cMd_tryPlan 45 = .ok (.iinc 3 (-1), 3) := by decide +kernel
theorem dMd_tryPlan_48 : decode cMd_tryPlan 48 = .ok (.goto (-44), 3) := by decide +kernel
theorem dMd_tryPlan_51 : decode cMd_tryPlan 51 = .ok (.return_, 1) := by decide +kernel
theorem dMd_isOwn_0 : decode cMd_isOwn 0 = .ok (.iload_n 1, 1) := by decide +kernel
theorem dMd_isOwn_1 : decode cMd_isOwn 1 = .ok (.istore_n 2, 1) := by decide +kernel
theorem dMd_isOwn_2 : decode cMd_isOwn 2 = .ok (.iconst 1, 1) := by decide +kernel
theorem dMd_isOwn_3 : decode cMd_isOwn 3 = .ok (.istore_n 3, 1) := by decide +kernel
theorem dMd_isOwn_4 : decode cMd_isOwn 4 = .ok (.iconst 3, 1) := by decide +kernel
theorem dMd_isOwn_5 : decode cMd_isOwn 5 = .ok (.istore 4, 2) := by decide +kernel
theorem dMd_isOwn_7 : decode cMd_isOwn 7 = .ok (.iload 4, 2) := by decide +kernel
theorem dMd_isOwn_9 : decode cMd_isOwn 9 = .ok (.ifCond .lt 49, 3) := by decide +kernel
theorem dMd_isOwn_12 : decode cMd_isOwn 12 = .ok (.iload_n 3, 1) := by decide +kernel
theorem dMd_isOwn_13 : decode cMd_isOwn 13 = .ok (.ifCond .eq 32, 3) := by decide +kernel
theorem dMd_isOwn_16 : decode cMd_isOwn 16 = .ok (.iload 4, 2) := by decide +kernel
theorem dMd_isOwn_18 : decode cMd_isOwn 18 = .ok (.aload_n 0, 1) := by decide +kernel
theorem dMd_isOwn_19 : decode cMd_isOwn 19 = .ok (.getfield 58, 3) := by decide +kernel
theorem dMd_isOwn_22 : decode cMd_isOwn 22 = .ok (.if_icmp .ge 12, 3) := by decide +kernel
theorem dMd_isOwn_25 : decode cMd_isOwn 25 = .ok (.aload_n 0, 1) := by decide +kernel
theorem dMd_isOwn_26 : decode cMd_isOwn 26 = .ok (.iload 4, 2) := by decide +kernel
theorem dMd_isOwn_28 : decode cMd_isOwn 28 = .ok (.invokevirtual 93, 3) := by decide +kernel
theorem dMd_isOwn_31 : decode cMd_isOwn 31 = .ok (.ifCond .ne 10, 3) := by decide +kernel
theorem dMd_isOwn_34 : decode cMd_isOwn 34 = .ok (.iload_n 2, 1) := by decide +kernel
theorem dMd_isOwn_35 : decode cMd_isOwn 35 = .ok (.bipush 6, 2) := by decide +kernel
theorem dMd_isOwn_37 : decode cMd_isOwn 37 = .ok (.irem, 1) := by decide +kernel
theorem dMd_isOwn_38 : decode cMd_isOwn 38 = .ok (.ifCond .ne 7, 3) := by decide +kernel
theorem dMd_isOwn_41 : decode cMd_isOwn 41 = .ok (.iconst 1, 1) := by decide +kernel
theorem dMd_isOwn_42 : decode cMd_isOwn 42 = .ok (.goto 4, 3) := by decide +kernel
theorem dMd_isOwn_45 : decode cMd_isOwn 45 = .ok (.iconst 0, 1) := by decide +kernel
theorem dMd_isOwn_46 : decode cMd_isOwn 46 = .ok (.istore_n 3, 1) := by decide +kernel
theorem dMd_isOwn_47 : decode cMd_isOwn 47 = .ok (.iload_n 2, 1) := by decide +kernel
theorem dMd_isOwn_48 : decode cMd_isOwn 48 = .ok (.bipush 6, 2) := by decide +kernel
theorem dMd_isOwn_50 : decode cMd_isOwn 50 = .ok (.idiv, 1) := by decide +kernel
theorem dMd_isOwn_51 : decode cMd_isOwn 51 = .ok (.istore_n 2, 1) := by decide +kernel
theorem dMd_isOwn_52 : decode cMd_isOwn 52 = .ok (.iinc 4 (-1), 3) := by decide +kernel
theorem dMd_isOwn_55 : decode cMd_isOwn 55 = .ok (.goto (-48), 3) := by decide +kernel
theorem dMd_isOwn_58 : decode cMd_isOwn 58 = .ok (.iload_n 3, 1) := by decide +kernel
theorem dMd_isOwn_59 : decode cMd_isOwn 59 = .ok (.ireturn, 1) := by decide +kernel
theorem dMd_plan_0 : decode cMd_plan 0 = .ok (.aload_n 0, 1) := by decide +kernel
theorem dMd_plan_1 : decode cMd_plan 1 = .ok (.iload_n 1, 1) := by decide +kernel
theorem dMd_plan_2 : decode cMd_plan 2 = .ok (.invokevirtual 134, 3) := by decide +kernel
theorem dMd_plan_5 : decode cMd_plan 5 = .ok (.ifCond .eq 26, 3) := by decide +kernel
theorem dMd_plan_8 : decode cMd_plan 8 = .ok (.lload_n 2, 1) := by decide +kernel
theorem dMd_plan_9 : decode cMd_plan 9 = .ok (.lconst 0, 1) := by decide +kernel
theorem dMd_plan_10 : decode cMd_plan 10 = .ok (.ldc2_w 141, 3) := by decide +kernel
theorem dMd_plan_13 : decode cMd_plan 13 = .ok (.invokestatic 67, 3) := by decide +kernel
theorem dMd_plan_16 : decode cMd_plan 16 = .ok (.ifCond .eq 15, 3) := by decide +kernel
theorem dMd_plan_19 : decode cMd_plan 19 = .ok (.lload 4, 2) := by decide +kernel
theorem dMd_plan_21 : decode cMd_plan 21 = .ok (.lconst 1, 1) := by decide +kernel
theorem dMd_plan_22 : decode cMd_plan 22 = .ok (.ldc2_w 143, 3) := by decide +kernel
theorem dMd_plan_25 : decode cMd_plan 25 = .ok (.invokestatic 67, 3) := by decide +kernel
theorem dMd_plan_28 : decode cMd_plan 28 = .ok (.ifCond .ne 7, 3) := by decide +kernel
theorem dMd_plan_31 : decode cMd_plan 31 = .ok (.ldc2_w 110, 3) := by decide +kernel
theorem dMd_plan_34 : decode cMd_plan 34 = .ok (.lreturn, 1) := by decide +kernel
theorem dMd_plan_35 : decode cMd_plan 35 = .ok (.aload_n 0, 1) := by decide +kernel
theorem dMd_plan_36 : decode cMd_plan 36 = .ok (.iconst 0, 1) := by decide +kernel
theorem dMd_plan_37 : decode cMd_plan 37 = .ok (.putfield 145, 3) := by decide +kernel
theorem dMd_plan_40 : decode cMd_plan 40 = .ok (.iconst (-1), 1) := by decide +kernel
theorem dMd_plan_41 : decode cMd_plan 41 = .ok (.istore 6, 2) := by decide +kernel
theorem dMd_plan_43 : decode cMd_plan 43 = .ok (.lconst 0, 1) := by decide +kernel
theorem dMd_plan_44 : decode cMd_plan 44 = .ok (.lstore 7, 2) := by decide +kernel
theorem dMd_plan_46 : decode cMd_plan 46 = .ok (.iconst 0, 1) := by decide +kernel
theorem dMd_plan_47 : decode cMd_plan 47 = .ok (.istore 9, 2) := by decide +kernel
theorem dMd_plan_49 : decode cMd_plan 49 = .ok (.iload 9, 2) := by decide +kernel
theorem dMd_plan_51 : decode cMd_plan 51 = .ok (.sipush 1296, 3) := by decide +kernel
theorem dMd_plan_54 : decode cMd_plan 54 = .ok (.if_icmp .ge 72, 3) := by decide +kernel
theorem dMd_plan_57 : decode cMd_plan 57 = .ok (.aload_n 0, 1) := by decide +kernel
theorem dMd_plan_58 : decode cMd_plan 58 = .ok (.iload 9, 2) := by decide +kernel
theorem dMd_plan_60 : decode cMd_plan 60 = .ok (.invokevirtual 149, 3) := by decide +kernel
theorem dMd_plan_63 : decode cMd_plan 63 = .ok (.ifCond .eq 57, 3) := by decide +kernel
theorem dMd_plan_66 : decode cMd_plan 66 = .ok (.aload_n 0, 1) := by decide +kernel
theorem dMd_plan_67 : decode cMd_plan 67 = .ok (.iload 9, 2) := by decide +kernel
theorem dMd_plan_69 : decode cMd_plan 69 = .ok (.invokevirtual 152, 3) := by decide +kernel
theorem dMd_plan_72 : decode cMd_plan 72 = .ok (.aload_n 0, 1) := by decide +kernel
theorem dMd_plan_73 : decode cMd_plan 73 = .ok (.iload_n 1, 1) := by decide +kernel
theorem dMd_plan_74 : decode cMd_plan 74 = .ok (.iconst 1, 1) := by decide +kernel
theorem dMd_plan_75 : decode cMd_plan 75 = .ok (.invokevirtual 137, 3) := by decide +kernel
theorem dMd_plan_78 : decode cMd_plan 78 = .ok (.iload 6, 2) := by decide +kernel
theorem dMd_plan_80 : decode cMd_plan 80 = .ok (.ifCond .lt 13, 3) := by decide +kernel
theorem dMd_plan_83 : decode cMd_plan 83 = .ok (.aload_n 0, 1) := by decide +kernel
theorem dMd_plan_84 : decode cMd_plan 84 = .ok (.invokevirtual 156, 3) := by decide +kernel
theorem dMd_plan_87 : decode cMd_plan 87 = .ok (.lload 7, 2) := by decide +kernel
theorem dMd_plan_89 : decode cMd_plan 89 = .ok (.lcmp, 1) := by decide +kernel
theorem dMd_plan_90 : decode cMd_plan 90 = .ok (.ifCond .ge 30, 3) := by decide +kernel
theorem dMd_plan_93 : decode cMd_plan 93 = .ok (.aload_n 0, 1) := by decide +kernel
theorem dMd_plan_94 : decode cMd_plan 94 = .ok (.getfield 100, 3) := by decide +kernel
theorem dMd_plan_97 : decode cMd_plan 97 = .ok (.aload_n 0, 1) := by decide +kernel
theorem dMd_plan_98 : decode cMd_plan 98 = .ok (.getfield 103, 3) := by decide +kernel
theorem dMd_plan_101 : decode cMd_plan 101 = .ok (.lload_n 2, 1) := by decide +kernel
theorem dMd_plan_102 : decode cMd_plan 102 = .ok (.lload 4, 2) := by decide +kernel
theorem dMd_plan_104 : decode cMd_plan 104 = .ok (.invokestatic 159, 3) := by decide +kernel
theorem dMd_plan_107 : decode cMd_plan 107 = .ok (.ifCond .eq 13, 3) := by decide +kernel
theorem dMd_plan_110 : decode cMd_plan 110 = .ok (.iload 9, 2) := by decide +kernel
theorem dMd_plan_112 : decode cMd_plan 112 = .ok (.istore 6, 2) := by decide +kernel
theorem dMd_plan_114 : decode cMd_plan 114 = .ok (.aload_n 0, 1) := by decide +kernel
theorem dMd_plan_115 : decode cMd_plan 115 = .ok (.invokevirtual 156, 3) := by decide +kernel
theorem dMd_plan_118 : decode cMd_plan 118 = .ok (.lstore 7, 2) := by decide +kernel
theorem dMd_plan_120 : decode cMd_plan 120 = .ok (.iinc 9 1, 3) := by decide +kernel
theorem dMd_plan_123 : decode cMd_plan 123 = .ok (.goto (-74), 3) := by decide +kernel
theorem dMd_plan_126 : decode cMd_plan 126 = .ok (.iload 6, 2) := by decide +kernel
theorem dMd_plan_128 : decode cMd_plan 128 = .ok (.ifCond .ge 7, 3) := by decide +kernel
theorem dMd_plan_131 : decode cMd_plan 131 = .ok (.ldc2_w 110, 3) := by decide +kernel
theorem dMd_plan_134 : decode cMd_plan 134 = .ok (.lreturn, 1) := by decide +kernel
theorem dMd_plan_135 : decode cMd_plan 135 = .ok (.aload_n 0, 1) := by decide +kernel
theorem dMd_plan_136 : decode cMd_plan 136 = .ok (.iload 6, 2) := by decide +kernel
theorem dMd_plan_138 : decode cMd_plan 138 = .ok (.invokevirtual 152, 3) := by decide +kernel
theorem dMd_plan_141 : decode cMd_plan 141 = .ok (.aload_n 0, 1) := by decide +kernel
theorem dMd_plan_142 : decode cMd_plan 142 = .ok (.iconst 1, 1) := by decide +kernel
theorem dMd_plan_143 : decode cMd_plan 143 = .ok (.putfield 145, 3) := by decide +kernel
theorem dMd_plan_146 : decode cMd_plan 146 = .ok (.iconst 0, 1) := by decide +kernel
theorem dMd_plan_147 : decode cMd_plan 147 = .ok (.istore 9, 2) := by decide +kernel
theorem dMd_plan_149 : decode cMd_plan 149 = .ok (.iload 9, 2) := by decide +kernel
theorem dMd_plan_151 : decode cMd_plan 151 = .ok (.iconst 4, 1) := by decide +kernel
theorem dMd_plan_152 : decode cMd_plan 152 = .ok (.if_icmp .ge 23, 3) := by decide +kernel
theorem dMd_plan_155 : decode cMd_plan 155 = .ok (.aload_n 0, 1) := by decide +kernel
theorem dMd_plan_156 : decode cMd_plan 156 = .ok (.getfield 39, 3) := by decide +kernel
theorem dMd_plan_159 : decode cMd_plan 159 = .ok (.iload 9, 2) := by decide +kernel
theorem dMd_plan_161 : decode cMd_plan 161 = .ok (.aload_n 0, 1) := by decide +kernel
theorem dMd_plan_162 : decode cMd_plan 162 = .ok (.getfield 51, 3) := by decide +kernel
theorem dMd_plan_165 : decode cMd_plan 165 = .ok (.iload 9, 2) := by decide +kernel
theorem dMd_plan_167 : decode cMd_plan 167 = .ok (.iaload, 1) := by decide +kernel
theorem dMd_plan_168 : decode cMd_plan 168 = .ok (.iastore, 1) := by decide +kernel
theorem dMd_plan_169 : decode cMd_plan 169 = .ok (.iinc 9 1, 3) := by decide +kernel
theorem dMd_plan_172 : decode cMd_plan 172 = .ok (.goto (-23), 3) := by decide +kernel
theorem dMd_plan_175 : decode cMd_plan 175 = .ok (.lload 7, 2) := by decide +kernel
theorem dMd_plan_177 : decode cMd_plan 177 = .ok (.lreturn, 1) := by decide +kernel
theorem dMd_planned_0 : decode cMd_planned 0 = .ok (.aload_n 0, 1) := by decide +kernel
theorem dMd_planned_1 : decode cMd_planned 1 = .ok (.getfield 145, 3) := by decide +kernel
theorem dMd_planned_4 : decode cMd_planned 4 = .ok (.ifCond .eq 24, 3) := by decide +kernel
theorem dMd_planned_7 : decode cMd_planned 7 = .ok (.iload_n 1, 1) := by decide +kernel
theorem dMd_planned_8 : decode cMd_planned 8 = .ok (.ifCond .lt 20, 3) := by decide +kernel
theorem dMd_planned_11 : decode cMd_planned 11 = .ok (.iload_n 1, 1) := by decide +kernel
theorem dMd_planned_12 : decode cMd_planned 12 = .ok (.aload_n 0, 1) := by decide +kernel
theorem dMd_planned_13 : decode cMd_planned 13 = .ok (.getfield 58, 3) := by decide +kernel
theorem dMd_planned_16 : decode cMd_planned 16 = .ok (.if_icmp .ge 12, 3) := by decide +kernel
theorem dMd_planned_19 : decode cMd_planned 19 = .ok (.aload_n 0, 1) := by decide +kernel
theorem dMd_planned_20 : decode cMd_planned 20 = .ok (.getfield 39, 3) := by decide +kernel
theorem dMd_planned_23 : decode cMd_planned 23 = .ok (.iload_n 1, 1) := by decide +kernel
theorem dMd_planned_24 : decode cMd_planned 24 = .ok (.iaload, 1) := by decide +kernel
theorem dMd_planned_25 : decode cMd_planned 25 = .ok (.goto 4, 3) := by decide +kernel
theorem dMd_planned_28 : decode cMd_planned 28 = .ok (.iconst (-1), 1) := by decide +kernel
theorem dMd_planned_29 : decode cMd_planned 29 = .ok (.ireturn, 1) := by decide +kernel
theorem dMd_bagsOfYear_0 : decode cMd_bagsOfYear 0 = .ok (.iconst 0, 1) := by decide +kernel
theorem dMd_bagsOfYear_1 : decode cMd_bagsOfYear 1 = .ok (.istore_n 2, 1) := by decide +kernel
theorem dMd_bagsOfYear_2 : decode cMd_bagsOfYear 2 = .ok (.iconst 0, 1) := by decide +kernel
theorem dMd_bagsOfYear_3 : decode cMd_bagsOfYear 3 = .ok (.istore_n 3, 1) := by decide +kernel
theorem dMd_bagsOfYear_4 : decode cMd_bagsOfYear 4 = .ok (.iload_n 3, 1) := by decide +kernel
theorem dMd_bagsOfYear_5 : decode cMd_bagsOfYear 5 = .ok (.aload_n 0, 1) := by decide +kernel
theorem dMd_bagsOfYear_6 : decode cMd_bagsOfYear 6 = .ok (.getfield 62, 3) := by decide +kernel
theorem dMd_bagsOfYear_9 : decode cMd_bagsOfYear 9 = .ok (.if_icmp .ge 36, 3) := by decide +kernel
theorem dMd_bagsOfYear_12 : decode cMd_bagsOfYear 12 = .ok (.iload_n 2, 1) := by decide +kernel
theorem dMd_bagsOfYear_13 : decode cMd_bagsOfYear 13 = .ok (.aload_n 0, 1) := by decide +kernel
theorem dMd_bagsOfYear_14 : decode cMd_bagsOfYear 14 = .ok (.getfield 33, 3) := by decide +kernel
theorem dMd_bagsOfYear_17 : decode cMd_bagsOfYear 17 = .ok (.iload_n 3, 1) := by decide +kernel
theorem dMd_bagsOfYear_18 : decode cMd_bagsOfYear 18 = .ok (.baload, 1) := by decide +kernel
theorem dMd_bagsOfYear_19 : decode cMd_bagsOfYear 19 = .ok (.ifCond .ne 17, 3) := by decide +kernel
theorem dMd_bagsOfYear_22 : decode cMd_bagsOfYear 22 = .ok (.aload_n 0, 1) := by decide +kernel
theorem dMd_bagsOfYear_23 : decode cMd_bagsOfYear 23 = .ok (.getfield 30, 3) := by decide +kernel
theorem dMd_bagsOfYear_26 : decode cMd_bagsOfYear 26 = .ok (.iload_n 3, 1) := by decide +kernel
theorem dMd_bagsOfYear_27 : decode cMd_bagsOfYear 27 = .ok (.iaload, 1) := by decide +kernel
theorem dMd_bagsOfYear_28 : decode cMd_bagsOfYear 28 = .ok (.iload_n 1, 1) := by decide +kernel
theorem dMd_bagsOfYear_29 : decode cMd_bagsOfYear 29 = .ok (.if_icmp .ne 7, 3) := by decide +kernel
theorem dMd_bagsOfYear_32 : decode cMd_bagsOfYear 32 = .ok (.iconst 1, 1) := by decide +kernel
theorem dMd_bagsOfYear_33 : decode cMd_bagsOfYear 33 = .ok (.goto 4, 3) := by decide +kernel
theorem dMd_bagsOfYear_36 : decode cMd_bagsOfYear 36 = .ok (.iconst 0, 1) := by decide +kernel
theorem dMd_bagsOfYear_37 : decode cMd_bagsOfYear 37 = .ok (.iadd, 1) := by decide +kernel
theorem dMd_bagsOfYear_38 : decode cMd_bagsOfYear 38 = .ok (.istore_n 2, 1) := by decide +kernel
theorem dMd_bagsOfYear_39 : decode cMd_bagsOfYear 39 = .ok (.iinc 3 1, 3) := by decide +kernel
theorem dMd_bagsOfYear_42 : decode cMd_bagsOfYear 42 = .ok (.goto (-38), 3) := by decide +kernel
theorem dMd_bagsOfYear_45 : decode cMd_bagsOfYear 45 = .ok (.iload_n 2, 1) := by decide +kernel
theorem dMd_bagsOfYear_46 : decode cMd_bagsOfYear 46 = .ok (.ireturn, 1) := by decide +kernel
theorem dMd_apart_0 : decode cMd_apart 0 = .ok (.lconst 0, 1) := by decide +kernel
theorem dMd_apart_1 : decode cMd_apart 1 = .ok (.lstore 7, 2) := by decide +kernel
theorem dMd_apart_3 : decode cMd_apart 3 = .ok (.lconst 0, 1) := by decide +kernel
theorem dMd_apart_4 : decode cMd_apart 4 = .ok (.lstore 9, 2) := by decide +kernel
theorem dMd_apart_6 : decode cMd_apart 6 = .ok (.iconst 0, 1) := by decide +kernel
theorem dMd_apart_7 : decode cMd_apart 7 = .ok (.istore 11, 2) := by decide +kernel
theorem dMd_apart_9 : decode cMd_apart 9 = .ok (.iload 11, 2) := by decide +kernel
theorem dMd_apart_11 : decode cMd_apart 11 = .ok (.aload_n 0, 1) := by decide +kernel
theorem dMd_apart_12 : decode cMd_apart 12 = .ok (.getfield 62, 3) := by decide +kernel
theorem dMd_apart_15 : decode cMd_apart 15 = .ok (.if_icmp .ge 85, 3) := by decide +kernel
theorem dMd_apart_18 : decode cMd_apart 18 = .ok (.iload_n 2, 1) := by decide +kernel
theorem dMd_apart_19 : decode cMd_apart 19 = .ok (.iload 11, 2) := by decide +kernel
theorem dMd_apart_21 : decode cMd_apart 21 = .ok (.ishr, 1) := by decide +kernel
theorem dMd_apart_22 : decode cMd_apart 22 = .ok (.iconst 1, 1) := by decide +kernel
theorem dMd_apart_23 : decode cMd_apart 23 = .ok (.iand, 1) := by decide +kernel
theorem dMd_apart_24 : decode cMd_apart 24 = .ok (.iconst 1, 1) := by decide +kernel
theorem dMd_apart_25 : decode cMd_apart 25 = .ok (.if_icmp .ne 7, 3) := by decide +kernel
theorem dMd_apart_28 : decode cMd_apart 28 = .ok (.iconst 1, 1) := by decide +kernel
theorem dMd_apart_29 : decode cMd_apart 29 = .ok (.goto 4, 3) := by decide +kernel
theorem dMd_apart_32 : decode cMd_apart 32 = .ok (.iconst 0, 1) := by decide +kernel
theorem dMd_apart_33 : decode cMd_apart 33 = .ok (.istore 12, 2) := by decide +kernel
theorem dMd_apart_35 : decode cMd_apart 35 = .ok (.aload_n 0, 1) := by decide +kernel
theorem dMd_apart_36 : decode cMd_apart 36 = .ok (.getfield 33, 3) := by decide +kernel
theorem dMd_apart_39 : decode cMd_apart 39 = .ok (.iload 11, 2) := by decide +kernel
theorem dMd_apart_41 : decode cMd_apart 41 = .ok (.baload, 1) := by decide +kernel
theorem dMd_apart_42 : decode cMd_apart 42 = .ok (.ifCond .eq 7, 3) := by decide +kernel
theorem dMd_apart_45 : decode cMd_apart 45 = .ok (.lconst 0, 1) := by decide +kernel
theorem dMd_apart_46 : decode cMd_apart 46 = .ok (.goto 14, 3) := by decide +kernel
theorem dMd_apart_49 : decode cMd_apart 49 = .ok (.aload_n 0, 1) := by decide +kernel
theorem dMd_apart_50 : decode cMd_apart 50 = .ok (.getfield 36, 3) := by decide +kernel
theorem dMd_apart_53 : decode cMd_apart 53 = .ok (.iconst 3, 1) := by decide +kernel
theorem dMd_apart_54 : decode cMd_apart 54 = .ok (.iload 11, 2) := by decide +kernel
theorem dMd_apart_56 : decode cMd_apart 56 = .ok (.imul, 1) := by decide +kernel
theorem dMd_apart_57 : decode cMd_apart 57 = .ok (.iload_n 1, 1) := by decide +kernel
theorem dMd_apart_58 : decode cMd_apart 58 = .ok (.iadd, 1) := by decide +kernel
theorem dMd_apart_59 : decode cMd_apart 59 = .ok (.laload, 1) := by decide +kernel
theorem dMd_apart_60 : decode cMd_apart 60 = .ok (.lstore 13, 2) := by decide +kernel
theorem dMd_apart_62 : decode cMd_apart 62 = .ok (.lload 7, 2) := by decide +kernel
theorem dMd_apart_64 : decode cMd_apart 64 = .ok (.iload 12, 2) := by decide +kernel
theorem dMd_apart_66 : decode cMd_apart 66 = .ok (.ifCond .eq 8, 3) := by decide +kernel
theorem dMd_apart_69 : decode cMd_apart 69 = .ok (.lload 13, 2) := by decide +kernel
theorem dMd_apart_71 : decode cMd_apart 71 = .ok (.goto 4, 3) := by decide +kernel
theorem dMd_apart_74 : decode cMd_apart 74 = .ok (.lconst 0, 1) := by decide +kernel
theorem dMd_apart_75 : decode cMd_apart 75 = .ok (.ladd, 1) := by decide +kernel
theorem dMd_apart_76 : decode cMd_apart 76 = .ok (.lstore 7, 2) := by decide +kernel
theorem dMd_apart_78 : decode cMd_apart 78 = .ok (.lload 9, 2) := by decide +kernel
theorem dMd_apart_80 : decode cMd_apart 80 = .ok (.iload 12, 2) := by decide +kernel
theorem dMd_apart_82 : decode cMd_apart 82 = .ok (.ifCond .eq 7, 3) := by decide +kernel
theorem dMd_apart_85 : decode cMd_apart 85 = .ok (.lconst 0, 1) := by decide +kernel
theorem dMd_apart_86 : decode cMd_apart 86 = .ok (.goto 5, 3) := by decide +kernel
theorem dMd_apart_89 : decode cMd_apart 89 = .ok (.lload 13, 2) := by decide +kernel
theorem dMd_apart_91 : decode cMd_apart 91 = .ok (.ladd, 1) := by decide +kernel
theorem dMd_apart_92 : decode cMd_apart 92 = .ok (.lstore 9, 2) := by decide +kernel
theorem dMd_apart_94 : decode cMd_apart 94 = .ok (.iinc 11 1, 3) := by decide +kernel
theorem dMd_apart_97 : decode cMd_apart 97 = .ok (.goto (-88), 3) := by decide +kernel
theorem dMd_apart_100 : decode cMd_apart 100 = .ok (.lload 7, 2) := by decide +kernel
theorem dMd_apart_102 : decode cMd_apart 102 = .ok (.lload 5, 2) := by decide +kernel
theorem dMd_apart_104 : decode cMd_apart 104 = .ok (.lmul, 1) := by decide +kernel
theorem dMd_apart_105 : decode cMd_apart 105 = .ok (.lload 9, 2) := by decide +kernel
theorem dMd_apart_107 : decode cMd_apart 107 = .ok (.lload_n 3, 1) := by decide +kernel
theorem dMd_apart_108 : decode cMd_apart 108 = .ok (.lmul, 1) := by decide +kernel
theorem dMd_apart_109 : decode cMd_apart 109 = .ok (.lsub, 1) := by decide +kernel
theorem dMd_apart_110 : decode cMd_apart 110 = .ok (.lstore 11, 2) := by decide +kernel
theorem dMd_apart_112 : decode cMd_apart 112 = .ok (.lload 11, 2) := by decide +kernel
theorem dMd_apart_114 : decode cMd_apart 114 = .ok (.lconst 0, 1) := by decide +kernel
theorem dMd_apart_115 : decode cMd_apart 115 = .ok (.lcmp, 1) := by decide +kernel
theorem dMd_apart_116 : decode cMd_apart 116 = .ok (.ifCond .ge 9, 3) := by decide +kernel
theorem dMd_apart_119 : decode cMd_apart 119 = .ok (.lload 11, 2) := by decide +kernel
theorem dMd_apart_121 : decode cMd_apart 121 = .ok (.lneg, 1) := by decide +kernel
theorem dMd_apart_122 : decode cMd_apart 122 = .ok (.goto 5, 3) := by decide +kernel
theorem dMd_apart_125 : decode cMd_apart 125 = .ok (.lload 11, 2) := by decide +kernel
theorem dMd_apart_127 : decode cMd_apart 127 = .ok (.lreturn, 1) := by decide +kernel
theorem dMd_compared_0 : decode cMd_compared 0 = .ok (.aload_n 0, 1) := by decide +kernel
theorem dMd_compared_1 : decode cMd_compared 1 = .ok (.iconst 0, 1) := by decide +kernel
theorem dMd_compared_2 : decode cMd_compared 2 = .ok (.invokevirtual 163, 3) := by decide +kernel
theorem dMd_compared_5 : decode cMd_compared 5 = .ok (.istore_n 3, 1) := by decide +kernel
theorem dMd_compared_6 : decode cMd_compared 6 = .ok (.aload_n 0, 1) := by decide +kernel
theorem dMd_compared_7 : decode cMd_compared 7 = .ok (.iconst 1, 1) := by decide +kernel
theorem dMd_compared_8 : decode cMd_compared 8 = .ok (.invokevirtual 163, 3) := by decide +kernel
theorem dMd_compared_11 : decode cMd_compared 11 = .ok (.istore 4, 2) := by decide +kernel
theorem dMd_compared_13 : decode cMd_compared 13 = .ok (.iload_n 1, 1) := by decide +kernel
theorem dMd_compared_14 : decode cMd_compared 14 = .ok (.invokestatic 80, 3) := by decide +kernel
theorem dMd_compared_17 : decode cMd_compared 17 = .ok (.ifCond .eq 30, 3) := by decide +kernel
theorem dMd_compared_20 : decode cMd_compared 20 = .ok (.iload_n 2, 1) := by decide +kernel
theorem dMd_compared_21 : decode cMd_compared 21 = .ok (.ifCond .lt 26, 3) := by decide +kernel
theorem dMd_compared_24 : decode cMd_compared 24 = .ok (.iload_n 2, 1) := by decide +kernel
theorem dMd_compared_25 : decode cMd_compared 25 = .ok (.iconst 1, 1) := by decide +kernel
theorem dMd_compared_26 : decode cMd_compared 26 = .ok (.if_icmp .gt 21, 3) := by decide +kernel
theorem dMd_compared_29 : decode cMd_compared 29 = .ok (.iload_n 3, 1) := by decide +kernel
theorem dMd_compared_30 : decode cMd_compared 30 = .ok (.ifCond .eq 17, 3) := by decide +kernel
theorem dMd_compared_33 : decode cMd_compared 33 = .ok (.iload 4, 2) := by decide +kernel
theorem dMd_compared_35 : decode cMd_compared 35 = .ok (.ifCond .eq 12, 3) := by decide +kernel
theorem dMd_compared_38 : decode cMd_compared 38 = .ok (.iload_n 3, 1) := by decide +kernel
theorem dMd_compared_39 : decode cMd_compared 39 = .ok (.iload 4, 2) := by decide +kernel
theorem dMd_compared_41 : decode cMd_compared 41 = .ok (.iadd, 1) := by decide +kernel
theorem dMd_compared_42 : decode cMd_compared 42 = .ok (.bipush 10, 2) := by decide +kernel
theorem dMd_compared_44 : decode cMd_compared 44 = .ok (.if_icmp .le 7, 3) := by decide +kernel
theorem dMd_compared_47 : decode cMd_compared 47 = .ok (.ldc2_w 110, 3) := by decide +kernel
theorem dMd_compared_50 : decode cMd_compared 50 = .ok (.lreturn, 1) := by decide +kernel
theorem dMd_compared_51 : decode cMd_compared 51 = .ok (.iconst 0, 1) := by decide +kernel
theorem dMd_compared_52 : decode cMd_compared 52 = .ok (.istore 5, 2) := by decide +kernel
theorem dMd_compared_54 : decode cMd_compared 54 = .ok (.iconst 0, 1) := by decide +kernel
theorem dMd_compared_55 : decode cMd_compared 55 = .ok (.istore 6, 2) := by decide +kernel
theorem dMd_compared_57 : decode cMd_compared 57 = .ok (.iconst 0, 1) := by decide +kernel
theorem dMd_compared_58 : decode cMd_compared 58 = .ok (.istore 7, 2) := by decide +kernel
theorem dMd_compared_60 : decode cMd_compared 60 = .ok (.iload 7, 2) := by decide +kernel
theorem dMd_compared_62 : decode cMd_compared 62 = .ok (.aload_n 0, 1) := by decide +kernel
theorem dMd_compared_63 : decode cMd_compared 63 = .ok (.getfield 62, 3) := by decide +kernel
theorem dMd_compared_66 : decode cMd_compared 66 = .ok (.if_icmp .ge 66, 3) := by decide +kernel
theorem dMd_compared_69 : decode cMd_compared 69 = .ok (.iload 5, 2) := by decide +kernel
theorem dMd_compared_71 : decode cMd_compared 71 = .ok (.aload_n 0, 1) := by decide +kernel
theorem dMd_compared_72 : decode cMd_compared 72 = .ok (.getfield 33, 3) := by decide +kernel
theorem dMd_compared_75 : decode cMd_compared 75 = .ok (.iload 7, 2) := by decide +kernel
theorem dMd_compared_77 : decode cMd_compared 77 = .ok (.baload, 1) := by decide +kernel
theorem dMd_compared_78 : decode cMd_compared 78 = .ok (.ifCond .eq 7, 3) := by decide +kernel
theorem dMd_compared_81 : decode cMd_compared 81 = .ok (.iconst 0, 1) := by decide +kernel
theorem dMd_compared_82 : decode cMd_compared 82 = .ok (.goto 7, 3) := by decide +kernel
theorem dMd_compared_85 : decode cMd_compared 85 = .ok (.iconst 1, 1) := by decide +kernel
theorem dMd_compared_86 : decode cMd_compared 86 = .ok (.iload 7, 2) := by decide +kernel
theorem dMd_compared_88 : decode cMd_compared 88 = .ok (.ishl, 1) := by decide +kernel
theorem dMd_compared_89 : decode cMd_compared 89 = .ok (.ior, 1) := by decide +kernel
theorem dMd_compared_90 : decode cMd_compared 90 = .ok (.istore 5, 2) := by decide +kernel
theorem dMd_compared_92 : decode cMd_compared 92 = .ok (.iload 6, 2) := by decide +kernel
theorem dMd_compared_94 : decode cMd_compared 94 = .ok (.aload_n 0, 1) := by decide +kernel
theorem dMd_compared_95 : decode cMd_compared 95 = .ok (.getfield 33, 3) := by decide +kernel
theorem dMd_compared_98 : decode cMd_compared 98 = .ok (.iload 7, 2) := by decide +kernel
theorem dMd_compared_100 : decode cMd_compared 100 = .ok (.baload, 1) := by decide +kernel
theorem dMd_compared_101 : decode cMd_compared 101 = .ok (.ifCond .ne 14, 3) := by decide +kernel
theorem dMd_compared_104 : decode cMd_compared 104 = .ok (.aload_n 0, 1) := by decide +kernel
theorem dMd_compared_105 : decode cMd_compared 105 = .ok (.getfield 30, 3) := by decide +kernel
theorem dMd_compared_108 : decode cMd_compared 108 = .ok (.iload 7, 2) := by decide +kernel
theorem dMd_compared_110 : decode cMd_compared 110 = .ok (.iaload, 1) := by decide +kernel
theorem dMd_compared_111 : decode cMd_compared 111 = .ok (.iconst 1, 1) := by decide +kernel
theorem dMd_compared_112 : decode cMd_compared 112 = .ok (.if_icmp .ne 7, 3) := by decide +kernel
theorem dMd_compared_115 : decode cMd_compared 115 = .ok (.iconst 0, 1) := by decide +kernel
theorem dMd_compared_116 : decode cMd_compared 116 = .ok (.goto 7, 3) := by decide +kernel
theorem dMd_compared_119 : decode cMd_compared 119 = .ok (.iconst 1, 1) := by decide +kernel
theorem dMd_compared_120 : decode cMd_compared 120 = .ok (.iload 7, 2) := by decide +kernel
theorem dMd_compared_122 : decode cMd_compared 122 = .ok (.ishl, 1) := by decide +kernel
theorem dMd_compared_123 : decode cMd_compared 123 = .ok (.ior, 1) := by decide +kernel
theorem dMd_compared_124 : decode cMd_compared 124 = .ok (.istore 6, 2) := by decide +kernel
theorem dMd_compared_126 : decode cMd_compared 126 = .ok (.iinc 7 1, 3) := by decide +kernel
theorem dMd_compared_129 : decode cMd_compared 129 = .ok (.goto (-69), 3) := by decide +kernel
theorem dMd_compared_132 : decode cMd_compared 132 = .ok (.aload_n 0, 1) := by decide +kernel
theorem dMd_compared_133 : decode cMd_compared 133 = .ok (.iload_n 1, 1) := by decide +kernel
theorem dMd_compared_134 : decode cMd_compared 134 = .ok (.iload 6, 2) := by decide +kernel
theorem dMd_compared_136 : decode cMd_compared 136 = .ok (.iload_n 3, 1) := by decide +kernel
theorem dMd_compared_137 : decode cMd_compared 137 = .ok (.i2l, 1) := by decide +kernel
theorem dMd_compared_138 : decode cMd_compared 138 = .ok (.iload 4, 2) := by decide +kernel
theorem dMd_compared_140 : decode cMd_compared 140 = .ok (.i2l, 1) := by decide +kernel
theorem dMd_compared_141 : decode cMd_compared 141 = .ok (.invokevirtual 166, 3) := by decide +kernel
theorem dMd_compared_144 : decode cMd_compared 144 = .ok (.lstore 7, 2) := by decide +kernel
theorem dMd_compared_146 : decode cMd_compared 146 = .ok (.lconst 0, 1) := by decide +kernel
theorem dMd_compared_147 : decode cMd_compared 147 = .ok (.lstore 9, 2) := by decide +kernel
theorem dMd_compared_149 : decode cMd_compared 149 = .ok (.lconst 0, 1) := by decide +kernel
theorem dMd_compared_150 : decode cMd_compared 150 = .ok (.lstore 11, 2) := by decide +kernel
theorem dMd_compared_152 : decode cMd_compared 152 = .ok (.iconst 0, 1) := by decide +kernel
theorem dMd_compared_153 : decode cMd_compared 153 = .ok (.istore 13, 2) := by decide +kernel
theorem dMd_compared_155 : decode cMd_compared 155 = .ok (.iload 13, 2) := by decide +kernel
theorem dMd_compared_157 : decode cMd_compared 157 = .ok (.iconst 1, 1) := by decide +kernel
theorem dMd_compared_158 : decode cMd_compared 158 = .ok (.aload_n 0, 1) := by decide +kernel
theorem dMd_compared_159 : decode cMd_compared 159 = .ok (.getfield 62, 3) := by decide +kernel
theorem dMd_compared_162 : decode cMd_compared 162 = .ok (.ishl, 1) := by decide +kernel
theorem dMd_compared_163 : decode cMd_compared 163 = .ok (.if_icmp .ge 92, 3) := by decide +kernel
theorem dMd_compared_166 : decode cMd_compared 166 = .ok (.iconst 0, 1) := by decide +kernel
theorem dMd_compared_167 : decode cMd_compared 167 = .ok (.istore 14, 2) := by decide +kernel
theorem dMd_compared_169 : decode cMd_compared 169 = .ok (.iconst 0, 1) := by decide +kernel
theorem dMd_compared_170 : decode cMd_compared 170 = .ok (.istore 15, 2) := by decide +kernel
theorem dMd_compared_172 : decode cMd_compared 172 = .ok (.iload 15, 2) := by decide +kernel
theorem dMd_compared_174 : decode cMd_compared 174 = .ok (.aload_n 0, 1) := by decide +kernel
theorem dMd_compared_175 : decode cMd_compared 175 = .ok (.getfield 62, 3) := by decide +kernel
theorem dMd_compared_178 : decode cMd_compared 178 = .ok (.if_icmp .ge 21, 3) := by decide +kernel
theorem dMd_compared_181 : decode cMd_compared 181 = .ok (.iload 14, 2) := by decide +kernel
theorem dMd_compared_183 : decode cMd_compared 183 = .ok (.iload 13, 2) := by decide +kernel
theorem dMd_compared_185 : decode cMd_compared 185 = .ok (.iload 15, 2) := by decide +kernel
theorem dMd_compared_187 : decode cMd_compared 187 = .ok (.ishr, 1) := by decide +kernel
theorem dMd_compared_188 : decode cMd_compared 188 = .ok (.iconst 1, 1) := by decide +kernel
theorem dMd_compared_189 : decode cMd_compared 189 = .ok (.iand, 1) := by decide +kernel
theorem dMd_compared_190 : decode cMd_compared 190 = .ok (.iadd, 1) := by decide +kernel
theorem dMd_compared_191 : decode cMd_compared 191 = .ok (.istore 14, 2) := by decide +kernel
theorem dMd_compared_193 : decode cMd_compared 193 = .ok (.iinc 15 1, 3) := by decide +kernel
theorem dMd_compared_196 : decode cMd_compared 196 = .ok (.goto (-24), 3) := by decide +kernel
theorem dMd_compared_199 : decode cMd_compared 199 = .ok (.iload 13, 2) := by decide +kernel
theorem dMd_compared_201 : decode cMd_compared 201 = .ok (.iload 5, 2) := by decide +kernel
theorem dMd_compared_203 : decode cMd_compared 203 = .ok (.iand, 1) := by decide +kernel
theorem dMd_compared_204 : decode cMd_compared 204 = .ok (.iload 13, 2) := by decide +kernel
theorem dMd_compared_206 : decode cMd_compared 206 = .ok (.if_icmp .ne 43, 3) := by decide +kernel
theorem dMd_compared_209 : decode cMd_compared 209 = .ok (.iload 14, 2) := by decide +kernel
theorem dMd_compared_211 : decode cMd_compared 211 = .ok (.iload_n 3, 1) := by decide +kernel
theorem dMd_compared_212 : decode cMd_compared 212 = .ok (.if_icmp .ne 37, 3) := by decide +kernel
theorem dMd_compared_215 : decode cMd_compared 215 = .ok (.lload 9, 2) := by decide +kernel
theorem dMd_compared_217 : decode cMd_compared 217 = .ok (.lconst 1, 1) := by decide +kernel
theorem dMd_compared_218 : decode cMd_compared 218 = .ok (.ladd, 1) := by decide +kernel
theorem dMd_compared_219 : decode cMd_compared 219 = .ok (.lstore 9, 2) := by decide +kernel
theorem dMd_compared_221 : decode cMd_compared 221 = .ok (.lload 11, 2) := by decide +kernel
theorem dMd_compared_223 : decode cMd_compared 223 = .ok (.aload_n 0, 1) := by decide +kernel
theorem dMd_compared_224 : decode cMd_compared 224 = .ok (.iload_n 1, 1) := by decide +kernel
theorem dMd_compared_225 : decode cMd_compared 225 = .ok (.iload 13, 2) := by decide +kernel
theorem dMd_compared_227 : decode cMd_compared 227 = .ok (.iload_n 3, 1) := by decide +kernel
theorem dMd_compared_228 : decode cMd_compared 228 = .ok (.i2l, 1) := by decide +kernel
theorem dMd_compared_229 : decode cMd_compared 229 = .ok (.iload 4, 2) := by decide +kernel
theorem dMd_compared_231 : decode cMd_compared 231 = .ok (.i2l, 1) := by decide +kernel
theorem dMd_compared_232 : decode cMd_compared 232 = .ok (.invokevirtual 166, 3) := by decide +kernel
theorem dMd_compared_235 : decode cMd_compared 235 = .ok (.lload 7, 2) := by decide +kernel
theorem dMd_compared_237 : decode cMd_compared 237 = .ok (.lcmp, 1) := by decide +kernel
theorem dMd_compared_238 : decode cMd_compared 238 = .ok (.ifCond .lt 7, 3) := by decide +kernel
theorem dMd_compared_241 : decode cMd_compared 241 = .ok (.lconst 1, 1) := by decide +kernel
theorem dMd_compared_242 : decode cMd_compared 242 = .ok (.goto 4, 3) := by decide +kernel
theorem dMd_compared_245 : decode cMd_compared 245 = .ok (.lconst 0, 1) := by decide +kernel
theorem dMd_compared_246 : decode cMd_compared 246 = .ok (.ladd, 1) := by decide +kernel
theorem dMd_compared_247 : decode cMd_compared 247 = .ok (.lstore 11, 2) := by decide +kernel
theorem dMd_compared_249 : decode cMd_compared 249 = .ok (.iinc 13 1, 3) := by decide +kernel
theorem dMd_compared_252 : decode cMd_compared 252 = .ok (.goto (-97), 3) := by decide +kernel
theorem dMd_compared_255 : decode cMd_compared 255 = .ok (.iload_n 2, 1) := by decide +kernel
theorem dMd_compared_256 : decode cMd_compared 256 = .ok (.ifCond .ne 8, 3) := by decide +kernel
theorem dMd_compared_259 : decode cMd_compared 259 = .ok (.lload 11, 2) := by decide +kernel
theorem dMd_compared_261 : decode cMd_compared 261 = .ok (.goto 5, 3) := by decide +kernel
theorem dMd_compared_264 : decode cMd_compared 264 = .ok (.lload 9, 2) := by decide +kernel
theorem dMd_compared_266 : decode cMd_compared 266 = .ok (.lreturn, 1) := by decide +kernel
theorem dMd_joined_0 : decode cMd_joined 0 = .ok (.aload_n 0, 1) := by decide +kernel
theorem dMd_joined_1 : decode cMd_joined 1 = .ok (.iload_n 1, 1) := by decide +kernel
theorem dMd_joined_2 : decode cMd_joined 2 = .ok (.invokevirtual 71, 3) := by decide +kernel
theorem dMd_joined_5 : decode cMd_joined 5 = .ok (.ifCond .eq 34, 3) := by decide +kernel
theorem dMd_joined_8 : decode cMd_joined 8 = .ok (.aload_n 0, 1) := by decide +kernel
theorem dMd_joined_9 : decode cMd_joined 9 = .ok (.iload_n 2, 1) := by decide +kernel
theorem dMd_joined_10 : decode cMd_joined 10 = .ok (.invokevirtual 71, 3) := by decide +kernel
theorem dMd_joined_13 : decode cMd_joined 13 = .ok (.ifCond .eq 26, 3) := by decide +kernel
theorem dMd_joined_16 : decode cMd_joined 16 = .ok (.iload_n 1, 1) := by decide +kernel
theorem dMd_joined_17 : decode cMd_joined 17 = .ok (.iload_n 2, 1) := by decide +kernel
theorem dMd_joined_18 : decode cMd_joined 18 = .ok (.if_icmp .eq 21, 3) := by decide +kernel
theorem dMd_joined_21 : decode cMd_joined 21 = .ok (.aload_n 0, 1) := by decide +kernel
theorem dMd_joined_22 : decode cMd_joined 22 = .ok (.getfield 7, 3) := by decide +kernel
theorem dMd_joined_25 : decode cMd_joined 25 = .ok (.iload_n 1, 1) := by decide +kernel
theorem dMd_joined_26 : decode cMd_joined 26 = .ok (.iaload, 1) := by decide +kernel
theorem dMd_joined_27 : decode cMd_joined 27 = .ok (.aload_n 0, 1) := by decide +kernel
theorem dMd_joined_28 : decode cMd_joined 28 = .ok (.getfield 7, 3) := by decide +kernel
theorem dMd_joined_31 : decode cMd_joined 31 = .ok (.iload_n 2, 1) := by decide +kernel
theorem dMd_joined_32 : decode cMd_joined 32 = .ok (.iaload, 1) := by decide +kernel
theorem dMd_joined_33 : decode cMd_joined 33 = .ok (.iadd, 1) := by decide +kernel
theorem dMd_joined_34 : decode cMd_joined 34 = .ok (.bipush 100, 2) := by decide +kernel
theorem dMd_joined_36 : decode cMd_joined 36 = .ok (.if_icmp .le 5, 3) := by decide +kernel
theorem dMd_joined_39 : decode cMd_joined 39 = .ok (.iconst 0, 1) := by decide +kernel
theorem dMd_joined_40 : decode cMd_joined 40 = .ok (.ireturn, 1) := by decide +kernel
theorem dMd_joined_41 : decode cMd_joined 41 = .ok (.iconst 0, 1) := by decide +kernel
theorem dMd_joined_42 : decode cMd_joined 42 = .ok (.istore_n 3, 1) := by decide +kernel
theorem dMd_joined_43 : decode cMd_joined 43 = .ok (.iload_n 3, 1) := by decide +kernel
theorem dMd_joined_44 : decode cMd_joined 44 = .ok (.aload_n 0, 1) := by decide +kernel
theorem dMd_joined_45 : decode cMd_joined 45 = .ok (.getfield 62, 3) := by decide +kernel
theorem dMd_joined_48 : decode cMd_joined 48 = .ok (.if_icmp .ge 35, 3) := by decide +kernel
theorem dMd_joined_51 : decode cMd_joined 51 = .ok (.aload_n 0, 1) := by decide +kernel
theorem dMd_joined_52 : decode cMd_joined 52 = .ok (.getfield 27, 3) := by decide +kernel
theorem dMd_joined_55 : decode cMd_joined 55 = .ok (.iload_n 3, 1) := by decide +kernel
theorem dMd_joined_56 : decode cMd_joined 56 = .ok (.aload_n 0, 1) := by decide +kernel
theorem dMd_joined_57 : decode cMd_joined 57 = .ok (.getfield 27, 3) := by decide +kernel
theorem dMd_joined_60 : decode cMd_joined 60 = .ok (.iload_n 3, 1) := by decide +kernel
theorem dMd_joined_61 : decode cMd_joined 61 = .ok (.iaload, 1) := by decide +kernel
theorem dMd_joined_62 : decode cMd_joined 62 = .ok (.iload_n 2, 1) := by decide +kernel
theorem dMd_joined_63 : decode cMd_joined 63 = .ok (.if_icmp .ne 7, 3) := by decide +kernel
theorem dMd_joined_66 : decode cMd_joined 66 = .ok (.iload_n 1, 1) := by decide +kernel
theorem dMd_joined_67 : decode cMd_joined 67 = .ok (.goto 9, 3) := by decide +kernel
theorem dMd_joined_70 : decode cMd_joined 70 = .ok (.aload_n 0, 1) := by decide +kernel
theorem dMd_joined_71 : decode cMd_joined 71 = .ok (.getfield 27, 3) := by decide +kernel
theorem dMd_joined_74 : decode cMd_joined 74 = .ok (.iload_n 3, 1) := by decide +kernel
theorem dMd_joined_75 : decode cMd_joined 75 = .ok (.iaload, 1) := by decide +kernel
theorem dMd_joined_76 : decode cMd_joined 76 = .ok (.iastore, 1) := by decide +kernel
theorem dMd_joined_77 : decode cMd_joined 77 = .ok (.iinc 3 1, 3) := by decide +kernel
theorem dMd_joined_80 : decode cMd_joined 80 = .ok (.goto (-37), 3) := by decide +kernel
theorem dMd_joined_83 : decode cMd_joined 83 = .ok (.aload_n 0, 1) := by decide +kernel
theorem dMd_joined_84 : decode cMd_joined 84 = .ok (.getfield 7, 3) := by decide +kernel
theorem dMd_joined_87 : decode cMd_joined 87 = .ok (.iload_n 1, 1) := by decide +kernel
theorem dMd_joined_88 : decode cMd_joined 88 = .ok (.dup2, 1) := by decide +kernel
theorem dMd_joined_89 : decode cMd_joined 89 = .ok (.iaload, 1) := by decide +kernel
theorem dMd_joined_90 : decode cMd_joined 90 = .ok (.aload_n 0, 1) := by decide +kernel
theorem dMd_joined_91 : decode cMd_joined 91 = .ok (.getfield 7, 3) := by decide +kernel
theorem dMd_joined_94 : decode cMd_joined 94 = .ok (.iload_n 2, 1) := by decide +kernel
theorem dMd_joined_95 : decode cMd_joined 95 = .ok (.iaload, 1) := by decide +kernel
theorem dMd_joined_96 : decode cMd_joined 96 = .ok (.iadd, 1) := by decide +kernel
theorem dMd_joined_97 : decode cMd_joined 97 = .ok (.iastore, 1) := by decide +kernel
theorem dMd_joined_98 : decode cMd_joined 98 = .ok (.aload_n 0, 1) := by decide +kernel
theorem dMd_joined_99 : decode cMd_joined 99 = .ok (.getfield 17, 3) := by decide +kernel
theorem dMd_joined_102 : decode cMd_joined 102 = .ok (.iload_n 2, 1) := by decide +kernel
theorem dMd_joined_103 : decode cMd_joined 103 = .ok (.iconst 1, 1) := by decide +kernel
theorem dMd_joined_104 : decode cMd_joined 104 = .ok (.bastore, 1) := by decide +kernel
theorem dMd_joined_105 : decode cMd_joined 105 = .ok (.iconst 1, 1) := by decide +kernel
theorem dMd_joined_106 : decode cMd_joined 106 = .ok (.ireturn, 1) := by decide +kernel
theorem dMd_repeat_0 : decode cMd_repeat 0 = .ok (.aload_n 0, 1) := by decide +kernel
theorem dMd_repeat_1 : decode cMd_repeat 1 = .ok (.iload_n 1, 1) := by decide +kernel
theorem dMd_repeat_2 : decode cMd_repeat 2 = .ok (.invokevirtual 77, 3) := by decide +kernel
theorem dMd_repeat_5 : decode cMd_repeat 5 = .ok (.ifCond .eq 30, 3) := by decide +kernel
theorem dMd_repeat_8 : decode cMd_repeat 8 = .ok (.iload_n 2, 1) := by decide +kernel
theorem dMd_repeat_9 : decode cMd_repeat 9 = .ok (.invokestatic 80, 3) := by decide +kernel
theorem dMd_repeat_12 : decode cMd_repeat 12 = .ok (.ifCond .eq 23, 3) := by decide +kernel
theorem dMd_repeat_15 : decode cMd_repeat 15 = .ok (.lload_n 3, 1) := by decide +kernel
theorem dMd_repeat_16 : decode cMd_repeat 16 = .ok (.lconst 0, 1) := by decide +kernel
theorem dMd_repeat_17 : decode cMd_repeat 17 = .ok (.ldc2_w 83, 3) := by decide +kernel
theorem dMd_repeat_20 : decode cMd_repeat 20 = .ok (.invokestatic 67, 3) := by decide +kernel
theorem dMd_repeat_23 : decode cMd_repeat 23 = .ok (.ifCond .eq 12, 3) := by decide +kernel
theorem dMd_repeat_26 : decode cMd_repeat 26 = .ok (.aload_n 0, 1) := by decide +kernel
theorem dMd_repeat_27 : decode cMd_repeat 27 = .ok (.getfield 170, 3) := by decide +kernel
theorem dMd_repeat_30 : decode cMd_repeat 30 = .ok (.bipush 40, 2) := by decide +kernel
theorem dMd_repeat_32 : decode cMd_repeat 32 = .ok (.if_icmp .ne 5, 3) := by decide +kernel
theorem dMd_repeat_35 : decode cMd_repeat 35 = .ok (.iconst (-1), 1) := by decide +kernel
theorem dMd_repeat_36 : decode cMd_repeat 36 = .ok (.ireturn, 1) := by decide +kernel
theorem dMd_repeat_37 : decode cMd_repeat 37 = .ok (.aload_n 0, 1) := by decide +kernel
theorem dMd_repeat_38 : decode cMd_repeat 38 = .ok (.getfield 42, 3) := by decide +kernel
theorem dMd_repeat_41 : decode cMd_repeat 41 = .ok (.aload_n 0, 1) := by decide +kernel
theorem dMd_repeat_42 : decode cMd_repeat 42 = .ok (.getfield 170, 3) := by decide +kernel
theorem dMd_repeat_45 : decode cMd_repeat 45 = .ok (.iload_n 1, 1) := by decide +kernel
theorem dMd_repeat_46 : decode cMd_repeat 46 = .ok (.iastore, 1) := by decide +kernel
theorem dMd_repeat_47 : decode cMd_repeat 47 = .ok (.aload_n 0, 1) := by decide +kernel
theorem dMd_repeat_48 : decode cMd_repeat 48 = .ok (.getfield 45, 3) := by decide +kernel
theorem dMd_repeat_51 : decode cMd_repeat 51 = .ok (.aload_n 0, 1) := by decide +kernel
theorem dMd_repeat_52 : decode cMd_repeat 52 = .ok (.getfield 170, 3) := by decide +kernel
theorem dMd_repeat_55 : decode cMd_repeat 55 = .ok (.iload_n 2, 1) := by decide +kernel
theorem dMd_repeat_56 : decode cMd_repeat 56 = .ok (.iastore, 1) := by decide +kernel
theorem dMd_repeat_57 : decode cMd_repeat 57 = .ok (.aload_n 0, 1) := by decide +kernel
theorem dMd_repeat_58 : decode cMd_repeat 58 = .ok (.getfield 48, 3) := by decide +kernel
theorem dMd_repeat_61 : decode cMd_repeat 61 = .ok (.aload_n 0, 1) := by decide +kernel
theorem dMd_repeat_62 : decode cMd_repeat 62 = .ok (.getfield 170, 3) := by decide +kernel
theorem dMd_repeat_65 : decode cMd_repeat 65 = .ok (.lload_n 3, 1) := by decide +kernel
theorem dMd_repeat_66 : decode cMd_repeat 66 = .ok (.lastore, 1) := by decide +kernel
theorem dMd_repeat_67 : decode cMd_repeat 67 = .ok (.aload_n 0, 1) := by decide +kernel
theorem dMd_repeat_68 : decode cMd_repeat 68 = .ok (.dup, 1) := by decide +kernel
theorem dMd_repeat_69 : decode cMd_repeat 69 = .ok (.getfield 170, 3) := by decide +kernel
theorem dMd_repeat_72 : decode cMd_repeat 72 = .ok (.iconst 1, 1) := by decide +kernel
theorem dMd_repeat_73 : decode cMd_repeat 73 = .ok (.iadd, 1) := by decide +kernel
theorem dMd_repeat_74 : decode cMd_repeat 74 = .ok (.putfield 170, 3) := by decide +kernel
theorem dMd_repeat_77 : decode cMd_repeat 77 = .ok (.aload_n 0, 1) := by decide +kernel
theorem dMd_repeat_78 : decode cMd_repeat 78 = .ok (.getfield 170, 3) := by decide +kernel
theorem dMd_repeat_81 : decode cMd_repeat 81 = .ok (.ireturn, 1) := by decide +kernel
theorem dMd_error_0 : decode cMd_error 0 = .ok (.aload_n 0, 1) := by decide +kernel
theorem dMd_error_1 : decode cMd_error 1 = .ok (.lconst 0, 1) := by decide +kernel
theorem dMd_error_2 : decode cMd_error 2 = .ok (.putfield 100, 3) := by decide +kernel
theorem dMd_error_5 : decode cMd_error 5 = .ok (.aload_n 0, 1) := by decide +kernel
theorem dMd_error_6 : decode cMd_error 6 = .ok (.lconst 0, 1) := by decide +kernel
theorem dMd_error_7 : decode cMd_error 7 = .ok (.putfield 103, 3) := by decide +kernel
theorem dMd_error_10 : decode cMd_error 10 = .ok (.iconst 0, 1) := by decide +kernel
theorem dMd_error_11 : decode cMd_error 11 = .ok (.istore_n 3, 1) := by decide +kernel
theorem dMd_error_12 : decode cMd_error 12 = .ok (.iload_n 3, 1) := by decide +kernel
theorem dMd_error_13 : decode cMd_error 13 = .ok (.aload_n 0, 1) := by decide +kernel
theorem dMd_error_14 : decode cMd_error 14 = .ok (.getfield 170, 3) := by decide +kernel
theorem dMd_error_17 : decode cMd_error 17 = .ok (.if_icmp .ge 69, 3) := by decide +kernel
theorem dMd_error_20 : decode cMd_error 20 = .ok (.aload_n 0, 1) := by decide +kernel
theorem dMd_error_21 : decode cMd_error 21 = .ok (.getfield 45, 3) := by decide +kernel
theorem dMd_error_24 : decode cMd_error 24 = .ok (.iload_n 3, 1) := by decide +kernel
theorem dMd_error_25 : decode cMd_error 25 = .ok (.iaload, 1) := by decide +kernel
theorem dMd_error_26 : decode cMd_error 26 = .ok (.iload_n 1, 1) := by decide +kernel
theorem dMd_error_27 : decode cMd_error 27 = .ok (.if_icmp .ne 53, 3) := by decide +kernel
theorem dMd_error_30 : decode cMd_error 30 = .ok (.aload_n 0, 1) := by decide +kernel
theorem dMd_error_31 : decode cMd_error 31 = .ok (.getfield 48, 3) := by decide +kernel
theorem dMd_error_34 : decode cMd_error 34 = .ok (.iload_n 3, 1) := by decide +kernel
theorem dMd_error_35 : decode cMd_error 35 = .ok (.laload, 1) := by decide +kernel
theorem dMd_error_36 : decode cMd_error 36 = .ok (.aload_n 0, 1) := by decide +kernel
theorem dMd_error_37 : decode cMd_error 37 = .ok (.getfield 36, 3) := by decide +kernel
theorem dMd_error_40 : decode cMd_error 40 = .ok (.iconst 3, 1) := by decide +kernel
theorem dMd_error_41 : decode cMd_error 41 = .ok (.aload_n 0, 1) := by decide +kernel
theorem dMd_error_42 : decode cMd_error 42 = .ok (.getfield 42, 3) := by decide +kernel
theorem dMd_error_45 : decode cMd_error 45 = .ok (.iload_n 3, 1) := by decide +kernel
theorem dMd_error_46 : decode cMd_error 46 = .ok (.iaload, 1) := by decide +kernel
theorem dMd_error_47 : decode cMd_error 47 = .ok (.imul, 1) := by decide +kernel
theorem dMd_error_48 : decode cMd_error 48 = .ok (.iload_n 1, 1) := by decide +kernel
theorem dMd_error_49 : decode cMd_error 49 = .ok (.iadd, 1) := by decide +kernel
theorem dMd_error_50 : decode cMd_error 50 = .ok (.laload, 1) := by decide +kernel
theorem dMd_error_51 : decode cMd_error 51 = .ok (.lsub, 1) := by decide +kernel
theorem dMd_error_52 : decode cMd_error 52 = .ok (.lstore 4, 2) := by decide +kernel
theorem dMd_error_54 : decode cMd_error 54 = .ok (.aload_n 0, 1) := by decide +kernel
theorem dMd_error_55 : decode cMd_error 55 = .ok (.dup, 1) := by decide +kernel
theorem dMd_error_56 : decode cMd_error 56 = .ok (.getfield 100, 3) := by decide +kernel
theorem dMd_error_59 : decode cMd_error 59 = .ok (.lload 4, 2) := by decide +kernel
theorem dMd_error_61 : decode cMd_error 61 = .ok (.lload 4, 2) := by decide +kernel
theorem dMd_error_63 : decode cMd_error 63 = .ok (.lmul, 1) := by decide +kernel
theorem dMd_error_64 : decode cMd_error 64 = .ok (.ladd, 1) := by decide +kernel
theorem dMd_error_65 : decode cMd_error 65 = .ok (.putfield 100, 3) := by decide +kernel
theorem dMd_error_68 : decode cMd_error 68 = .ok (.aload_n 0, 1) := by decide +kernel
theorem dMd_error_69 : decode cMd_error 69 = .ok (.dup, 1) := by decide +kernel
theorem dMd_error_70 : decode cMd_error 70 = .ok (.getfield 103, 3) := by decide +kernel
theorem dMd_error_73 : decode cMd_error 73 = .ok (.ldc2_w 173, 3) := by decide +kernel
theorem dMd_error_76 : decode cMd_error 76 = .ok (.ladd, 1) := by decide +kernel
theorem dMd_error_77 : decode cMd_error 77 = .ok (.putfield 103, 3) := by decide +kernel
theorem dMd_error_80 : decode cMd_error 80 = .ok (.iinc 3 1, 3) := by decide +kernel
theorem dMd_error_83 : decode cMd_error 83 = .ok (.goto (-71), 3) := by decide +kernel
theorem dMd_error_86 : decode cMd_error 86 = .ok (.aload_n 0, 1) := by decide +kernel
theorem dMd_error_87 : decode cMd_error 87 = .ok (.getfield 103, 3) := by decide +kernel
theorem dMd_error_90 : decode cMd_error 90 = .ok (.lconst 0, 1) := by decide +kernel
theorem dMd_error_91 : decode cMd_error 91 = .ok (.lcmp, 1) := by decide +kernel
theorem dMd_error_92 : decode cMd_error 92 = .ok (.ifCond .eq 12, 3) := by decide +kernel
theorem dMd_error_95 : decode cMd_error 95 = .ok (.iload_n 2, 1) := by decide +kernel
theorem dMd_error_96 : decode cMd_error 96 = .ok (.ifCond .lt 8, 3) := by decide +kernel
theorem dMd_error_99 : decode cMd_error 99 = .ok (.iload_n 2, 1) := by decide +kernel
theorem dMd_error_100 : decode cMd_error 100 = .ok (.iconst 1, 1) := by decide +kernel
theorem dMd_error_101 : decode cMd_error 101 = .ok (.if_icmp .le 9, 3) := by decide +kernel
theorem dMd_error_104 : decode cMd_error 104 = .ok (.ldc2_w 110, 3) := by decide +kernel
theorem dMd_error_107 : decode cMd_error 107 = .ok (.goto 8, 3) := by decide +kernel
theorem dMd_error_110 : decode cMd_error 110 = .ok (.aload_n 0, 1) := by decide +kernel
theorem dMd_error_111 : decode cMd_error 111 = .ok (.iload_n 2, 1) := by decide +kernel
theorem dMd_error_112 : decode cMd_error 112 = .ok (.invokevirtual 123, 3) := by decide +kernel
theorem dMd_error_115 : decode cMd_error 115 = .ok (.lreturn, 1) := by decide +kernel
