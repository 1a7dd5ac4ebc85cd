theorem dX12_offices_52 : decode cX12_offices 52 = .ok (.if_icmp .ge 57, 3) := by decide +kernel
theorem dX12_offices_55 : decode cX12_offices 55 = .ok (.iload 6, 2) := by decide +kernel
theorem dX12_offices_57 : decode cX12_offices 57 = .ok (.invokestatic 369, 3) := by decide +kernel
theorem dX12_offices_60 : decode cX12_offices 60 = .ok (.iload_n 2, 1) := by decide +kernel
theorem dX12_offices_61 : decode cX12_offices 61 = .ok (.if_icmp .ne 12, 3) := by decide +kernel
theorem dX12_offices_64 : decode cX12_offices 64 = .ok (.aload_n 0, 1) := by decide +kernel
theorem dX12_offices_65 : decode cX12_offices 65 = .ok (.iload 6, 2) := by decide +kernel
theorem dX12_offices_67 : decode cX12_offices 67 = .ok (.invokevirtual 372, 3) := by decide +kernel
theorem dX12_offices_70 : decode cX12_offices 70 = .ok (.goto 6, 3) := by decide +kernel
theorem dX12_offices_73 : decode cX12_offices 73 = .ok (.ldc_w 275, 3) := by decide +kernel
theorem dX12_offices_76 : decode cX12_offices 76 = .ok (.istore 7, 2) := by decide +kernel
theorem dX12_offices_78 : decode cX12_offices 78 = .ok (.iload 7, 2) := by decide +kernel
theorem dX12_offices_80 : decode cX12_offices 80 = .ok (.iload 5, 2) := by decide +kernel
theorem dX12_offices_82 : decode cX12_offices 82 = .ok (.if_icmp .ge 8, 3) := by decide +kernel
theorem dX12_offices_85 : decode cX12_offices 85 = .ok (.iload 6, 2) := by decide +kernel
theorem dX12_offices_87 : decode cX12_offices 87 = .ok (.goto 5, 3) := by decide +kernel
theorem dX12_offices_90 : decode cX12_offices 90 = .ok (.iload 4, 2) := by decide +kernel
theorem dX12_offices_92 : decode cX12_offices 92 = .ok (.istore 4, 2) := by decide +kernel
theorem dX12_offices_94 : decode cX12_offices 94 = .ok (.iload 5, 2) := by decide +kernel
theorem dX12_offices_96 : decode cX12_offices 96 = .ok (.iload 7, 2) := by decide +kernel
theorem dX12_offices_98 : decode cX12_offices 98 = .ok (.invokestatic 279, 3) := by decide +kernel
theorem dX12_offices_101 : decode cX12_offices 101 = .ok (.istore 5, 2) := by decide +kernel
theorem dX12_offices_103 : decode cX12_offices 103 = .ok (.iinc 6 1, 3) := by decide +kernel
theorem dX12_offices_106 : decode cX12_offices 106 = .ok (.goto (-62), 3) := by decide +kernel
theorem dX12_offices_109 : decode cX12_offices 109 = .ok (.iload 4, 2) := by decide +kernel
theorem dX12_offices_111 : decode cX12_offices 111 = .ok (.iconst (-1), 1) := by decide +kernel
theorem dX12_offices_112 : decode cX12_offices 112 = .ok (.if_icmp .eq 7, 3) := by decide +kernel
theorem dX12_offices_115 : decode cX12_offices 115 = .ok (.iload_n 3, 1) := by decide +kernel
theorem dX12_offices_116 : decode cX12_offices 116 = .ok (.ifCond .ne 8, 3) := by decide +kernel
theorem dX12_offices_119 : decode cX12_offices 119 = .ok (.iload 4, 2) := by decide +kernel
theorem dX12_offices_121 : decode cX12_offices 121 = .ok (.goto 5, 3) := by decide +kernel
theorem dX12_offices_124 : decode cX12_offices 124 = .ok (.iload 5, 2) := by decide +kernel
theorem dX12_offices_126 : decode cX12_offices 126 = .ok (.ireturn, 1) := by decide +kernel
theorem dX12_hourBy_0 : decode cX12_hourBy 0 = .ok (.iconst 0, 1) := by decide +kernel
theorem dX12_hourBy_1 : decode cX12_hourBy 1 = .ok (.istore 4, 2) := by decide +kernel
theorem dX12_hourBy_3 : decode cX12_hourBy 3 = .ok (.iload 4, 2) := by decide +kernel
theorem dX12_hourBy_5 : decode cX12_hourBy 5 = .ok (.bipush 6, 2) := by decide +kernel
theorem dX12_hourBy_7 : decode cX12_hourBy 7 = .ok (.if_icmp .ge 29, 3) := by decide +kernel
theorem dX12_hourBy_10 : decode cX12_hourBy 10 = .ok (.aload_n 0, 1) := by decide +kernel
theorem dX12_hourBy_11 : decode cX12_hourBy 11 = .ok (.getfield 74, 3) := by decide +kernel
theorem dX12_hourBy_14 : decode cX12_hourBy 14 = .ok (.iload 4, 2) := by decide +kernel
theorem dX12_hourBy_16 : decode cX12_hourBy 16 = .ok (.iload 4, 2) := by decide +kernel
theorem dX12_hourBy_18 : decode cX12_hourBy 18 = .ok (.iload_n 2, 1) := by decide +kernel
theorem dX12_hourBy_19 : decode cX12_hourBy 19 = .ok (.if_icmp .ne 7, 3) := by decide +kernel
theorem dX12_hourBy_22 : decode cX12_hourBy 22 = .ok (.iconst 0, 1) := by decide +kernel
theorem dX12_hourBy_23 : decode cX12_hourBy 23 = .ok (.goto 6, 3) := by decide +kernel
theorem dX12_hourBy_26 : decode cX12_hourBy 26 = .ok (.ldc_w 275, 3) := by decide +kernel
theorem dX12_hourBy_29 : decode cX12_hourBy 29 = .ok (.iastore, 1) := by decide +kernel
theorem dX12_hourBy_30 : decode cX12_hourBy 30 = .ok (.iinc 4 1, 3) := by decide +kernel
theorem dX12_hourBy_33 : decode cX12_hourBy 33 = .ok (.goto (-30), 3) := by decide +kernel
theorem dX12_hourBy_36 : decode cX12_hourBy 36 = .ok (.iconst 1, 1) := by decide +kernel
theorem dX12_hourBy_37 : decode cX12_hourBy 37 = .ok (.istore 4, 2) := by decide +kernel
theorem dX12_hourBy_39 : decode cX12_hourBy 39 = .ok (.iload 4, 2) := by decide +kernel
theorem dX12_hourBy_41 : decode cX12_hourBy 41 = .ok (.ifCond .eq 123, 3) := by decide +kernel
theorem dX12_hourBy_44 : decode cX12_hourBy 44 = .ok (.iconst 0, 1) := by decide +kernel
theorem dX12_hourBy_45 : decode cX12_hourBy 45 = .ok (.istore 4, 2) := by decide +kernel
theorem dX12_hourBy_47 : decode cX12_hourBy 47 = .ok (.iconst 0, 1) := by decide +kernel
theorem dX12_hourBy_48 : decode cX12_hourBy 48 = .ok (.istore 5, 2) := by decide +kernel
theorem dX12_hourBy_50 : decode cX12_hourBy 50 = .ok (.iload 5, 2) := by decide +kernel
theorem dX12_hourBy_52 : decode cX12_hourBy 52 = .ok (.aload_n 0, 1) := by decide +kernel
theorem dX12_hourBy_53 : decode cX12_hourBy 53 = .ok (.getfield 253, 3) := by decide +kernel
theorem dX12_hourBy_56 : decode cX12_hourBy 56 = .ok (.if_icmp .ge 105, 3) := by decide +kernel
theorem dX12_hourBy_59 : decode cX12_hourBy 59 = .ok (.aload_n 0, 1) := by decide +kernel
theorem dX12_hourBy_60 : decode cX12_hourBy 60 = .ok (.getfield 74, 3) := by decide +kernel
theorem dX12_hourBy_63 : decode cX12_hourBy 63 = .ok (.aload_n 0, 1) := by decide +kernel
theorem dX12_hourBy_64 : decode cX12_hourBy 64 = .ok (.iconst 5, 1) := by decide +kernel
theorem dX12_hourBy_65 : decode cX12_hourBy 65 = .ok (.iload 5, 2) := by decide +kernel
theorem dX12_hourBy_67 : decode cX12_hourBy 67 = .ok (.iadd, 1) := by decide +kernel
theorem dX12_hourBy_68 : decode cX12_hourBy 68 = .ok (.invokevirtual 246, 3) := by decide +kernel
theorem dX12_hourBy_71 : decode cX12_hourBy 71 = .ok (.iaload, 1) := by decide +kernel
theorem dX12_hourBy_72 : decode cX12_hourBy 72 = .ok (.istore 6, 2) := by decide +kernel
theorem dX12_hourBy_74 : decode cX12_hourBy 74 = .ok (.iload_n 1, 1) := by decide +kernel
theorem dX12_hourBy_75 : decode cX12_hourBy 75 = .ok (.iload 5, 2) := by decide +kernel
theorem dX12_hourBy_77 : decode cX12_hourBy 77 = .ok (.invokestatic 100, 3) := by decide +kernel
theorem dX12_hourBy_80 : decode cX12_hourBy 80 = .ok (.ifCond .ne 11, 3) := by decide +kernel
theorem dX12_hourBy_83 : decode cX12_hourBy 83 = .ok (.iload 6, 2) := by decide +kernel
theorem dX12_hourBy_85 : decode cX12_hourBy 85 = .ok (.ldc_w 275, 3) := by decide +kernel
theorem dX12_hourBy_88 : decode cX12_hourBy 88 = .ok (.if_icmp .lt 9, 3) := by decide +kernel
theorem dX12_hourBy_91 : decode cX12_hourBy 91 = .ok (.ldc_w 275, 3) := by decide +kernel
theorem dX12_hourBy_94 : decode cX12_hourBy 94 = .ok (.goto 21, 3) := by decide +kernel
theorem dX12_hourBy_97 : decode cX12_hourBy 97 = .ok (.aload_n 0, 1) := by decide +kernel
theorem dX12_hourBy_98 : decode cX12_hourBy 98 = .ok (.iload 5, 2) := by decide +kernel
theorem dX12_hourBy_100 : decode cX12_hourBy 100 = .ok (.iload 6, 2) := by decide +kernel
theorem dX12_hourBy_102 : decode cX12_hourBy 102 = .ok (.invokevirtual 265, 3) := by decide +kernel
theorem dX12_hourBy_105 : decode cX12_hourBy 105 = .ok (.aload_n 0, 1) := by decide +kernel
theorem dX12_hourBy_106 : decode cX12_hourBy 106 = .ok (.bipush 41, 2) := by decide +kernel
theorem dX12_hourBy_108 : decode cX12_hourBy 108 = .ok (.iload 5, 2) := by decide +kernel
theorem dX12_hourBy_110 : decode cX12_hourBy 110 = .ok (.iadd, 1) := by decide +kernel
theorem dX12_hourBy_111 : decode cX12_hourBy 111 = .ok (.invokevirtual 246, 3) := by decide +kernel
theorem dX12_hourBy_114 : decode cX12_hourBy 114 = .ok (.iadd, 1) := by decide +kernel
theorem dX12_hourBy_115 : decode cX12_hourBy 115 = .ok (.istore 7, 2) := by decide +kernel
theorem dX12_hourBy_117 : decode cX12_hourBy 117 = .ok (.iload 7, 2) := by decide +kernel
theorem dX12_hourBy_119 : decode cX12_hourBy 119 = .ok (.aload_n 0, 1) := by decide +kernel
theorem dX12_hourBy_120 : decode cX12_hourBy 120 = .ok (.getfield 74, 3) := by decide +kernel
theorem dX12_hourBy_123 : decode cX12_hourBy 123 = .ok (.aload_n 0, 1) := by decide +kernel
theorem dX12_hourBy_124 : decode cX12_hourBy 124 = .ok (.bipush 17, 2) := by decide +kernel
theorem dX12_hourBy_126 : decode cX12_hourBy 126 = .ok (.iload 5, 2) := by decide +kernel
theorem dX12_hourBy_128 : decode cX12_hourBy 128 = .ok (.iadd, 1) := by decide +kernel
theorem dX12_hourBy_129 : decode cX12_hourBy 129 = .ok (.invokevirtual 246, 3) := by decide +kernel
theorem dX12_hourBy_132 : decode cX12_hourBy 132 = .ok (.iaload, 1) := by decide +kernel
theorem dX12_hourBy_133 : decode cX12_hourBy 133 = .ok (.if_icmp .ge 22, 3) := by decide +kernel
theorem dX12_hourBy_136 : decode cX12_hourBy 136 = .ok (.aload_n 0, 1) := by decide +kernel
theorem dX12_hourBy_137 : decode cX12_hourBy 137 = .ok (.getfield 74, 3) := by decide +kernel
theorem dX12_hourBy_140 : decode cX12_hourBy 140 = .ok (.aload_n 0, 1) := by decide +kernel
theorem dX12_hourBy_141 : decode cX12_hourBy 141 = .ok (.bipush 17, 2) := by decide +kernel
theorem dX12_hourBy_143 : decode cX12_hourBy 143 = .ok (.iload 5, 2) := by decide +kernel
theorem dX12_hourBy_145 : decode cX12_hourBy 145 = .ok (.iadd, 1) := by decide +kernel
theorem dX12_hourBy_146 : decode cX12_hourBy 146 = .ok (.invokevirtual 246, 3) := by decide +kernel
theorem dX12_hourBy_149 : decode cX12_hourBy 149 = .ok (.iload 7, 2) := by decide +kernel
theorem dX12_hourBy_151 : decode cX12_hourBy 151 = .ok (.iastore, 1) := by decide +kernel
theorem dX12_hourBy_152 : decode cX12_hourBy 152 = .ok (.iconst 1, 1) := by decide +kernel
theorem dX12_hourBy_153 : decode cX12_hourBy 153 = .ok (.istore 4, 2) := by decide +kernel
theorem dX12_hourBy_155 : decode cX12_hourBy 155 = .ok (.iinc 5 1, 3) := by decide +kernel
theorem dX12_hourBy_158 : decode cX12_hourBy 158 = .ok (.goto (-108), 3) := by decide +kernel
theorem dX12_hourBy_161 : decode cX12_hourBy 161 = .ok (.goto (-122), 3) := by decide +kernel
theorem dX12_hourBy_164 : decode cX12_hourBy 164 = .ok (.aload_n 0, 1) := by decide +kernel
theorem dX12_hourBy_165 : decode cX12_hourBy 165 = .ok (.getfield 74, 3) := by decide +kernel
theorem dX12_hourBy_168 : decode cX12_hourBy 168 = .ok (.iload_n 3, 1) := by decide +kernel
theorem dX12_hourBy_169 : decode cX12_hourBy 169 = .ok (.iaload, 1) := by decide +kernel
theorem dX12_hourBy_170 : decode cX12_hourBy 170 = .ok (.ldc_w 275, 3) := by decide +kernel
theorem dX12_hourBy_173 : decode cX12_hourBy 173 = .ok (.if_icmp .lt 9, 3) := by decide +kernel
theorem dX12_hourBy_176 : decode cX12_hourBy 176 = .ok (.sipush 999, 3) := by decide +kernel
theorem dX12_hourBy_179 : decode cX12_hourBy 179 = .ok (.goto 9, 3) := by decide +kernel
theorem dX12_hourBy_182 : decode cX12_hourBy 182 = .ok (.aload_n 0, 1) := by decide +kernel
theorem dX12_hourBy_183 : decode cX12_hourBy 183 = .ok (.getfield 74, 3) := by decide +kernel
theorem dX12_hourBy_186 : decode cX12_hourBy 186 = .ok (.iload_n 3, 1) := by decide +kernel
theorem dX12_hourBy_187 : decode cX12_hourBy 187 = .ok (.iaload, 1) := by decide +kernel
theorem dX12_hourBy_188 : decode cX12_hourBy 188 = .ok (.ireturn, 1) := by decide +kernel
theorem dX12_better_0 : decode cX12_better 0 = .ok (.iload_n 1, 1) := by decide +kernel
theorem dX12_better_1 : decode cX12_better 1 = .ok (.ifCond .eq 11, 3) := by decide +kernel
theorem dX12_better_4 : decode cX12_better 4 = .ok (.iload_n 2, 1) := by decide +kernel
theorem dX12_better_5 : decode cX12_better 5 = .ok (.iload_n 3, 1) := by decide +kernel
theorem dX12_better_6 : decode cX12_better 6 = .ok (.invokestatic 170, 3) := by decide +kernel
theorem dX12_better_9 : decode cX12_better 9 = .ok (.goto 8, 3) := by decide +kernel
theorem dX12_better_12 : decode cX12_better 12 = .ok (.iload_n 2, 1) := by decide +kernel
theorem dX12_better_13 : decode cX12_better 13 = .ok (.iload_n 3, 1) := by decide +kernel
theorem dX12_better_14 : decode cX12_better 14 = .ok (.invokestatic 279, 3) := by decide +kernel
theorem dX12_better_17 : decode cX12_better 17 = .ok (.ireturn, 1) := by decide +kernel
theorem dX12_oneTurn_0 : decode cX12_oneTurn 0 = .ok (.aload_n 0, 1) := by decide +kernel
theorem dX12_oneTurn_1 : decode cX12_oneTurn 1 = .ok (.iload_n 1, 1) := by decide +kernel
theorem dX12_oneTurn_2 : decode cX12_oneTurn 2 = .ok (.iload_n 2, 1) := by decide +kernel
theorem dX12_oneTurn_3 : decode cX12_oneTurn 3 = .ok (.iload_n 3, 1) := by decide +kernel
theorem dX12_oneTurn_4 : decode cX12_oneTurn 4 = .ok (.invokevirtual 375, 3) := by decide +kernel
theorem dX12_oneTurn_7 : decode cX12_oneTurn 7 = .ok (.istore 5, 2) := by decide +kernel
theorem dX12_oneTurn_9 : decode cX12_oneTurn 9 = .ok (.iconst 0, 1) := by decide +kernel
theorem dX12_oneTurn_10 : decode cX12_oneTurn 10 = .ok (.istore 6, 2) := by decide +kernel
theorem dX12_oneTurn_12 : decode cX12_oneTurn 12 = .ok (.iload 6, 2) := by decide +kernel
theorem dX12_oneTurn_14 : decode cX12_oneTurn 14 = .ok (.aload_n 0, 1) := by decide +kernel
theorem dX12_oneTurn_15 : decode cX12_oneTurn 15 = .ok (.getfield 253, 3) := by decide +kernel
theorem dX12_oneTurn_18 : decode cX12_oneTurn 18 = .ok (.if_icmp .ge 45, 3) := by decide +kernel
theorem dX12_oneTurn_21 : decode cX12_oneTurn 21 = .ok (.iload_n 1, 1) := by decide +kernel
theorem dX12_oneTurn_22 : decode cX12_oneTurn 22 = .ok (.iload 6, 2) := by decide +kernel
theorem dX12_oneTurn_24 : decode cX12_oneTurn 24 = .ok (.invokestatic 100, 3) := by decide +kernel
theorem dX12_oneTurn_27 : decode cX12_oneTurn 27 = .ok (.ifCond .eq 8, 3) := by decide +kernel
theorem dX12_oneTurn_30 : decode cX12_oneTurn 30 = .ok (.iload 5, 2) := by decide +kernel
theorem dX12_oneTurn_32 : decode cX12_oneTurn 32 = .ok (.goto 23, 3) := by decide +kernel
theorem dX12_oneTurn_35 : decode cX12_oneTurn 35 = .ok (.aload_n 0, 1) := by decide +kernel
theorem dX12_oneTurn_36 : decode cX12_oneTurn 36 = .ok (.iload 4, 2) := by decide +kernel
theorem dX12_oneTurn_38 : decode cX12_oneTurn 38 = .ok (.iload 5, 2) := by decide +kernel
theorem dX12_oneTurn_40 : decode cX12_oneTurn 40 = .ok (.aload_n 0, 1) := by decide +kernel
theorem dX12_oneTurn_41 : decode cX12_oneTurn 41 = .ok (.iload_n 1, 1) := by decide +kernel
theorem dX12_oneTurn_42 : decode cX12_oneTurn 42 = .ok (.iconst 1, 1) := by decide +kernel
theorem dX12_oneTurn_43 : decode cX12_oneTurn 43 = .ok (.iload 6, 2) := by decide +kernel
theorem dX12_oneTurn_45 : decode cX12_oneTurn 45 = .ok (.ishl, 1) := by decide +kernel
theorem dX12_oneTurn_46 : decode cX12_oneTurn 46 = .ok (.ior, 1) := by decide +kernel
theorem dX12_oneTurn_47 : decode cX12_oneTurn 47 = .ok (.iload_n 2, 1) := by decide +kernel
theorem dX12_oneTurn_48 : decode cX12_oneTurn 48 = .ok (.iload_n 3, 1) := by decide +kernel
theorem dX12_oneTurn_49 : decode cX12_oneTurn 49 = .ok (.invokevirtual 375, 3) := by decide +kernel
theorem dX12_oneTurn_52 : decode cX12_oneTurn 52 = .ok (.invokevirtual 378, 3) := by decide +kernel
theorem dX12_oneTurn_55 : decode cX12_oneTurn 55 = .ok (.istore 5, 2) := by decide +kernel
theorem dX12_oneTurn_57 : decode cX12_oneTurn 57 = .ok (.iinc 6 1, 3) := by decide +kernel
theorem dX12_oneTurn_60 : decode cX12_oneTurn 60 = .ok (.goto (-48), 3) := by decide +kernel
theorem dX12_oneTurn_63 : decode cX12_oneTurn 63 = .ok (.iload 5, 2) := by decide +kernel
theorem dX12_oneTurn_65 : decode cX12_oneTurn 65 = .ok (.ireturn, 1) := by decide +kernel
theorem dX12_twoTurns_0 : decode cX12_twoTurns 0 = .ok (.aload_n 0, 1) := by decide +kernel
theorem dX12_twoTurns_1 : decode cX12_twoTurns 1 = .ok (.iload_n 1, 1) := by decide +kernel
theorem dX12_twoTurns_2 : decode cX12_twoTurns 2 = .ok (.iload_n 2, 1) := by decide +kernel
theorem dX12_twoTurns_3 : decode cX12_twoTurns 3 = .ok (.iload_n 3, 1) := by decide +kernel
theorem dX12_twoTurns_4 : decode cX12_twoTurns 4 = .ok (.iload 4, 2) := by decide +kernel
theorem dX12_twoTurns_6 : decode cX12_twoTurns 6 = .ok (.ifCond .ne 7, 3) := by decide +kernel
theorem dX12_twoTurns_9 : decode cX12_twoTurns 9 = .ok (.iconst 1, 1) := by decide +kernel
theorem dX12_twoTurns_10 : decode cX12_twoTurns 10 = .ok (.goto 4, 3) := by decide +kernel
theorem dX12_twoTurns_13 : decode cX12_twoTurns 13 = .ok (.iconst 0, 1) := by decide +kernel
theorem dX12_twoTurns_14 : decode cX12_twoTurns 14 = .ok (.invokevirtual 382, 3) := by decide +kernel
theorem dX12_twoTurns_17 : decode cX12_twoTurns 17 = .ok (.istore 5, 2) := by decide +kernel
theorem dX12_twoTurns_19 : decode cX12_twoTurns 19 = .ok (.iconst 0, 1) := by decide +kernel
theorem dX12_twoTurns_20 : decode cX12_twoTurns 20 = .ok (.istore 6, 2) := by decide +kernel
theorem dX12_twoTurns_22 : decode cX12_twoTurns 22 = .ok (.iload 6, 2) := by decide +kernel
theorem dX12_twoTurns_24 : decode cX12_twoTurns 24 = .ok (.aload_n 0, 1) := by decide +kernel
theorem dX12_twoTurns_25 : decode cX12_twoTurns 25 = .ok (.getfield 253, 3) := by decide +kernel
theorem dX12_twoTurns_28 : decode cX12_twoTurns 28 = .ok (.if_icmp .ge 55, 3) := by decide +kernel
theorem dX12_twoTurns_31 : decode cX12_twoTurns 31 = .ok (.iload_n 1, 1) := by decide +kernel
theorem dX12_twoTurns_32 : decode cX12_twoTurns 32 = .ok (.iload 6, 2) := by decide +kernel
theorem dX12_twoTurns_34 : decode cX12_twoTurns 34 = .ok (.invokestatic 100, 3) := by decide +kernel
theorem dX12_twoTurns_37 : decode cX12_twoTurns 37 = .ok (.ifCond .eq 8, 3) := by decide +kernel
theorem dX12_twoTurns_40 : decode cX12_twoTurns 40 = .ok (.iload 5, 2) := by decide +kernel
theorem dX12_twoTurns_42 : decode cX12_twoTurns 42 = .ok (.goto 33, 3) := by decide +kernel
theorem dX12_twoTurns_45 : decode cX12_twoTurns 45 = .ok (.aload_n 0, 1) := by decide +kernel
theorem dX12_twoTurns_46 : decode cX12_twoTurns 46 = .ok (.iload 4, 2) := by decide +kernel
theorem dX12_twoTurns_48 : decode cX12_twoTurns 48 = .ok (.iload 5, 2) := by decide +kernel
theorem dX12_twoTurns_50 : decode cX12_twoTurns 50 = .ok (.aload_n 0, 1) := by decide +kernel
theorem dX12_twoTurns_51 : decode cX12_twoTurns 51 = .ok (.iload_n 1, 1) := by decide +kernel
theorem dX12_twoTurns_52 : decode cX12_twoTurns 52 = .ok (.iconst 1, 1) := by decide +kernel
theorem dX12_twoTurns_53 : decode cX12_twoTurns 53 = .ok (.iload 6, 2) := by decide +kernel
theorem dX12_twoTurns_55 : decode cX12_twoTurns 55 = .ok (.ishl, 1) := by decide +kernel
theorem dX12_twoTurns_56 : decode cX12_twoTurns 56 = .ok (.ior, 1) := by decide +kernel
theorem dX12_twoTurns_57 : decode cX12_twoTurns 57 = .ok (.iload_n 2, 1) := by decide +kernel
theorem dX12_twoTurns_58 : decode cX12_twoTurns 58 = .ok (.iload_n 3, 1) := by decide +kernel
theorem dX12_twoTurns_59 : decode cX12_twoTurns 59 = .ok (.iload 4, 2) := by decide +kernel
theorem dX12_twoTurns_61 : decode cX12_twoTurns 61 = .ok (.ifCond .ne 7, 3) := by decide +kernel
theorem dX12_twoTurns_64 : decode cX12_twoTurns 64 = .ok (.iconst 1, 1) := by decide +kernel
theorem dX12_twoTurns_65 : decode cX12_twoTurns 65 = .ok (.goto 4, 3) := by decide +kernel
theorem dX12_twoTurns_68 : decode cX12_twoTurns 68 = .ok (.iconst 0, 1) := by decide +kernel
theorem dX12_twoTurns_69 : decode cX12_twoTurns 69 = .ok (.invokevirtual 382, 3) := by decide +kernel
theorem dX12_twoTurns_72 : decode cX12_twoTurns 72 = .ok (.invokevirtual 378, 3) := by decide +kernel
theorem dX12_twoTurns_75 : decode cX12_twoTurns 75 = .ok (.istore 5, 2) := by decide +kernel
theorem dX12_twoTurns_77 : decode cX12_twoTurns 77 = .ok (.iinc 6 1, 3) := by decide +kernel
theorem dX12_twoTurns_80 : decode cX12_twoTurns 80 = .ok (.goto (-58), 3) := by decide +kernel
theorem dX12_twoTurns_83 : decode cX12_twoTurns 83 = .ok (.iload 5, 2) := by decide +kernel
theorem dX12_twoTurns_85 : decode cX12_twoTurns 85 = .ok (.ireturn, 1) := by decide +kernel
theorem dX12_behindFirst_0 : decode cX12_behindFirst 0 = .ok (.iload_n 1, 1) := by decide +kernel
theorem dX12_behindFirst_1 : decode cX12_behindFirst 1 = .ok (.iconst 1, 1) := by decide +kernel
theorem dX12_behindFirst_2 : decode cX12_behindFirst 2 = .ok (.if_icmp .ne 14, 3) := by decide +kernel
theorem dX12_behindFirst_5 : decode cX12_behindFirst 5 = .ok (.aload_n 0, 1) := by decide +kernel
theorem dX12_behindFirst_6 : decode cX12_behindFirst 6 = .ok (.iload_n 2, 1) := by decide +kernel
theorem dX12_behindFirst_7 : decode cX12_behindFirst 7 = .ok (.iload_n 3, 1) := by decide +kernel
theorem dX12_behindFirst_8 : decode cX12_behindFirst 8 = .ok (.iload 4, 2) := by decide +kernel
theorem dX12_behindFirst_10 : decode cX12_behindFirst 10 = .ok (.invokevirtual 375, 3) := by decide +kernel
theorem dX12_behindFirst_13 : decode cX12_behindFirst 13 = .ok (.goto 29, 3) := by decide +kernel
theorem dX12_behindFirst_16 : decode cX12_behindFirst 16 = .ok (.iload_n 1, 1) := by decide +kernel
theorem dX12_behindFirst_17 : decode cX12_behindFirst 17 = .ok (.iconst 2, 1) := by decide +kernel
theorem dX12_behindFirst_18 : decode cX12_behindFirst 18 = .ok (.if_icmp .ne 15, 3) := by decide +kernel
theorem dX12_behindFirst_21 : decode cX12_behindFirst 21 = .ok (.aload_n 0, 1) := by decide +kernel
theorem dX12_behindFirst_22 : decode cX12_behindFirst 22 = .ok (.iload_n 2, 1) := by decide +kernel
theorem dX12_behindFirst_23 : decode cX12_behindFirst 23 = .ok (.iload_n 3, 1) := by decide +kernel
theorem dX12_behindFirst_24 : decode cX12_behindFirst 24 = .ok (.iload 4, 2) := by decide +kernel
theorem dX12_behindFirst_26 : decode cX12_behindFirst 26 = .ok (.iconst 0, 1) := by decide +kernel
theorem dX12_behindFirst_27 : decode cX12_behindFirst 27 = .ok (.invokevirtual 382, 3) := by decide +kernel
theorem dX12_behindFirst_30 : decode cX12_behindFirst 30 = .ok (.goto 12, 3) := by decide +kernel
theorem dX12_behindFirst_33 : decode cX12_behindFirst 33 = .ok (.aload_n 0, 1) := by decide +kernel
theorem dX12_behindFirst_34 : decode cX12_behindFirst 34 = .ok (.iload_n 2, 1) := by decide +kernel
theorem dX12_behindFirst_35 : decode cX12_behindFirst 35 = .ok (.iload_n 3, 1) := by decide +kernel
theorem dX12_behindFirst_36 : decode cX12_behindFirst 36 = .ok (.iload 4, 2) := by decide +kernel
theorem dX12_behindFirst_38 : decode cX12_behindFirst 38 = .ok (.iconst 0, 1) := by decide +kernel
theorem dX12_behindFirst_39 : decode cX12_behindFirst 39 = .ok (.invokevirtual 386, 3) := by decide +kernel
theorem dX12_behindFirst_42 : decode cX12_behindFirst 42 = .ok (.ireturn, 1) := by decide +kernel
theorem dX12_cut_0 : decode cX12_cut 0 = .ok (.aload_n 0, 1) := by decide +kernel
theorem dX12_cut_1 : decode cX12_cut 1 = .ok (.iconst 0, 1) := by decide +kernel
theorem dX12_cut_2 : decode cX12_cut 2 = .ok (.putfield 96, 3) := by decide +kernel
theorem dX12_cut_5 : decode cX12_cut 5 = .ok (.iload_n 2, 1) := by decide +kernel
theorem dX12_cut_6 : decode cX12_cut 6 = .ok (.iconst 0, 1) := by decide +kernel
theorem dX12_cut_7 : decode cX12_cut 7 = .ok (.iconst 3, 1) := by decide +kernel
theorem dX12_cut_8 : decode cX12_cut 8 = .ok (.invokestatic 108, 3) := by decide +kernel
theorem dX12_cut_11 : decode cX12_cut 11 = .ok (.ifCond .eq 28, 3) := by decide +kernel
theorem dX12_cut_14 : decode cX12_cut 14 = .ok (.aload_n 0, 1) := by decide +kernel
theorem dX12_cut_15 : decode cX12_cut 15 = .ok (.iload_n 1, 1) := by decide +kernel
theorem dX12_cut_16 : decode cX12_cut 16 = .ok (.invokevirtual 282, 3) := by decide +kernel
theorem dX12_cut_19 : decode cX12_cut 19 = .ok (.ifCond .eq 20, 3) := by decide +kernel
theorem dX12_cut_22 : decode cX12_cut 22 = .ok (.aload_n 0, 1) := by decide +kernel
theorem dX12_cut_23 : decode cX12_cut 23 = .ok (.iload_n 3, 1) := by decide +kernel
theorem dX12_cut_24 : decode cX12_cut 24 = .ok (.invokevirtual 339, 3) := by decide +kernel
theorem dX12_cut_27 : decode cX12_cut 27 = .ok (.ifCond .eq 12, 3) := by decide +kernel
theorem dX12_cut_30 : decode cX12_cut 30 = .ok (.aload_n 0, 1) := by decide +kernel
theorem dX12_cut_31 : decode cX12_cut 31 = .ok (.iload 4, 2) := by decide +kernel
theorem dX12_cut_33 : decode cX12_cut 33 = .ok (.invokevirtual 339, 3) := by decide +kernel
theorem dX12_cut_36 : decode cX12_cut 36 = .ok (.ifCond .ne 6, 3) := by decide +kernel
theorem dX12_cut_39 : decode cX12_cut 39 = .ok (.bipush (-2), 2) := by decide +kernel
theorem dX12_cut_41 : decode cX12_cut 41 = .ok (.ireturn, 1) := by decide +kernel
theorem dX12_cut_42 : decode cX12_cut 42 = .ok (.iload_n 2, 1) := by decide +kernel
theorem dX12_cut_43 : decode cX12_cut 43 = .ok (.ifCond .ne 21, 3) := by decide +kernel
theorem dX12_cut_46 : decode cX12_cut 46 = .ok (.iload 5, 2) := by decide +kernel
theorem dX12_cut_48 : decode cX12_cut 48 = .ok (.ifCond .eq 7, 3) := by decide +kernel
theorem dX12_cut_51 : decode cX12_cut 51 = .ok (.iconst (-1), 1) := by decide +kernel
theorem dX12_cut_52 : decode cX12_cut 52 = .ok (.goto 11, 3) := by decide +kernel
theorem dX12_cut_55 : decode cX12_cut 55 = .ok (.aload_n 0, 1) := by decide +kernel
theorem dX12_cut_56 : decode cX12_cut 56 = .ok (.iconst 0, 1) := by decide +kernel
theorem dX12_cut_57 : decode cX12_cut 57 = .ok (.iload_n 3, 1) := by decide +kernel
theorem dX12_cut_58 : decode cX12_cut 58 = .ok (.iload 4, 2) := by decide +kernel
theorem dX12_cut_60 : decode cX12_cut 60 = .ok (.invokevirtual 375, 3) := by decide +kernel
theorem dX12_cut_63 : decode cX12_cut 63 = .ok (.ireturn, 1) := by decide +kernel
theorem dX12_cut_64 : decode cX12_cut 64 = .ok (.iconst (-1), 1) := by decide +kernel
theorem dX12_cut_65 : decode cX12_cut 65 = .ok (.istore 6, 2) := by decide +kernel
theorem dX12_cut_67 : decode cX12_cut 67 = .ok (.iconst (-1), 1) := by decide +kernel
theorem dX12_cut_68 : decode cX12_cut 68 = .ok (.istore 7, 2) := by decide +kernel
theorem dX12_cut_70 : decode cX12_cut 70 = .ok (.iconst 0, 1) := by decide +kernel
theorem dX12_cut_71 : decode cX12_cut 71 = .ok (.istore 8, 2) := by decide +kernel
theorem dX12_cut_73 : decode cX12_cut 73 = .ok (.iload 8, 2) := by decide +kernel
theorem dX12_cut_75 : decode cX12_cut 75 = .ok (.bipush 12, 2) := by decide +kernel
theorem dX12_cut_77 : decode cX12_cut 77 = .ok (.if_icmp .gt 79, 3) := by decide +kernel
theorem dX12_cut_80 : decode cX12_cut 80 = .ok (.aload_n 0, 1) := by decide +kernel
theorem dX12_cut_81 : decode cX12_cut 81 = .ok (.iload 8, 2) := by decide +kernel
theorem dX12_cut_83 : decode cX12_cut 83 = .ok (.invokevirtual 297, 3) := by decide +kernel
theorem dX12_cut_86 : decode cX12_cut 86 = .ok (.ifCond .ne 10, 3) := by decide +kernel
theorem dX12_cut_89 : decode cX12_cut 89 = .ok (.iload 8, 2) := by decide +kernel
theorem dX12_cut_91 : decode cX12_cut 91 = .ok (.bipush 12, 2) := by decide +kernel
theorem dX12_cut_93 : decode cX12_cut 93 = .ok (.if_icmp .ne 29, 3) := by decide +kernel
theorem dX12_cut_96 : decode cX12_cut 96 = .ok (.aload_n 0, 1) := by decide +kernel
theorem dX12_cut_97 : decode cX12_cut 97 = .ok (.iload_n 2, 1) := by decide +kernel
theorem dX12_cut_98 : decode cX12_cut 98 = .ok (.iload 8, 2) := by decide +kernel
theorem dX12_cut_100 : decode cX12_cut 100 = .ok (.bipush 12, 2) := by decide +kernel
theorem dX12_cut_102 : decode cX12_cut 102 = .ok (.if_icmp .ne 7, 3) := by decide +kernel
theorem dX12_cut_105 : decode cX12_cut 105 = .ok (.iconst 0, 1) := by decide +kernel
theorem dX12_cut_106 : decode cX12_cut 106 = .ok (.goto 7, 3) := by decide +kernel
theorem dX12_cut_109 : decode cX12_cut 109 = .ok (.iconst 1, 1) := by decide +kernel
theorem dX12_cut_110 : decode cX12_cut 110 = .ok (.iload 8, 2) := by decide +kernel
theorem dX12_cut_112 : decode cX12_cut 112 = .ok (.ishl, 1) := by decide +kernel
theorem dX12_cut_113 : decode cX12_cut 113 = .ok (.iload_n 3, 1) := by decide +kernel
theorem dX12_cut_114 : decode cX12_cut 114 = .ok (.iload 4, 2) := by decide +kernel
theorem dX12_cut_116 : decode cX12_cut 116 = .ok (.invokevirtual 389, 3) := by decide +kernel
theorem dX12_cut_119 : decode cX12_cut 119 = .ok (.goto 4, 3) := by decide +kernel
theorem dX12_cut_122 : decode cX12_cut 122 = .ok (.iconst (-1), 1) := by decide +kernel
theorem dX12_cut_123 : decode cX12_cut 123 = .ok (.istore 9, 2) := by decide +kernel
theorem dX12_cut_125 : decode cX12_cut 125 = .ok (.iload 9, 2) := by decide +kernel
theorem dX12_cut_127 : decode cX12_cut 127 = .ok (.iload 7, 2) := by decide +kernel
theorem dX12_cut_129 : decode cX12_cut 129 = .ok (.if_icmp .le 8, 3) := by decide +kernel
theorem dX12_cut_132 : decode cX12_cut 132 = .ok (.iload 8, 2) := by decide +kernel
theorem dX12_cut_134 : decode cX12_cut 134 = .ok (.goto 5, 3) := by decide +kernel
theorem dX12_cut_137 : decode cX12_cut 137 = .ok (.iload 6, 2) := by decide +kernel
theorem dX12_cut_139 : decode cX12_cut 139 = .ok (.istore 6, 2) := by decide +kernel
theorem dX12_cut_141 : decode cX12_cut 141 = .ok (.iload 7, 2) := by decide +kernel
theorem dX12_cut_143 : decode cX12_cut 143 = .ok (.iload 9, 2) := by decide +kernel
theorem dX12_cut_145 : decode cX12_cut 145 = .ok (.invokestatic 170, 3) := by decide +kernel
theorem dX12_cut_148 : decode cX12_cut 148 = .ok (.istore 7, 2) := by decide +kernel
theorem dX12_cut_150 : decode cX12_cut 150 = .ok (.iinc 8 1, 3) := by decide +kernel
theorem dX12_cut_153 : decode cX12_cut 153 = .ok (.goto (-80), 3) := by decide +kernel
theorem dX12_cut_156 : decode cX12_cut 156 = .ok (.iload 5, 2) := by decide +kernel
theorem dX12_cut_158 : decode cX12_cut 158 = .ok (.ifCond .eq 8, 3) := by decide +kernel
theorem dX12_cut_161 : decode cX12_cut 161 = .ok (.iload 6, 2) := by decide +kernel
theorem dX12_cut_163 : decode cX12_cut 163 = .ok (.goto 5, 3) := by decide +kernel
theorem dX12_cut_166 : decode cX12_cut 166 = .ok (.iload 7, 2) := by decide +kernel
theorem dX12_cut_168 : decode cX12_cut 168 = .ok (.ireturn, 1) := by decide +kernel
theorem dX12_common_0 : decode cX12_common 0 = .ok (.lload_n 0, 1) := by decide +kernel
theorem dX12_common_1 : decode cX12_common 1 = .ok (.lstore 4, 2) := by decide +kernel
theorem dX12_common_3 : decode cX12_common 3 = .ok (.lload_n 2, 1) := by decide +kernel
theorem dX12_common_4 : decode cX12_common 4 = .ok (.lstore 6, 2) := by decide +kernel
theorem dX12_common_6 : decode cX12_common 6 = .ok (.lload 6, 2) := by decide +kernel
theorem dX12_common_8 : decode cX12_common 8 = .ok (.lconst 0, 1) := by decide +kernel
theorem dX12_common_9 : decode cX12_common 9 = .ok (.lcmp, 1) := by decide +kernel
theorem dX12_common_10 : decode cX12_common 10 = .ok (.ifCond .eq 21, 3) := by decide +kernel
theorem dX12_common_13 : decode cX12_common 13 = .ok (.lload 4, 2) := by decide +kernel
theorem dX12_common_15 : decode cX12_common 15 = .ok (.lload 6, 2) := by decide +kernel
theorem dX12_common_17 : decode cX12_common 17 = .ok (.lrem, 1) := by decide +kernel
theorem dX12_common_18 : decode cX12_common 18 = .ok (.lstore 8, 2) := by decide +kernel
theorem dX12_common_20 : decode cX12_common 20 = .ok (.lload 6, 2) := by decide +kernel
theorem dX12_common_22 : decode cX12_common 22 = .ok (.lstore 4, 2) := by decide +kernel
theorem dX12_common_24 : decode cX12_common 24 = .ok (.lload 8, 2) := by decide +kernel
theorem dX12_common_26 : decode cX12_common 26 = .ok (.lstore 6, 2) := by decide +kernel
theorem dX12_common_28 : decode cX12_common 28 = .ok (.goto (-22), 3) := by decide +kernel
theorem dX12_common_31 : decode cX12_common 31 = .ok (.lload 4, 2) := by decide +kernel
theorem dX12_common_33 : decode cX12_common 33 = .ok (.lreturn, 1) := by decide +kernel
theorem dX12_part_0 : decode cX12_part 0 = .ok (.iload 4, 2) := by decide +kernel
theorem dX12_part_2 : decode cX12_part 2 = .ok (.ifCond .eq 7, 3) := by decide +kernel
theorem dX12_part_5 : decode cX12_part 5 = .ok (.lload_n 2, 1) := by decide +kernel
theorem dX12_part_6 : decode cX12_part 6 = .ok (.goto 4, 3) := by decide +kernel
theorem dX12_part_9 : decode cX12_part 9 = .ok (.lload_n 0, 1) := by decide +kernel
theorem dX12_part_10 : decode cX12_part 10 = .ok (.lload_n 2, 1) := by decide +kernel
theorem dX12_part_11 : decode cX12_part 11 = .ok (.lload_n 0, 1) := by decide +kernel
theorem dX12_part_12 : decode cX12_part 12 = .ok (.invokestatic 393, 3) := by decide +kernel
theorem dX12_part_15 : decode cX12_part 15 = .ok (.ldiv, 1) := by decide +kernel
theorem dX12_part_16 : decode cX12_part 16 = .ok (.lreturn, 1) := by decide +kernel
theorem dX12_mean_0 : decode cX12_mean 0 = .ok (.aload_n 0, 1) := by decide +kernel
theorem dX12_mean_1 : decode cX12_mean 1 = .ok (.iconst 0, 1) := by decide +kernel
theorem dX12_mean_2 : decode cX12_mean 2 = .ok (.putfield 96, 3) := by decide +kernel
theorem dX12_mean_5 : decode cX12_mean 5 = .ok (.iload_n 3, 1) := by decide +kernel
theorem dX12_mean_6 : decode cX12_mean 6 = .ok (.iconst 0, 1) := by decide +kernel
theorem dX12_mean_7 : decode cX12_mean 7 = .ok (.bipush 99, 2) := by decide +kernel
theorem dX12_mean_9 : decode cX12_mean 9 = .ok (.invokestatic 108, 3) := by decide +kernel
theorem dX12_mean_12 : decode cX12_mean 12 = .ok (.ifCond .eq 30, 3) := by decide +kernel
theorem dX12_mean_15 : decode cX12_mean 15 = .ok (.iload 4, 2) := by decide +kernel
theorem dX12_mean_17 : decode cX12_mean 17 = .ok (.iconst 0, 1) := by decide +kernel
theorem dX12_mean_18 : decode cX12_mean 18 = .ok (.bipush 9, 2) := by decide +kernel
theorem dX12_mean_20 : decode cX12_mean 20 = .ok (.invokestatic 108, 3) := by decide +kernel
theorem dX12_mean_23 : decode cX12_mean 23 = .ok (.ifCond .eq 19, 3) := by decide +kernel
theorem dX12_mean_26 : decode cX12_mean 26 = .ok (.aload_n 0, 1) := by decide +kernel
theorem dX12_mean_27 : decode cX12_mean 27 = .ok (.iload_n 1, 1) := by decide +kernel
theorem dX12_mean_28 : decode cX12_mean 28 = .ok (.invokevirtual 282, 3) := by decide +kernel
theorem dX12_mean_31 : decode cX12_mean 31 = .ok (.ifCond .eq 11, 3) := by decide +kernel
theorem dX12_mean_34 : decode cX12_mean 34 = .ok (.aload_n 0, 1) := by decide +kernel
theorem dX12_mean_35 : decode cX12_mean 35 = .ok (.iload_n 2, 1) := by decide +kernel
theorem dX12_mean_36 : decode cX12_mean 36 = .ok (.invokevirtual 297, 3) := by decide +kernel
theorem dX12_mean_39 : decode cX12_mean 39 = .ok (.ifCond .ne 7, 3) := by decide +kernel
theorem dX12_mean_42 : decode cX12_mean 42 = .ok (.ldc2_w 397, 3) := by decide +kernel
theorem dX12_mean_45 : decode cX12_mean 45 = .ok (.lreturn, 1) := by decide +kernel
theorem dX12_mean_46 : decode cX12_mean 46 = .ok (.aload_n 0, 1) := by decide +kernel
theorem dX12_mean_47 : decode cX12_mean 47 = .ok (.iload_n 2, 1) := by decide +kernel
theorem dX12_mean_48 : decode cX12_mean 48 = .ok (.iload_n 3, 1) := by decide +kernel
theorem dX12_mean_49 : decode cX12_mean 49 = .ok (.invokevirtual 265, 3) := by decide +kernel
theorem dX12_mean_52 : decode cX12_mean 52 = .ok (.aload_n 0, 1) := by decide +kernel
theorem dX12_mean_53 : decode cX12_mean 53 = .ok (.bipush 41, 2) := by decide +kernel
theorem dX12_mean_55 : decode cX12_mean 55 = .ok (.iload_n 2, 1) := by decide +kernel
theorem dX12_mean_56 : decode cX12_mean 56 = .ok (.iadd, 1) := by decide +kernel
theorem dX12_mean_57 : decode cX12_mean 57 = .ok (.invokevirtual 246, 3) := by decide +kernel
theorem dX12_mean_60 : decode cX12_mean 60 = .ok (.iadd, 1) := by decide +kernel
theorem dX12_mean_61 : decode cX12_mean 61 = .ok (.i2l, 1) := by decide +kernel
theorem dX12_mean_62 : decode cX12_mean 62 = .ok (.lstore 6, 2) := by decide +kernel
theorem dX12_mean_64 : decode cX12_mean 64 = .ok (.lload 6, 2) := by decide +kernel
theorem dX12_mean_66 : decode cX12_mean 66 = .ok (.bipush 10, 2) := by decide +kernel
theorem dX12_mean_68 : decode cX12_mean 68 = .ok (.iload 4, 2) := by decide +kernel
theorem dX12_mean_70 : decode cX12_mean 70 = .ok (.isub, 1) := by decide +kernel
theorem dX12_mean_71 : decode cX12_mean 71 = .ok (.i2l, 1) := by decide +kernel
theorem dX12_mean_72 : decode cX12_mean 72 = .ok (.lmul, 1) := by decide +kernel
theorem dX12_mean_73 : decode cX12_mean 73 = .ok (.bipush 12, 2) := by decide +kernel
theorem dX12_mean_75 : decode cX12_mean 75 = .ok (.iload 4, 2) := by decide +kernel
theorem dX12_mean_77 : decode cX12_mean 77 = .ok (.imul, 1) := by decide +kernel
theorem dX12_mean_78 : decode cX12_mean 78 = .ok (.i2l, 1) := by decide +kernel
theorem dX12_mean_79 : decode cX12_mean 79 = .ok (.ladd, 1) := by decide +kernel
theorem dX12_mean_80 : decode cX12_mean 80 = .ok (.ldc2_w 399, 3) := by decide +kernel
theorem dX12_mean_83 : decode cX12_mean 83 = .ok (.iload 4, 2) := by decide +kernel
theorem dX12_mean_85 : decode cX12_mean 85 = .ok (.i2l, 1) := by decide +kernel
theorem dX12_mean_86 : decode cX12_mean 86 = .ok (.lsub, 1) := by decide +kernel
theorem dX12_mean_87 : decode cX12_mean 87 = .ok (.iload 5, 2) := by decide +kernel
theorem dX12_mean_89 : decode cX12_mean 89 = .ok (.invokestatic 401, 3) := by decide +kernel
theorem dX12_mean_92 : decode cX12_mean 92 = .ok (.lreturn, 1) := by decide +kernel
theorem dX12_asked_0 : decode cX12_asked 0 = .ok (.iconst 0, 1) := by decide +kernel
theorem dX12_asked_1 : decode cX12_asked 1 = .ok (.istore_n 2, 1) := by decide +kernel
theorem dX12_asked_2 : decode cX12_asked 2 = .ok (.iconst 0, 1) := by decide +kernel
theorem dX12_asked_3 : decode cX12_asked 3 = .ok (.istore_n 3, 1) := by decide +kernel
theorem dX12_asked_4 : decode cX12_asked 4 = .ok (.iload_n 3, 1) := by decide +kernel
theorem dX12_asked_5 : decode cX12_asked 5 = .ok (.aload_n 0, 1) := by decide +kernel
theorem dX12_asked_6 : decode cX12_asked 6 = .ok (.getfield 256, 3) := by decide +kernel
theorem dX12_asked_9 : decode cX12_asked 9 = .ok (.if_icmp .ge 36, 3) := by decide +kernel
theorem dX12_asked_12 : decode cX12_asked 12 = .ok (.iload_n 2, 1) := by decide +kernel
theorem dX12_asked_13 : decode cX12_asked 13 = .ok (.aload_n 0, 1) := by decide +kernel
theorem dX12_asked_14 : decode cX12_asked 14 = .ok (.bipush 53, 2) := by decide +kernel
theorem dX12_asked_16 : decode cX12_asked 16 = .ok (.iload_n 3, 1) := by decide +kernel
theorem dX12_asked_17 : decode cX12_asked 17 = .ok (.iadd, 1) := by decide +kernel
theorem dX12_asked_18 : decode cX12_asked 18 = .ok (.invokevirtual 246, 3) := by decide +kernel
theorem dX12_asked_21 : decode cX12_asked 21 = .ok (.iload_n 1, 1) := by decide +kernel
theorem dX12_asked_22 : decode cX12_asked 22 = .ok (.if_icmp .ne 14, 3) := by decide +kernel
theorem dX12_asked_25 : decode cX12_asked 25 = .ok (.aload_n 0, 1) := by decide +kernel
theorem dX12_asked_26 : decode cX12_asked 26 = .ok (.bipush 61, 2) := by decide +kernel
theorem dX12_asked_28 : decode cX12_asked 28 = .ok (.iload_n 3, 1) := by decide +kernel
theorem dX12_asked_29 : decode cX12_asked 29 = .ok (.iadd, 1) := by decide +kernel
theorem dX12_asked_30 : decode cX12_asked 30 = .ok (.invokevirtual 246, 3) := by decide +kernel
theorem dX12_asked_33 : decode cX12_asked 33 = .ok (.goto 4, 3) := by decide +kernel
theorem dX12_asked_36 : decode cX12_asked 36 = .ok (.iconst 0, 1) := by decide +kernel
theorem dX12_asked_37 : decode cX12_asked 37 = .ok (.ior, 1) := by decide +kernel
theorem dX12_asked_38 : decode cX12_asked 38 = .ok (.istore_n 2, 1) := by decide +kernel
theorem dX12_asked_39 : decode cX12_asked 39 = .ok (.iinc 3 1, 3) := by decide +kernel
theorem dX12_asked_42 : decode cX12_asked 42 = .ok (.goto (-38), 3) := by decide +kernel
theorem dX12_asked_45 : decode cX12_asked 45 = .ok (.iload_n 2, 1) := by decide +kernel
theorem dX12_asked_46 : decode cX12_asked 46 = .ok (.ireturn, 1) := by decide +kernel
theorem dX12_ringAmong_0 : decode cX12_ringAmong 0 = .ok (.ldc_w 275, 3) := by decide +kernel
theorem dX12_ringAmong_3 : decode cX12_ringAmong 3 = .ok (.istore_n 2, 1) := by decide +kernel
theorem dX12_ringAmong_4 : decode cX12_ringAmong 4 = .ok (.iconst 0, 1) := by decide +kernel
theorem dX12_ringAmong_5 : decode cX12_ringAmong 5 = .ok (.istore_n 3, 1) := by decide +kernel
theorem dX12_ringAmong_6 : decode cX12_ringAmong 6 = .ok (.iload_n 3, 1) := by decide +kernel
theorem dX12_ringAmong_7 : decode cX12_ringAmong 7 = .ok (.aload_n 0, 1) := by decide +kernel
theorem dX12_ringAmong_8 : decode cX12_ringAmong 8 = .ok (.getfield 250, 3) := by decide +kernel
theorem dX12_ringAmong_11 : decode cX12_ringAmong 11 = .ok (.if_icmp .ge 118, 3) := by decide +kernel
theorem dX12_ringAmong_14 : decode cX12_ringAmong 14 = .ok (.iload_n 1, 1) := by decide +kernel
theorem dX12_ringAmong_15 : decode cX12_ringAmong 15 = .ok (.iload_n 3, 1) := by decide +kernel
theorem dX12_ringAmong_16 : decode cX12_ringAmong 16 = .ok (.invokestatic 100, 3) := by decide +kernel
theorem dX12_ringAmong_19 : decode cX12_ringAmong 19 = .ok (.ifCond .eq 13, 3) := by decide +kernel
theorem dX12_ringAmong_22 : decode cX12_ringAmong 22 = .ok (.aload_n 0, 1) := by decide +kernel
theorem dX12_ringAmong_23 : decode cX12_ringAmong 23 = .ok (.iload_n 3, 1) := by decide +kernel
theorem dX12_ringAmong_24 : decode cX12_ringAmong 24 = .ok (.invokevirtual 405, 3) := by decide +kernel
theorem dX12_ringAmong_27 : decode cX12_ringAmong 27 = .ok (.iload_n 1, 1) := by decide +kernel
theorem dX12_ringAmong_28 : decode cX12_ringAmong 28 = .ok (.iand, 1) := by decide +kernel
theorem dX12_ringAmong_29 : decode cX12_ringAmong 29 = .ok (.goto 4, 3) := by decide +kernel
theorem dX12_ringAmong_32 : decode cX12_ringAmong 32 = .ok (.iconst 0, 1) := by decide +kernel
theorem dX12_ringAmong_33 : decode cX12_ringAmong 33 = .ok (.istore 4, 2) := by decide +kernel
theorem dX12_ringAmong_35 : decode cX12_ringAmong 35 = .ok (.iconst 1, 1) := by decide +kernel
theorem dX12_ringAmong_36 : decode cX12_ringAmong 36 = .ok (.istore 5, 2) := by decide +kernel
theorem dX12_ringAmong_38 : decode cX12_ringAmong 38 = .ok (.iload 5, 2) := by decide +kernel
theorem dX12_ringAmong_40 : decode cX12_ringAmong 40 = .ok (.bipush 6, 2) := by decide +kernel
theorem dX12_ringAmong_42 : decode cX12_ringAmong 42 = .ok (.if_icmp .gt 81, 3) := by decide +kernel
theorem dX12_ringAmong_45 : decode cX12_ringAmong 45 = .ok (.iload 4, 2) := by decide +kernel
theorem dX12_ringAmong_47 : decode cX12_ringAmong 47 = .ok (.iload_n 3, 1) := by decide +kernel
theorem dX12_ringAmong_48 : decode cX12_ringAmong 48 = .ok (.invokestatic 100, 3) := by decide +kernel
theorem dX12_ringAmong_51 : decode cX12_ringAmong 51 = .ok (.ifCond .eq 12, 3) := by decide +kernel
theorem dX12_ringAmong_54 : decode cX12_ringAmong 54 = .ok (.iload_n 2, 1) := by decide +kernel
theorem dX12_ringAmong_55 : decode cX12_ringAmong 55 = .ok (.iload 5, 2) := by decide +kernel
theorem dX12_ringAmong_57 : decode cX12_ringAmong 57 = .ok (.invokestatic 279, 3) := by decide +kernel
theorem dX12_ringAmong_60 : decode cX12_ringAmong 60 = .ok (.goto 4, 3) := by decide +kernel
theorem dX12_ringAmong_63 : decode cX12_ringAmong 63 = .ok (.iload_n 2, 1) := by decide +kernel
theorem dX12_ringAmong_64 : decode cX12_ringAmong 64 = .ok (.istore_n 2, 1) := by decide +kernel
theorem dX12_ringAmong_65 : decode cX12_ringAmong 65 = .ok (.iconst 0, 1) := by decide +kernel
theorem dX12_ringAmong_66 : decode cX12_ringAmong 66 = .ok (.istore 6, 2) := by decide +kernel
theorem dX12_ringAmong_68 : decode cX12_ringAmong 68 = .ok (.iconst 0, 1) := by decide +kernel
theorem dX12_ringAmong_69 : decode cX12_ringAmong 69 = .ok (.istore 7, 2) := by decide +kernel
theorem dX12_ringAmong_71 : decode cX12_ringAmong 71 = .ok (.iload 7, 2) := by decide +kernel
theorem dX12_ringAmong_73 : decode cX12_ringAmong 73 = .ok (.aload_n 0, 1) := by decide +kernel
theorem dX12_ringAmong_74 : decode cX12_ringAmong 74 = .ok (.getfield 250, 3) := by decide +kernel
theorem dX12_ringAmong_77 : decode cX12_ringAmong 77 = .ok (.if_icmp .ge 36, 3) := by decide +kernel
theorem dX12_ringAmong_80 : decode cX12_ringAmong 80 = .ok (.iload 6, 2) := by decide +kernel
theorem dX12_ringAmong_82 : decode cX12_ringAmong 82 = .ok (.iload 4, 2) := by decide +kernel
theorem dX12_ringAmong_84 : decode cX12_ringAmong 84 = .ok (.iload 7, 2) := by decide +kernel
theorem dX12_ringAmong_86 : decode cX12_ringAmong 86 = .ok (.invokestatic 100, 3) := by decide +kernel
theorem dX12_ringAmong_89 : decode cX12_ringAmong 89 = .ok (.ifCond .eq 14, 3) := by decide +kernel
theorem dX12_ringAmong_92 : decode cX12_ringAmong 92 = .ok (.aload_n 0, 1) := by decide +kernel
theorem dX12_ringAmong_93 : decode cX12_ringAmong 93 = .ok (.iload 7, 2) := by decide +kernel
theorem dX12_ringAmong_95 : decode cX12_ringAmong 95 = .ok (.invokevirtual 405, 3) := by decide +kernel
theorem dX12_ringAmong_98 : decode cX12_ringAmong 98 = .ok (.iload_n 1, 1) := by decide +kernel
theorem dX12_ringAmong_99 : decode cX12_ringAmong 99 = .ok (.iand, 1) := by decide +kernel
theorem dX12_ringAmong_100 : decode cX12_ringAmong 100 = .ok (.goto 4, 3) := by decide +kernel
theorem dX12_ringAmong_103 : decode cX12_ringAmong 103 = .ok (.iconst 0, 1) := by decide +kernel
theorem dX12_ringAmong_104 : decode cX12_ringAmong 104 = .ok (.ior, 1) := by decide +kernel
theorem dX12_ringAmong_105 : decode cX12_ringAmong 105 = .ok (.istore 6, 2) := by decide +kernel
theorem dX12_ringAmong_107 : decode cX12_ringAmong 107 = .ok (.iinc 7 1, 3) := by decide +kernel
theorem dX12_ringAmong_110 : decode cX12_ringAmong 110 = .ok (.goto (-39), 3) := by decide +kernel
theorem dX12_ringAmong_113 : decode cX12_ringAmong 113 = .ok (.iload 6, 2) := by decide +kernel
theorem dX12_ringAmong_115 : decode cX12_ringAmong 115 = .ok (.istore 4, 2) := by decide +kernel
theorem dX12_ringAmong_117 : decode cX12_ringAmong 117 = .ok (.iinc 5 1, 3) := by decide +kernel
theorem dX12_ringAmong_120 : decode cX12_ringAmong 120 = .ok (.goto (-82), 3) := by decide +kernel
theorem dX12_ringAmong_123 : decode cX12_ringAmong 123 = .ok (.iinc 3 1, 3) := by decide +kernel
theorem dX12_ringAmong_126 : decode cX12_ringAmong 126 = .ok (.goto (-120), 3) := by decide +kernel
theorem dX12_ringAmong_129 : decode cX12_ringAmong 129 = .ok (.iload_n 2, 1) := by decide +kernel
theorem dX12_ringAmong_130 : decode cX12_ringAmong 130 = .ok (.ireturn, 1) := by decide +kernel
theorem dX12_breaks_0 : decode cX12_breaks 0 = .ok (.iconst (-1), 1) := by decide +kernel
theorem dX12_breaks_1 : decode cX12_breaks 1 = .ok (.istore_n 1, 1) := by decide +kernel
theorem dX12_breaks_2 : decode cX12_breaks 2 = .ok (.iconst 1, 1) := by decide +kernel
theorem dX12_breaks_3 : decode cX12_breaks 3 = .ok (.aload_n 0, 1) := by decide +kernel
theorem dX12_breaks_4 : decode cX12_breaks 4 = .ok (.getfield 250, 3) := by decide +kernel
theorem dX12_breaks_7 : decode cX12_breaks 7 = .ok (.ishl, 1) := by decide +kernel
theorem dX12_breaks_8 : decode cX12_breaks 8 = .ok (.iconst 1, 1) := by decide +kernel
theorem dX12_breaks_9 : decode cX12_breaks 9 = .ok (.isub, 1) := by decide +kernel
theorem dX12_breaks_10 : decode cX12_breaks 10 = .ok (.istore_n 2, 1) := by decide +kernel
theorem dX12_breaks_11 : decode cX12_breaks 11 = .ok (.iconst 0, 1) := by decide +kernel
theorem dX12_breaks_12 : decode cX12_breaks 12 = .ok (.istore_n 3, 1) := by decide +kernel
theorem dX12_breaks_13 : decode cX12_breaks 13 = .ok (.iload_n 3, 1) := by decide +kernel
theorem dX12_breaks_14 : decode cX12_breaks 14 = .ok (.iload_n 2, 1) := by decide +kernel
theorem dX12_breaks_15 : decode cX12_breaks 15 = .ok (.if_icmp .gt 58, 3) := by decide +kernel
theorem dX12_breaks_18 : decode cX12_breaks 18 = .ok (.iload_n 1, 1) := by decide +kernel
theorem dX12_breaks_19 : decode cX12_breaks 19 = .ok (.iconst (-1), 1) := by decide +kernel
theorem dX12_breaks_20 : decode cX12_breaks 20 = .ok (.if_icmp .eq 14, 3) := by decide +kernel
theorem dX12_breaks_23 : decode cX12_breaks 23 = .ok (.iload_n 3, 1) := by decide +kernel
theorem dX12_breaks_24 : decode cX12_breaks 24 = .ok (.invokestatic 369, 3) := by decide +kernel
theorem dX12_breaks_27 : decode cX12_breaks 27 = .ok (.iload_n 1, 1) := by decide +kernel
theorem dX12_breaks_28 : decode cX12_breaks 28 = .ok (.invokestatic 369, 3) := by decide +kernel
theorem dX12_breaks_31 : decode cX12_breaks 31 = .ok (.if_icmp .ge 7, 3) := by decide +kernel
theorem dX12_breaks_34 : decode cX12_breaks 34 = .ok (.iconst 1, 1) := by decide +kernel
theorem dX12_breaks_35 : decode cX12_breaks 35 = .ok (.goto 4, 3) := by decide +kernel
theorem dX12_breaks_38 : decode cX12_breaks 38 = .ok (.iconst 0, 1) := by decide +kernel
theorem dX12_breaks_39 : decode cX12_breaks 39 = .ok (.istore 4, 2) := by decide +kernel
theorem dX12_breaks_41 : decode cX12_breaks 41 = .ok (.iload 4, 2) := by decide +kernel
theorem dX12_breaks_43 : decode cX12_breaks 43 = .ok (.ifCond .eq 22, 3) := by decide +kernel
theorem dX12_breaks_46 : decode cX12_breaks 46 = .ok (.aload_n 0, 1) := by decide +kernel
theorem dX12_breaks_47 : decode cX12_breaks 47 = .ok (.iload_n 2, 1) := by decide +kernel
theorem dX12_breaks_48 : decode cX12_breaks 48 = .ok (.iload_n 3, 1) := by decide +kernel
theorem dX12_breaks_49 : decode cX12_breaks 49 = .ok (.iconst (-1), 1) := by decide +kernel
theorem dX12_breaks_50 : decode cX12_breaks 50 = .ok (.ixor, 1) := by decide +kernel
theorem dX12_breaks_51 : decode cX12_breaks 51 = .ok (.iand, 1) := by decide +kernel
theorem dX12_breaks_52 : decode cX12_breaks 52 = .ok (.invokevirtual 408, 3) := by decide +kernel
theorem dX12_breaks_55 : decode cX12_breaks 55 = .ok (.ldc_w 275, 3) := by decide +kernel
theorem dX12_breaks_58 : decode cX12_breaks 58 = .ok (.if_icmp .lt 7, 3) := by decide +kernel
theorem dX12_breaks_61 : decode cX12_breaks 61 = .ok (.iload_n 3, 1) := by decide +kernel
theorem dX12_breaks_62 : decode cX12_breaks 62 = .ok (.goto 4, 3) := by decide +kernel
theorem dX12_breaks_65 : decode cX12_breaks 65 = .ok (.iload_n 1, 1) := by decide +kernel
theorem dX12_breaks_66 : decode cX12_breaks 66 = .ok (.istore_n 1, 1) := by decide +kernel
theorem dX12_breaks_67 : decode cX12_breaks 67 = .ok (.iinc 3 1, 3) := by decide +kernel
theorem dX12_breaks_70 : decode cX12_breaks 70 = .ok (.goto (-57), 3) := by decide +kernel
theorem dX12_breaks_73 : decode cX12_breaks 73 = .ok (.iload_n 1, 1) := by decide +kernel
theorem dX12_breaks_74 : decode cX12_breaks 74 = .ok (.ireturn, 1) := by decide +kernel
theorem dX12_ring_0 : decode cX12_ring 0 = .ok (.aload_n 0, 1) := by decide +kernel
theorem dX12_ring_1 : decode cX12_ring 1 = .ok (.iconst 0, 1) := by decide +kernel
theorem dX12_ring_2 : decode cX12_ring 2 = .ok (.putfield 96, 3) := by decide +kernel
theorem dX12_ring_5 : decode cX12_ring 5 = .ok (.aload_n 0, 1) := by decide +kernel
theorem dX12_ring_6 : decode cX12_ring 6 = .ok (.iload_n 1, 1) := by decide +kernel
theorem dX12_ring_7 : decode cX12_ring 7 = .ok (.invokevirtual 282, 3) := by decide +kernel
theorem dX12_ring_10 : decode cX12_ring 10 = .ok (.ifCond .ne 6, 3) := by decide +kernel
theorem dX12_ring_13 : decode cX12_ring 13 = .ok (.bipush (-2), 2) := by decide +kernel
theorem dX12_ring_15 : decode cX12_ring 15 = .ok (.ireturn, 1) := by decide +kernel
theorem dX12_ring_16 : decode cX12_ring 16 = .ok (.iload_n 2, 1) := by decide +kernel
theorem dX12_ring_17 : decode cX12_ring 17 = .ok (.bipush 10, 2) := by decide +kernel
theorem dX12_ring_19 : decode cX12_ring 19 = .ok (.if_icmp .lt 28, 3) := by decide +kernel
theorem dX12_ring_22 : decode cX12_ring 22 = .ok (.aload_n 0, 1) := by decide +kernel
theorem dX12_ring_23 : decode cX12_ring 23 = .ok (.iload_n 2, 1) := by decide +kernel
theorem dX12_ring_24 : decode cX12_ring 24 = .ok (.bipush 10, 2) := by decide +kernel
theorem dX12_ring_26 : decode cX12_ring 26 = .ok (.isub, 1) := by decide +kernel
theorem dX12_ring_27 : decode cX12_ring 27 = .ok (.invokevirtual 339, 3) := by decide +kernel
theorem dX12_ring_30 : decode cX12_ring 30 = .ok (.ifCond .eq 14, 3) := by decide +kernel
theorem dX12_ring_33 : decode cX12_ring 33 = .ok (.aload_n 0, 1) := by decide +kernel
theorem dX12_ring_34 : decode cX12_ring 34 = .ok (.iload_n 2, 1) := by decide +kernel
theorem dX12_ring_35 : decode cX12_ring 35 = .ok (.bipush 10, 2) := by decide +kernel
theorem dX12_ring_37 : decode cX12_ring 37 = .ok (.isub, 1) := by decide +kernel
theorem dX12_ring_38 : decode cX12_ring 38 = .ok (.invokevirtual 405, 3) := by decide +kernel
theorem dX12_ring_41 : decode cX12_ring 41 = .ok (.goto 5, 3) := by decide +kernel
theorem dX12_ring_44 : decode cX12_ring 44 = .ok (.bipush (-2), 2) := by decide +kernel
theorem dX12_ring_46 : decode cX12_ring 46 = .ok (.ireturn, 1) := by decide +kernel
theorem dX12_ring_47 : decode cX12_ring 47 = .ok (.aload_n 0, 1) := by decide +kernel
theorem dX12_ring_48 : decode cX12_ring 48 = .ok (.iconst 1, 1) := by decide +kernel
theorem dX12_ring_49 : decode cX12_ring 49 = .ok (.aload_n 0, 1) := by decide +kernel
theorem dX12_ring_50 : decode cX12_ring 50 = .ok (.getfield 250, 3) := by decide +kernel
theorem dX12_ring_53 : decode cX12_ring 53 = .ok (.ishl, 1) := by decide +kernel
theorem dX12_ring_54 : decode cX12_ring 54 = .ok (.iconst 1, 1) := by decide +kernel
theorem dX12_ring_55 : decode cX12_ring 55 = .ok (.isub, 1) := by decide +kernel
theorem dX12_ring_56 : decode cX12_ring 56 = .ok (.invokevirtual 408, 3) := by decide +kernel
theorem dX12_ring_59 : decode cX12_ring 59 = .ok (.istore_n 3, 1) := by decide +kernel
theorem dX12_ring_60 : decode cX12_ring 60 = .ok (.iload_n 2, 1) := by decide +kernel
theorem dX12_ring_61 : decode cX12_ring 61 = .ok (.ifCond .ne 18, 3) := by decide +kernel
theorem dX12_ring_64 : decode cX12_ring 64 = .ok (.iload_n 3, 1) := by decide +kernel
theorem dX12_ring_65 : decode cX12_ring 65 = .ok (.ldc_w 275, 3) := by decide +kernel
theorem dX12_ring_68 : decode cX12_ring 68 = .ok (.if_icmp .lt 7, 3) := by decide +kernel
theorem dX12_ring_71 : decode cX12_ring 71 = .ok (.iconst (-1), 1) := by decide +kernel
theorem dX12_ring_72 : decode cX12_ring 72 = .ok (.goto 21, 3) := by decide +kernel
theorem dX12_ring_75 : decode cX12_ring 75 = .ok (.iload_n 3, 1) := by decide +kernel
theorem dX12_ring_76 : decode cX12_ring 76 = .ok (.goto 17, 3) := by decide +kernel
theorem dX12_ring_79 : decode cX12_ring 79 = .ok (.iload_n 2, 1) := by decide +kernel
theorem dX12_ring_80 : decode cX12_ring 80 = .ok (.iconst 1, 1) := by decide +kernel
theorem dX12_ring_81 : decode cX12_ring 81 = .ok (.if_icmp .ne 10, 3) := by decide +kernel
theorem dX12_ring_84 : decode cX12_ring 84 = .ok (.aload_n 0, 1) := by decide +kernel
theorem dX12_ring_85 : decode cX12_ring 85 = .ok (.invokevirtual 411, 3) := by decide +kernel
theorem dX12_ring_88 : decode cX12_ring 88 = .ok (.goto 5, 3) := by decide +kernel
theorem dX12_ring_91 : decode cX12_ring 91 = .ok (.bipush (-2), 2) := by decide +kernel
theorem dX12_ring_93 : decode cX12_ring 93 = .ok (.ireturn, 1) := by decide +kernel
theorem dX12_isElse_0 : decode cX12_isElse 0 = .ok (.iconst 0, 1) := by decide +kernel
theorem dX12_isElse_1 : decode cX12_isElse 1 = .ok (.istore 4, 2) := by decide +kernel
theorem dX12_isElse_3 : decode cX12_isElse 3 = .ok (.iconst 0, 1) := by decide +kernel
theorem dX12_isElse_4 : decode cX12_isElse 4 = .ok (.istore 5, 2) := by decide +kernel
theorem dX12_isElse_6 : decode cX12_isElse 6 = .ok (.iconst 0, 1) := by decide +kernel
theorem dX12_isElse_7 : decode cX12_isElse 7 = .ok (.istore 6, 2) := by decide +kernel
theorem dX12_isElse_9 : decode cX12_isElse 9 = .ok (.iload 6, 2) := by decide +kernel
theorem dX12_isElse_11 : decode cX12_isElse 11 = .ok (.aload_n 0, 1) := by decide +kernel
theorem dX12_isElse_12 : decode cX12_isElse 12 = .ok (.getfield 253, 3) := by decide +kernel
theorem dX12_isElse_15 : decode cX12_isElse 15 = .ok (.if_icmp .ge 83, 3) := by decide +kernel
theorem dX12_isElse_18 : decode cX12_isElse 18 = .ok (.iload 4, 2) := by decide +kernel
theorem dX12_isElse_20 : decode cX12_isElse 20 = .ok (.ifCond .ne 28, 3) := by decide +kernel
theorem dX12_isElse_23 : decode cX12_isElse 23 = .ok (.aload_n 0, 1) := by decide +kernel
theorem dX12_isElse_24 : decode cX12_isElse 24 = .ok (.iconst 5, 1) := by decide +kernel
theorem dX12_isElse_25 : decode cX12_isElse 25 = .ok (.iload 6, 2) := by decide +kernel
theorem dX12_isElse_27 : decode cX12_isElse 27 = .ok (.iadd, 1) := by decide +kernel
theorem dX12_isElse_28 : decode cX12_isElse 28 = .ok (.invokevirtual 246, 3) := by decide +kernel
theorem dX12_isElse_31 : decode cX12_isElse 31 = .ok (.iload_n 1, 1) := by decide +kernel
theorem dX12_isElse_32 : decode cX12_isElse 32 = .ok (.if_icmp .ne 20, 3) := by decide +kernel
theorem dX12_isElse_35 : decode cX12_isElse 35 = .ok (.aload_n 0, 1) := by decide +kernel
theorem dX12_isElse_36 : decode cX12_isElse 36 = .ok (.bipush 17, 2) := by decide +kernel
theorem dX12_isElse_38 : decode cX12_isElse 38 = .ok (.iload 6, 2) := by decide +kernel
theorem dX12_isElse_40 : decode cX12_isElse 40 = .ok (.iadd, 1) := by decide +kernel
theorem dX12_isElse_41 : decode cX12_isElse 41 = .ok (.invokevirtual 246, 3) := by decide +kernel
theorem dX12_isElse_44 : decode cX12_isElse 44 = .ok (.iload_n 2, 1) := by decide +kernel
theorem dX12_isElse_45 : decode cX12_isElse 45 = .ok (.if_icmp .ne 7, 3) := by decide +kernel
theorem dX12_isElse_48 : decode cX12_isElse 48 = .ok (.iconst 1, 1) := by decide +kernel
theorem dX12_isElse_49 : decode cX12_isElse 49 = .ok (.goto 4, 3) := by decide +kernel
theorem dX12_isElse_52 : decode cX12_isElse 52 = .ok (.iconst 0, 1) := by decide +kernel
theorem dX12_isElse_53 : decode cX12_isElse 53 = .ok (.istore 4, 2) := by decide +kernel
theorem dX12_isElse_55 : decode cX12_isElse 55 = .ok (.iload 5, 2) := by decide +kernel
theorem dX12_isElse_57 : decode cX12_isElse 57 = .ok (.ifCond .ne 28, 3) := by decide +kernel
theorem dX12_isElse_60 : decode cX12_isElse 60 = .ok (.aload_n 0, 1) := by decide +kernel
theorem dX12_isElse_61 : decode cX12_isElse 61 = .ok (.iconst 5, 1) := by decide +kernel
theorem dX12_isElse_62 : decode cX12_isElse 62 = .ok (.iload 6, 2) := by decide +kernel
theorem dX12_isElse_64 : decode cX12_isElse 64 = .ok (.iadd, 1) := by decide +kernel
theorem dX12_isElse_65 : decode cX12_isElse 65 = .ok (.invokevirtual 246, 3) := by decide +kernel
theorem dX12_isElse_68 : decode cX12_isElse 68 = .ok (.iload_n 2, 1) := by decide +kernel
theorem dX12_isElse_69 : decode cX12_isElse 69 = .ok (.if_icmp .ne 20, 3) := by decide +kernel
theorem dX12_isElse_72 : decode cX12_isElse 72 = .ok (.aload_n 0, 1) := by decide +kernel
theorem dX12_isElse_73 : decode cX12_isElse 73 = .ok (.bipush 17, 2) := by decide +kernel
theorem dX12_isElse_75 : decode cX12_isElse 75 = .ok (.iload 6, 2) := by decide +kernel
theorem dX12_isElse_77 : decode cX12_isElse 77 = .ok (.iadd, 1) := by decide +kernel
theorem dX12_isElse_78 : decode cX12_isElse 78 = .ok (.invokevirtual 246, 3) := by decide +kernel
theorem dX12_isElse_81 : decode cX12_isElse 81 = .ok (.iload_n 1, 1) := by decide +kernel
theorem dX12_isElse_82 : decode cX12_isElse 82 = .ok (.if_icmp .ne 7, 3) := by decide +kernel
theorem dX12_isElse_85 : decode cX12_isElse 85 = .ok (.iconst 1, 1) := by decide +kernel
theorem dX12_isElse_86 : decode cX12_isElse 86 = .ok (.goto 4, 3) := by decide +kernel
theorem dX12_isElse_89 : decode cX12_isElse 89 = .ok (.iconst 0, 1) := by decide +kernel
theorem dX12_isElse_90 : decode cX12_isElse 90 = .ok (.istore 5, 2) := by decide +kernel
theorem dX12_isElse_92 : decode cX12_isElse 92 = .ok (.iinc 6 1, 3) := by decide +kernel
theorem dX12_isElse_95 : decode cX12_isElse 95 = .ok (.goto (-86), 3) := by decide +kernel
theorem dX12_isElse_98 : decode cX12_isElse 98 = .ok (.iload_n 3, 1) := by decide +kernel
theorem dX12_isElse_99 : decode cX12_isElse 99 = .ok (.tableswitch 63 0 2 #[25, 36, 39], 25) := by decide +kernel
theorem dX12_isElse_124 : decode cX12_isElse 124 = .ok (.iload_n 1, 1) := by decide +kernel
theorem dX12_isElse_125 : decode cX12_isElse 125 = .ok (.iload_n 2, 1) := by decide +kernel
theorem dX12_isElse_126 : decode cX12_isElse 126 = .ok (.if_icmp .eq 7, 3) := by decide +kernel
theorem dX12_isElse_129 : decode cX12_isElse 129 = .ok (.iconst 1, 1) := by decide +kernel
theorem dX12_isElse_130 : decode cX12_isElse 130 = .ok (.goto 4, 3) := by decide +kernel
theorem dX12_isElse_133 : decode cX12_isElse 133 = .ok (.iconst 0, 1) := by decide +kernel
theorem dX12_isElse_134 : decode cX12_isElse 134 = .ok (.ireturn, 1) := by decide +kernel
theorem dX12_isElse_135 : decode cX12_isElse 135 = .ok (.iload 4, 2) := by decide +kernel
theorem dX12_isElse_137 : decode cX12_isElse 137 = .ok (.ireturn, 1) := by decide +kernel
theorem dX12_isElse_138 : decode cX12_isElse 138 = .ok (.iload_n 1, 1) := by decide +kernel
theorem dX12_isElse_139 : decode cX12_isElse 139 = .ok (.iload_n 2, 1) := by decide +kernel
theorem dX12_isElse_140 : decode cX12_isElse 140 = .ok (.if_icmp .eq 20, 3) := by decide +kernel
theorem dX12_isElse_143 : decode cX12_isElse 143 = .ok (.aload_n 0, 1) := by decide +kernel
theorem dX12_isElse_144 : decode cX12_isElse 144 = .ok (.iload_n 1, 1) := by decide +kernel
theorem dX12_isElse_145 : decode cX12_isElse 145 = .ok (.iconst 0, 1) := by decide +kernel
theorem dX12_isElse_146 : decode cX12_isElse 146 = .ok (.iload_n 2, 1) := by decide +kernel
theorem dX12_isElse_147 : decode cX12_isElse 147 = .ok (.invokevirtual 342, 3) := by decide +kernel
theorem dX12_isElse_150 : decode cX12_isElse 150 = .ok (.ldc_w 275, 3) := by decide +kernel
theorem dX12_isElse_153 : decode cX12_isElse 153 = .ok (.if_icmp .ge 7, 3) := by decide +kernel
theorem dX12_isElse_156 : decode cX12_isElse 156 = .ok (.iconst 1, 1) := by decide +kernel
theorem dX12_isElse_157 : decode cX12_isElse 157 = .ok (.goto 4, 3) := by decide +kernel
theorem dX12_isElse_160 : decode cX12_isElse 160 = .ok (.iconst 0, 1) := by decide +kernel
theorem dX12_isElse_161 : decode cX12_isElse 161 = .ok (.ireturn, 1) := by decide +kernel
theorem dX12_isElse_162 : decode cX12_isElse 162 = .ok (.iload_n 1, 1) := by decide +kernel
theorem dX12_isElse_163 : decode cX12_isElse 163 = .ok (.iload_n 2, 1) := by decide +kernel
theorem dX12_isElse_164 : decode cX12_isElse 164 = .ok (.if_icmp .eq 17, 3) := by decide +kernel
theorem dX12_isElse_167 : decode cX12_isElse 167 = .ok (.iload 4, 2) := by decide +kernel
theorem dX12_isElse_169 : decode cX12_isElse 169 = .ok (.ifCond .ne 12, 3) := by decide +kernel
theorem dX12_isElse_172 : decode cX12_isElse 172 = .ok (.iload 5, 2) := by decide +kernel
theorem dX12_isElse_174 : decode cX12_isElse 174 = .ok (.ifCond .ne 7, 3) := by decide +kernel
theorem dX12_isElse_177 : decode cX12_isElse 177 = .ok (.iconst 1, 1) := by decide +kernel
theorem dX12_isElse_178 : decode cX12_isElse 178 = .ok (.goto 4, 3) := by decide +kernel
theorem dX12_isElse_181 : decode cX12_isElse 181 = .ok (.iconst 0, 1) := by decide +kernel
theorem dX12_isElse_182 : decode cX12_isElse 182 = .ok (.ireturn, 1) := by decide +kernel
theorem dX12_elsewhere_0 : decode cX12_elsewhere 0 = .ok (.iconst 0, 1) := by decide +kernel
theorem dX12_elsewhere_1 : decode cX12_elsewhere 1 = .ok (.istore_n 3, 1) := by decide +kernel
theorem dX12_elsewhere_2 : decode cX12_elsewhere 2 = .ok (.iconst 0, 1) := by decide +kernel
theorem dX12_elsewhere_3 : decode cX12_elsewhere 3 = .ok (.istore 4, 2) := by decide +kernel
theorem dX12_elsewhere_5 : decode cX12_elsewhere 5 = .ok (.iload 4, 2) := by decide +kernel
theorem dX12_elsewhere_7 : decode cX12_elsewhere 7 = .ok (.aload_n 0, 1) := by decide +kernel
theorem dX12_elsewhere_8 : decode cX12_elsewhere 8 = .ok (.getfield 250, 3) := by decide +kernel
theorem dX12_elsewhere_11 : decode cX12_elsewhere 11 = .ok (.if_icmp .ge 31, 3) := by decide +kernel
theorem dX12_elsewhere_14 : decode cX12_elsewhere 14 = .ok (.iload_n 3, 1) := by decide +kernel
theorem dX12_elsewhere_15 : decode cX12_elsewhere 15 = .ok (.aload_n 0, 1) := by decide +kernel
theorem dX12_elsewhere_16 : decode cX12_elsewhere 16 = .ok (.iload_n 1, 1) := by decide +kernel
theorem dX12_elsewhere_17 : decode cX12_elsewhere 17 = .ok (.iload 4, 2) := by decide +kernel
theorem dX12_elsewhere_19 : decode cX12_elsewhere 19 = .ok (.iload_n 2, 1) := by decide +kernel
theorem dX12_elsewhere_20 : decode cX12_elsewhere 20 = .ok (.invokevirtual 414, 3) := by decide +kernel
theorem dX12_elsewhere_23 : decode cX12_elsewhere 23 = .ok (.ifCond .eq 10, 3) := by decide +kernel
theorem dX12_elsewhere_26 : decode cX12_elsewhere 26 = .ok (.iconst 1, 1) := by decide +kernel
theorem dX12_elsewhere_27 : decode cX12_elsewhere 27 = .ok (.iload 4, 2) := by decide +kernel
theorem dX12_elsewhere_29 : decode cX12_elsewhere 29 = .ok (.ishl, 1) := by decide +kernel
theorem dX12_elsewhere_30 : decode cX12_elsewhere 30 = .ok (.goto 4, 3) := by decide +kernel
theorem dX12_elsewhere_33 : decode cX12_elsewhere 33 = .ok (.iconst 0, 1) := by decide +kernel
theorem dX12_elsewhere_34 : decode cX12_elsewhere 34 = .ok (.ior, 1) := by decide +kernel
theorem dX12_elsewhere_35 : decode cX12_elsewhere 35 = .ok (.istore_n 3, 1) := by decide +kernel
theorem dX12_elsewhere_36 : decode cX12_elsewhere 36 = .ok (.iinc 4 1, 3) := by decide +kernel
theorem dX12_elsewhere_39 : decode cX12_elsewhere 39 = .ok (.goto (-34), 3) := by decide +kernel
theorem dX12_elsewhere_42 : decode cX12_elsewhere 42 = .ok (.iload_n 3, 1) := by decide +kernel
theorem dX12_elsewhere_43 : decode cX12_elsewhere 43 = .ok (.ireturn, 1) := by decide +kernel
theorem dX12_counts_0 : decode cX12_counts 0 = .ok (.aload_n 0, 1) := by decide +kernel
theorem dX12_counts_1 : decode cX12_counts 1 = .ok (.iconst 0, 1) := by decide +kernel
theorem dX12_counts_2 : decode cX12_counts 2 = .ok (.putfield 96, 3) := by decide +kernel
theorem dX12_counts_5 : decode cX12_counts 5 = .ok (.iload_n 3, 1) := by decide +kernel
theorem dX12_counts_6 : decode cX12_counts 6 = .ok (.iconst 0, 1) := by decide +kernel
theorem dX12_counts_7 : decode cX12_counts 7 = .ok (.iconst 3, 1) := by decide +kernel
theorem dX12_counts_8 : decode cX12_counts 8 = .ok (.invokestatic 108, 3) := by decide +kernel
theorem dX12_counts_11 : decode cX12_counts 11 = .ok (.ifCond .eq 25, 3) := by decide +kernel
theorem dX12_counts_14 : decode cX12_counts 14 = .ok (.aload_n 0, 1) := by decide +kernel
theorem dX12_counts_15 : decode cX12_counts 15 = .ok (.iload_n 1, 1) := by decide +kernel
theorem dX12_counts_16 : decode cX12_counts 16 = .ok (.invokevirtual 282, 3) := by decide +kernel
theorem dX12_counts_19 : decode cX12_counts 19 = .ok (.ifCond .eq 17, 3) := by decide +kernel
theorem dX12_counts_22 : decode cX12_counts 22 = .ok (.iload_n 2, 1) := by decide +kernel
theorem dX12_counts_23 : decode cX12_counts 23 = .ok (.iconst (-1), 1) := by decide +kernel
theorem dX12_counts_24 : decode cX12_counts 24 = .ok (.aload_n 0, 1) := by decide +kernel
theorem dX12_counts_25 : decode cX12_counts 25 = .ok (.getfield 250, 3) := by decide +kernel
theorem dX12_counts_28 : decode cX12_counts 28 = .ok (.iconst 1, 1) := by decide +kernel
theorem dX12_counts_29 : decode cX12_counts 29 = .ok (.isub, 1) := by decide +kernel
theorem dX12_counts_30 : decode cX12_counts 30 = .ok (.invokestatic 108, 3) := by decide +kernel
theorem dX12_counts_33 : decode cX12_counts 33 = .ok (.ifCond .ne 5, 3) := by decide +kernel
theorem dX12_counts_36 : decode cX12_counts 36 = .ok (.iconst (-1), 1) := by decide +kernel
theorem dX12_counts_37 : decode cX12_counts 37 = .ok (.ireturn, 1) := by decide +kernel
theorem dX12_counts_38 : decode cX12_counts 38 = .ok (.iload_n 2, 1) := by decide +kernel
theorem dX12_counts_39 : decode cX12_counts 39 = .ok (.iconst (-1), 1) := by decide +kernel
theorem dX12_counts_40 : decode cX12_counts 40 = .ok (.if_icmp .eq 10, 3) := by decide +kernel
theorem dX12_counts_43 : decode cX12_counts 43 = .ok (.aload_n 0, 1) := by decide +kernel
theorem dX12_counts_44 : decode cX12_counts 44 = .ok (.iload_n 2, 1) := by decide +kernel
theorem dX12_counts_45 : decode cX12_counts 45 = .ok (.iload_n 3, 1) := by decide +kernel
theorem dX12_counts_46 : decode cX12_counts 46 = .ok (.invokevirtual 417, 3) := by decide +kernel
theorem dX12_counts_49 : decode cX12_counts 49 = .ok (.ireturn, 1) := by decide +kernel
theorem dX12_counts_50 : decode cX12_counts 50 = .ok (.iconst 0, 1) := by decide +kernel
theorem dX12_counts_51 : decode cX12_counts 51 = .ok (.istore 4, 2) := by decide +kernel
theorem dX12_counts_53 : decode cX12_counts 53 = .ok (.iconst 0, 1) := by decide +kernel
theorem dX12_counts_54 : decode cX12_counts 54 = .ok (.istore 5, 2) := by decide +kernel
theorem dX12_counts_56 : decode cX12_counts 56 = .ok (.iload 5, 2) := by decide +kernel
theorem dX12_counts_58 : decode cX12_counts 58 = .ok (.aload_n 0, 1) := by decide +kernel
theorem dX12_counts_59 : decode cX12_counts 59 = .ok (.getfield 256, 3) := by decide +kernel
theorem dX12_counts_62 : decode cX12_counts 62 = .ok (.if_icmp .ge 51, 3) := by decide +kernel
theorem dX12_counts_65 : decode cX12_counts 65 = .ok (.iload 4, 2) := by decide +kernel
theorem dX12_counts_67 : decode cX12_counts 67 = .ok (.aload_n 0, 1) := by decide +kernel
theorem dX12_counts_68 : decode cX12_counts 68 = .ok (.bipush 61, 2) := by decide +kernel
theorem dX12_counts_70 : decode cX12_counts 70 = .ok (.iload 5, 2) := by decide +kernel
theorem dX12_counts_72 : decode cX12_counts 72 = .ok (.iadd, 1) := by decide +kernel
theorem dX12_counts_73 : decode cX12_counts 73 = .ok (.invokevirtual 246, 3) := by decide +kernel
theorem dX12_counts_76 : decode cX12_counts 76 = .ok (.aload_n 0, 1) := by decide +kernel
theorem dX12_counts_77 : decode cX12_counts 77 = .ok (.aload_n 0, 1) := by decide +kernel
theorem dX12_counts_78 : decode cX12_counts 78 = .ok (.bipush 53, 2) := by decide +kernel
theorem dX12_counts_80 : decode cX12_counts 80 = .ok (.iload 5, 2) := by decide +kernel
theorem dX12_counts_82 : decode cX12_counts 82 = .ok (.iadd, 1) := by decide +kernel
theorem dX12_counts_83 : decode cX12_counts 83 = .ok (.invokevirtual 246, 3) := by decide +kernel
theorem dX12_counts_86 : decode cX12_counts 86 = .ok (.iload_n 3, 1) := by decide +kernel
theorem dX12_counts_87 : decode cX12_counts 87 = .ok (.invokevirtual 417, 3) := by decide +kernel
theorem dX12_counts_90 : decode cX12_counts 90 = .ok (.iconst (-1), 1) := by decide +kernel
theorem dX12_counts_91 : decode cX12_counts 91 = .ok (.ixor, 1) := by decide +kernel
theorem dX12_counts_92 : decode cX12_counts 92 = .ok (.iand, 1) := by decide +kernel
theorem dX12_counts_93 : decode cX12_counts 93 = .ok (.ifCond .ne 10, 3) := by decide +kernel
theorem dX12_counts_96 : decode cX12_counts 96 = .ok (.iconst 1, 1) := by decide +kernel
theorem dX12_counts_97 : decode cX12_counts 97 = .ok (.iload 5, 2) := by decide +kernel
theorem dX12_counts_99 : decode cX12_counts 99 = .ok (.ishl, 1) := by decide +kernel
theorem dX12_counts_100 : decode cX12_counts 100 = .ok (.goto 4, 3) := by decide +kernel
theorem dX12_counts_103 : decode cX12_counts 103 = .ok (.iconst 0, 1) := by decide +kernel
theorem dX12_counts_104 : decode cX12_counts 104 = .ok (.ior, 1) := by decide +kernel
theorem dX12_counts_105 : decode cX12_counts 105 = .ok (.istore 4, 2) := by decide +kernel
theorem dX12_counts_107 : decode cX12_counts 107 = .ok (.iinc 5 1, 3) := by decide +kernel
theorem dX12_counts_110 : decode cX12_counts 110 = .ok (.goto (-54), 3) := by decide +kernel
theorem dX12_counts_113 : decode cX12_counts 113 = .ok (.iload 4, 2) := by decide +kernel
theorem dX12_counts_115 : decode cX12_counts 115 = .ok (.ireturn, 1) := by decide +kernel
theorem dX12_sightOf_0 : decode cX12_sightOf 0 = .ok (.aload_n 0, 1) := by decide +kernel
theorem dX12_sightOf_1 : decode cX12_sightOf 1 = .ok (.getfield 32, 3) := by decide +kernel
theorem dX12_sightOf_4 : decode cX12_sightOf 4 = .ok (.bipush 17, 2) := by decide +kernel
theorem dX12_sightOf_6 : decode cX12_sightOf 6 = .ok (.aload_n 0, 1) := by decide +kernel
theorem dX12_sightOf_7 : decode cX12_sightOf 7 = .ok (.getfield 420, 3) := by decide +kernel
theorem dX12_sightOf_10 : decode cX12_sightOf 10 = .ok (.imul, 1) := by decide +kernel
theorem dX12_sightOf_11 : decode cX12_sightOf 11 = .ok (.iconst 1, 1) := by decide +kernel
theorem dX12_sightOf_12 : decode cX12_sightOf 12 = .ok (.iadd, 1) := by decide +kernel
theorem dX12_sightOf_13 : decode cX12_sightOf 13 = .ok (.iconst 2, 1) := by decide +kernel
theorem dX12_sightOf_14 : decode cX12_sightOf 14 = .ok (.iload_n 1, 1) := by decide +kernel
theorem dX12_sightOf_15 : decode cX12_sightOf 15 = .ok (.imul, 1) := by decide +kernel
theorem dX12_sightOf_16 : decode cX12_sightOf 16 = .ok (.iadd, 1) := by decide +kernel
theorem dX12_sightOf_17 : decode cX12_sightOf 17 = .ok (.iload_n 2, 1) := by decide +kernel
theorem dX12_sightOf_18 : decode cX12_sightOf 18 = .ok (.iadd, 1) := by decide +kernel
theorem dX12_sightOf_19 : decode cX12_sightOf 19 = .ok (.iaload, 1) := by decide +kernel
theorem dX12_sightOf_20 : decode cX12_sightOf 20 = .ok (.ireturn, 1) := by decide +kernel
theorem dX12_sights_0 : decode cX12_sights 0 = .ok (.aload_n 0, 1) := by decide +kernel
theorem dX12_sights_1 : decode cX12_sights 1 = .ok (.getfield 32, 3) := by decide +kernel
theorem dX12_sights_4 : decode cX12_sights 4 = .ok (.bipush 17, 2) := by decide +kernel
theorem dX12_sights_6 : decode cX12_sights 6 = .ok (.aload_n 0, 1) := by decide +kernel
theorem dX12_sights_7 : decode cX12_sights 7 = .ok (.getfield 420, 3) := by decide +kernel
theorem dX12_sights_10 : decode cX12_sights 10 = .ok (.imul, 1) := by decide +kernel
theorem dX12_sights_11 : decode cX12_sights 11 = .ok (.iaload, 1) := by decide +kernel
theorem dX12_sights_12 : decode cX12_sights 12 = .ok (.ireturn, 1) := by decide +kernel
theorem dX12_hasLog_0 : decode cX12_hasLog 0 = .ok (.aload_n 0, 1) := by decide +kernel
theorem dX12_hasLog_1 : decode cX12_hasLog 1 = .ok (.iload_n 1, 1) := by decide +kernel
theorem dX12_hasLog_2 : decode cX12_hasLog 2 = .ok (.putfield 420, 3) := by decide +kernel
theorem dX12_hasLog_5 : decode cX12_hasLog 5 = .ok (.aload_n 0, 1) := by decide +kernel
theorem dX12_hasLog_6 : decode cX12_hasLog 6 = .ok (.iconst 2, 1) := by decide +kernel
theorem dX12_hasLog_7 : decode cX12_hasLog 7 = .ok (.iload_n 1, 1) := by decide +kernel
theorem dX12_hasLog_8 : decode cX12_hasLog 8 = .ok (.invokevirtual 233, 3) := by decide +kernel
theorem dX12_hasLog_11 : decode cX12_hasLog 11 = .ok (.ireturn, 1) := by decide +kernel
theorem dX12_sight_0 : decode cX12_sight 0 = .ok (.aload_n 0, 1) := by decide +kernel
theorem dX12_sight_1 : decode cX12_sight 1 = .ok (.iconst 0, 1) := by decide +kernel
theorem dX12_sight_2 : decode cX12_sight 2 = .ok (.putfield 96, 3) := by decide +kernel
theorem dX12_sight_5 : decode cX12_sight 5 = .ok (.aload_n 0, 1) := by decide +kernel
theorem dX12_sight_6 : decode cX12_sight 6 = .ok (.iload_n 1, 1) := by decide +kernel
theorem dX12_sight_7 : decode cX12_sight 7 = .ok (.invokevirtual 423, 3) := by decide +kernel
theorem dX12_sight_10 : decode cX12_sight 10 = .ok (.ifCond .ne 6, 3) := by decide +kernel
theorem dX12_sight_13 : decode cX12_sight 13 = .ok (.bipush (-2), 2) := by decide +kernel
theorem dX12_sight_15 : decode cX12_sight 15 = .ok (.ireturn, 1) := by decide +kernel
theorem dX12_sight_16 : decode cX12_sight 16 = .ok (.iload_n 2, 1) := by decide +kernel
theorem dX12_sight_17 : decode cX12_sight 17 = .ok (.iconst (-1), 1) := by decide +kernel
theorem dX12_sight_18 : decode cX12_sight 18 = .ok (.if_icmp .ne 17, 3) := by decide +kernel
theorem dX12_sight_21 : decode cX12_sight 21 = .ok (.iload_n 3, 1) := by decide +kernel
theorem dX12_sight_22 : decode cX12_sight 22 = .ok (.ifCond .ne 10, 3) := by decide +kernel
theorem dX12_sight_25 : decode cX12_sight 25 = .ok (.aload_n 0, 1) := by decide +kernel
theorem dX12_sight_26 : decode cX12_sight 26 = .ok (.invokevirtual 426, 3) := by decide +kernel
theorem dX12_sight_29 : decode cX12_sight 29 = .ok (.goto 5, 3) := by decide +kernel
theorem dX12_sight_32 : decode cX12_sight 32 = .ok (.bipush (-2), 2) := by decide +kernel
theorem dX12_sight_34 : decode cX12_sight 34 = .ok (.ireturn, 1) := by decide +kernel
theorem dX12_sight_35 : decode cX12_sight 35 = .ok (.iload_n 2, 1) := by decide +kernel
theorem dX12_sight_36 : decode cX12_sight 36 = .ok (.iconst 0, 1) := by decide +kernel
theorem dX12_sight_37 : decode cX12_sight 37 = .ok (.aload_n 0, 1) := by decide +kernel
theorem dX12_sight_38 : decode cX12_sight 38 = .ok (.invokevirtual 426, 3) := by decide +kernel
theorem dX12_sight_41 : decode cX12_sight 41 = .ok (.iconst 1, 1) := by decide +kernel
theorem dX12_sight_42 : decode cX12_sight 42 = .ok (.isub, 1) := by decide +kernel
theorem dX12_sight_43 : decode cX12_sight 43 = .ok (.invokestatic 108, 3) := by decide +kernel
theorem dX12_sight_46 : decode cX12_sight 46 = .ok (.ifCond .eq 21, 3) := by decide +kernel
theorem dX12_sight_49 : decode cX12_sight 49 = .ok (.iload_n 3, 1) := by decide +kernel
theorem dX12_sight_50 : decode cX12_sight 50 = .ok (.iconst 0, 1) := by decide +kernel
theorem dX12_sight_51 : decode cX12_sight 51 = .ok (.iconst 1, 1) := by decide +kernel
theorem dX12_sight_52 : decode cX12_sight 52 = .ok (.invokestatic 108, 3) := by decide +kernel
theorem dX12_sight_55 : decode cX12_sight 55 = .ok (.ifCond .eq 12, 3) := by decide +kernel
theorem dX12_sight_58 : decode cX12_sight 58 = .ok (.aload_n 0, 1) := by decide +kernel
theorem dX12_sight_59 : decode cX12_sight 59 = .ok (.iload_n 2, 1) := by decide +kernel
theorem dX12_sight_60 : decode cX12_sight 60 = .ok (.iload_n 3, 1) := by decide +kernel
theorem dX12_sight_61 : decode cX12_sight 61 = .ok (.invokevirtual 429, 3) := by decide +kernel
theorem dX12_sight_64 : decode cX12_sight 64 = .ok (.goto 5, 3) := by decide +kernel
theorem dX12_sight_67 : decode cX12_sight 67 = .ok (.bipush (-2), 2) := by decide +kernel
theorem dX12_sight_69 : decode cX12_sight 69 = .ok (.ireturn, 1) := by decide +kernel
theorem dX12_mayStand_0 : decode cX12_mayStand 0 = .ok (.iconst 0, 1) := by decide +kernel
theorem dX12_mayStand_1 : decode cX12_mayStand 1 = .ok (.istore_n 3, 1) := by decide +kernel
theorem dX12_mayStand_2 : decode cX12_mayStand 2 = .ok (.iload_n 3, 1) := by decide +kernel
theorem dX12_mayStand_3 : decode cX12_mayStand 3 = .ok (.aload_n 0, 1) := by decide +kernel
theorem dX12_mayStand_4 : decode cX12_mayStand 4 = .ok (.invokevirtual 426, 3) := by decide +kernel
theorem dX12_mayStand_7 : decode cX12_mayStand 7 = .ok (.if_icmp .ge 31, 3) := by decide +kernel
theorem dX12_mayStand_10 : decode cX12_mayStand 10 = .ok (.aload_n 0, 1) := by decide +kernel
theorem dX12_mayStand_11 : decode cX12_mayStand 11 = .ok (.iload_n 3, 1) := by decide +kernel
theorem dX12_mayStand_12 : decode cX12_mayStand 12 = .ok (.iconst 1, 1) := by decide +kernel
theorem dX12_mayStand_13 : decode cX12_mayStand 13 = .ok (.invokevirtual 429, 3) := by decide +kernel
theorem dX12_mayStand_16 : decode cX12_mayStand 16 = .ok (.iload_n 2, 1) := by decide +kernel
theorem dX12_mayStand_17 : decode cX12_mayStand 17 = .ok (.if_icmp .ne 15, 3) := by decide +kernel
theorem dX12_mayStand_20 : decode cX12_mayStand 20 = .ok (.aload_n 0, 1) := by decide +kernel
theorem dX12_mayStand_21 : decode cX12_mayStand 21 = .ok (.iload_n 3, 1) := by decide +kernel
theorem dX12_mayStand_22 : decode cX12_mayStand 22 = .ok (.iconst 0, 1) := by decide +kernel
theorem dX12_mayStand_23 : decode cX12_mayStand 23 = .ok (.invokevirtual 429, 3) := by decide +kernel
theorem dX12_mayStand_26 : decode cX12_mayStand 26 = .ok (.iload_n 1, 1) := by decide +kernel
theorem dX12_mayStand_27 : decode cX12_mayStand 27 = .ok (.if_icmp .eq 5, 3) := by decide +kernel
theorem dX12_mayStand_30 : decode cX12_mayStand 30 = .ok (.iconst 0, 1) := by decide +kernel
theorem dX12_mayStand_31 : decode cX12_mayStand 31 = .ok (.ireturn, 1) := by decide +kernel
theorem dX12_mayStand_32 : decode cX12_mayStand 32 = .ok (.iinc 3 1, 3) := by decide +kernel
theorem dX12_mayStand_35 : decode cX12_mayStand 35 = .ok (.goto (-33), 3) := by decide +kernel
theorem dX12_mayStand_38 : decode cX12_mayStand 38 = .ok (.iconst 1, 1) := by decide +kernel
theorem dX12_mayStand_39 : decode cX12_mayStand 39 = .ok (.ireturn, 1) := by decide +kernel
theorem dX12_mayRide_0 : decode cX12_mayRide 0 = .ok (.iconst 0, 1) := by decide +kernel
theorem dX12_mayRide_1 : decode cX12_mayRide 1 = .ok (.istore_n 3, 1) := by decide +kernel
theorem dX12_mayRide_2 : decode cX12_mayRide 2 = .ok (.iload_n 3, 1) := by decide +kernel
theorem dX12_mayRide_3 : decode cX12_mayRide 3 = .ok (.aload_n 0, 1) := by decide +kernel
theorem dX12_mayRide_4 : decode cX12_mayRide 4 = .ok (.invokevirtual 426, 3) := by decide +kernel
theorem dX12_mayRide_7 : decode cX12_mayRide 7 = .ok (.if_icmp .ge 29, 3) := by decide +kernel
theorem dX12_mayRide_10 : decode cX12_mayRide 10 = .ok (.aload_n 0, 1) := by decide +kernel
theorem dX12_mayRide_11 : decode cX12_mayRide 11 = .ok (.iload_n 3, 1) := by decide +kernel
theorem dX12_mayRide_12 : decode cX12_mayRide 12 = .ok (.iconst 1, 1) := by decide +kernel
theorem dX12_mayRide_13 : decode cX12_mayRide 13 = .ok (.invokevirtual 429, 3) := by decide +kernel
theorem dX12_mayRide_16 : decode cX12_mayRide 16 = .ok (.iload_n 1, 1) := by decide +kernel
theorem dX12_mayRide_17 : decode cX12_mayRide 17 = .ok (.iconst 1, 1) := by decide +kernel
theorem dX12_mayRide_18 : decode cX12_mayRide 18 = .ok (.iadd, 1) := by decide +kernel
theorem dX12_mayRide_19 : decode cX12_mayRide 19 = .ok (.iload_n 2, 1) := by decide +kernel
theorem dX12_mayRide_20 : decode cX12_mayRide 20 = .ok (.iconst 1, 1) := by decide +kernel
theorem dX12_mayRide_21 : decode cX12_mayRide 21 = .ok (.isub, 1) := by decide +kernel
theorem dX12_mayRide_22 : decode cX12_mayRide 22 = .ok (.invokestatic 108, 3) := by decide +kernel
theorem dX12_mayRide_25 : decode cX12_mayRide 25 = .ok (.ifCond .eq 5, 3) := by decide +kernel
theorem dX12_mayRide_28 : decode cX12_mayRide 28 = .ok (.iconst 0, 1) := by decide +kernel
theorem dX12_mayRide_29 : decode cX12_mayRide 29 = .ok (.ireturn, 1) := by decide +kernel
theorem dX12_mayRide_30 : decode cX12_mayRide 30 = .ok (.iinc 3 1, 3) := by decide +kernel
theorem dX12_mayRide_33 : decode cX12_mayRide 33 = .ok (.goto (-31), 3) := by decide +kernel
theorem dX12_mayRide_36 : decode cX12_mayRide 36 = .ok (.iconst 1, 1) := by decide +kernel
theorem dX12_mayRide_37 : decode cX12_mayRide 37 = .ok (.ireturn, 1) := by decide +kernel
theorem dX12_findForth_0 : decode cX12_findForth 0 = .ok (.iconst 0, 1) := by decide +kernel
theorem dX12_findForth_1 : decode cX12_findForth 1 = .ok (.istore_n 1, 1) := by decide +kernel
theorem dX12_findForth_2 : decode cX12_findForth 2 = .ok (.iload_n 1, 1) := by decide +kernel
theorem dX12_findForth_3 : decode cX12_findForth 3 = .ok (.sipush 750, 3) := by decide +kernel
theorem dX12_findForth_6 : decode cX12_findForth 6 = .ok (.if_icmp .ge 37, 3) := by decide +kernel
theorem dX12_findForth_9 : decode cX12_findForth 9 = .ok (.aload_n 0, 1) := by decide +kernel
theorem dX12_findForth_10 : decode cX12_findForth 10 = .ok (.getfield 77, 3) := by decide +kernel
theorem dX12_findForth_13 : decode cX12_findForth 13 = .ok (.iload_n 1, 1) := by decide +kernel
theorem dX12_findForth_14 : decode cX12_findForth 14 = .ok (.iload_n 1, 1) := by decide +kernel
theorem dX12_findForth_15 : decode cX12_findForth 15 = .ok (.aload_n 0, 1) := by decide +kernel
theorem dX12_findForth_16 : decode cX12_findForth 16 = .ok (.getfield 250, 3) := by decide +kernel
theorem dX12_findForth_19 : decode cX12_findForth 19 = .ok (.if_icmp .ge 16, 3) := by decide +kernel
theorem dX12_findForth_22 : decode cX12_findForth 22 = .ok (.aload_n 0, 1) := by decide +kernel
theorem dX12_findForth_23 : decode cX12_findForth 23 = .ok (.iload_n 1, 1) := by decide +kernel
theorem dX12_findForth_24 : decode cX12_findForth 24 = .ok (.iconst 0, 1) := by decide +kernel
theorem dX12_findForth_25 : decode cX12_findForth 25 = .ok (.invokevirtual 432, 3) := by decide +kernel
theorem dX12_findForth_28 : decode cX12_findForth 28 = .ok (.ifCond .eq 7, 3) := by decide +kernel
theorem dX12_findForth_31 : decode cX12_findForth 31 = .ok (.iconst 1, 1) := by decide +kernel
theorem dX12_findForth_32 : decode cX12_findForth 32 = .ok (.goto 4, 3) := by decide +kernel
theorem dX12_findForth_35 : decode cX12_findForth 35 = .ok (.iconst 0, 1) := by decide +kernel
theorem dX12_findForth_36 : decode cX12_findForth 36 = .ok (.bastore, 1) := by decide +kernel
theorem dX12_findForth_37 : decode cX12_findForth 37 = .ok (.iinc 1 1, 3) := by decide +kernel
theorem dX12_findForth_40 : decode cX12_findForth 40 = .ok (.goto (-38), 3) := by decide +kernel
theorem dX12_findForth_43 : decode cX12_findForth 43 = .ok (.iconst 0, 1) := by decide +kernel
theorem dX12_findForth_44 : decode cX12_findForth 44 = .ok (.istore_n 1, 1) := by decide +kernel
theorem dX12_findForth_45 : decode cX12_findForth 45 = .ok (.iload_n 1, 1) := by decide +kernel
theorem dX12_findForth_46 : decode cX12_findForth 46 = .ok (.bipush 99, 2) := by decide +kernel
theorem dX12_findForth_48 : decode cX12_findForth 48 = .ok (.if_icmp .gt 215, 3) := by decide +kernel
theorem dX12_findForth_51 : decode cX12_findForth 51 = .ok (.iconst 0, 1) := by decide +kernel
theorem dX12_findForth_52 : decode cX12_findForth 52 = .ok (.istore_n 2, 1) := by decide +kernel
theorem dX12_findForth_53 : decode cX12_findForth 53 = .ok (.iload_n 2, 1) := by decide +kernel
theorem dX12_findForth_54 : decode cX12_findForth 54 = .ok (.aload_n 0, 1) := by decide +kernel
theorem dX12_findForth_55 : decode cX12_findForth 55 = .ok (.getfield 250, 3) := by decide +kernel
theorem dX12_findForth_58 : decode cX12_findForth 58 = .ok (.if_icmp .ge 63, 3) := by decide +kernel
theorem dX12_findForth_61 : decode cX12_findForth 61 = .ok (.aload_n 0, 1) := by decide +kernel
theorem dX12_findForth_62 : decode cX12_findForth 62 = .ok (.getfield 77, 3) := by decide +kernel
theorem dX12_findForth_65 : decode cX12_findForth 65 = .ok (.bipush 6, 2) := by decide +kernel
theorem dX12_findForth_67 : decode cX12_findForth 67 = .ok (.iload_n 1, 1) := by decide +kernel
theorem dX12_findForth_68 : decode cX12_findForth 68 = .ok (.imul, 1) := by decide +kernel
theorem dX12_findForth_69 : decode cX12_findForth 69 = .ok (.iload_n 2, 1) := by decide +kernel
theorem dX12_findForth_70 : decode cX12_findForth 70 = .ok (.iadd, 1) := by decide +kernel
theorem dX12_findForth_71 : decode cX12_findForth 71 = .ok (.baload, 1) := by decide +kernel
theorem dX12_findForth_72 : decode cX12_findForth 72 = .ok (.ifCond .eq 43, 3) := by decide +kernel
theorem dX12_findForth_75 : decode cX12_findForth 75 = .ok (.bipush 6, 2) := by decide +kernel
theorem dX12_findForth_77 : decode cX12_findForth 77 = .ok (.iload_n 1, 1) := by decide +kernel
theorem dX12_findForth_78 : decode cX12_findForth 78 = .ok (.iconst 1, 1) := by decide +kernel
theorem dX12_findForth_79 : decode cX12_findForth 79 = .ok (.iadd, 1) := by decide +kernel
theorem dX12_findForth_80 : decode cX12_findForth 80 = .ok (.imul, 1) := by decide +kernel
theorem dX12_findForth_81 : decode cX12_findForth 81 = .ok (.iload_n 2, 1) := by decide +kernel
theorem dX12_findForth_82 : decode cX12_findForth 82 = .ok (.iadd, 1) := by decide +kernel
theorem dX12_findForth_83 : decode cX12_findForth 83 = .ok (.istore_n 3, 1) := by decide +kernel
theorem dX12_findForth_84 : decode cX12_findForth 84 = .ok (.aload_n 0, 1) := by decide +kernel
theorem dX12_findForth_85 : decode cX12_findForth 85 = .ok (.getfield 77, 3) := by decide +kernel
theorem dX12_findForth_88 : decode cX12_findForth 88 = .ok (.iload_n 3, 1) := by decide +kernel
theorem dX12_findForth_89 : decode cX12_findForth 89 = .ok (.aload_n 0, 1) := by decide +kernel
theorem dX12_findForth_90 : decode cX12_findForth 90 = .ok (.getfield 77, 3) := by decide +kernel
theorem dX12_findForth_93 : decode cX12_findForth 93 = .ok (.iload_n 3, 1) := by decide +kernel
theorem dX12_findForth_94 : decode cX12_findForth 94 = .ok (.baload, 1) := by decide +kernel
theorem dX12_findForth_95 : decode cX12_findForth 95 = .ok (.ifCond .ne 14, 3) := by decide +kernel
theorem dX12_findForth_98 : decode cX12_findForth 98 = .ok (.aload_n 0, 1) := by decide +kernel
theorem dX12_findForth_99 : decode cX12_findForth 99 = .ok (.iload_n 2, 1) := by decide +kernel
theorem dX12_findForth_100 : decode cX12_findForth 100 = .ok (.iload_n 1, 1) := by decide +kernel
theorem dX12_findForth_101 : decode cX12_findForth 101 = .ok (.iconst 1, 1) := by decide +kernel
theorem dX12_findForth_102 : decode cX12_findForth 102 = .ok (.iadd, 1) := by decide +kernel
theorem dX12_findForth_103 : decode cX12_findForth 103 = .ok (.invokevirtual 432, 3) := by decide +kernel
theorem dX12_findForth_106 : decode cX12_findForth 106 = .ok (.ifCond .eq 7, 3) := by decide +kernel
theorem dX12_findForth_109 : decode cX12_findForth 109 = .ok (.iconst 1, 1) := by decide +kernel
theorem dX12_findForth_110 : decode cX12_findForth 110 = .ok (.goto 4, 3) := by decide +kernel
theorem dX12_findForth_113 : decode cX12_findForth 113 = .ok (.iconst 0, 1) := by decide +kernel
theorem dX12_findForth_114 : decode cX12_findForth 114 = .ok (.bastore, 1) := by decide +kernel
theorem dX12_findForth_115 : decode cX12_findForth 115 = .ok (.iinc 2 1, 3) := by decide +kernel
theorem dX12_findForth_118 : decode cX12_findForth 118 = .ok (.goto (-65), 3) := by decide +kernel
theorem dX12_findForth_121 : decode cX12_findForth 121 = .ok (.iconst 0, 1) := by decide +kernel
theorem dX12_findForth_122 : decode cX12_findForth 122 = .ok (.istore_n 2, 1) := by decide +kernel
theorem dX12_findForth_123 : decode cX12_findForth 123 = .ok (.iload_n 2, 1) := by decide +kernel
theorem dX12_findForth_124 : decode cX12_findForth 124 = .ok (.aload_n 0, 1) := by decide +kernel
theorem dX12_findForth_125 : decode cX12_findForth 125 = .ok (.getfield 253, 3) := by decide +kernel
theorem dX12_findForth_128 : decode cX12_findForth 128 = .ok (.if_icmp .ge 129, 3) := by decide +kernel
theorem dX12_findForth_131 : decode cX12_findForth 131 = .ok (.iload_n 1, 1) := by decide +kernel
theorem dX12_findForth_132 : decode cX12_findForth 132 = .ok (.aload_n 0, 1) := by decide +kernel
theorem dX12_findForth_133 : decode cX12_findForth 133 = .ok (.bipush 41, 2) := by decide +kernel
theorem dX12_findForth_135 : decode cX12_findForth 135 = .ok (.iload_n 2, 1) := by decide +kernel
theorem dX12_findForth_136 : decode cX12_findForth 136 = .ok (.iadd, 1) := by decide +kernel
theorem dX12_findForth_137 : decode cX12_findForth 137 = .ok (.invokevirtual 246, 3) := by decide +kernel
theorem dX12_findForth_140 : decode cX12_findForth 140 = .ok (.iadd, 1) := by decide +kernel
theorem dX12_findForth_141 : decode cX12_findForth 141 = .ok (.istore_n 3, 1) := by decide +kernel
theorem dX12_findForth_142 : decode cX12_findForth 142 = .ok (.bipush 6, 2) := by decide +kernel
theorem dX12_findForth_144 : decode cX12_findForth 144 = .ok (.iload_n 3, 1) := by decide +kernel
theorem dX12_findForth_145 : decode cX12_findForth 145 = .ok (.imul, 1) := by decide +kernel
theorem dX12_findForth_146 : decode cX12_findForth 146 = .ok (.aload_n 0, 1) := by decide +kernel
theorem dX12_findForth_147 : decode cX12_findForth 147 = .ok (.bipush 17, 2) := by decide +kernel
theorem dX12_findForth_149 : decode cX12_findForth 149 = .ok (.iload_n 2, 1) := by decide +kernel
theorem dX12_findForth_150 : decode cX12_findForth 150 = .ok (.iadd, 1) := by decide +kernel
theorem dX12_findForth_151 : decode cX12_findForth 151 = .ok (.invokevirtual 246, 3) := by decide +kernel
theorem dX12_findForth_154 : decode cX12_findForth 154 = .ok (.iadd, 1) := by decide +kernel
theorem dX12_findForth_155 : decode cX12_findForth 155 = .ok (.istore 4, 2) := by decide +kernel
theorem dX12_findForth_157 : decode cX12_findForth 157 = .ok (.iload_n 1, 1) := by decide +kernel
theorem dX12_findForth_158 : decode cX12_findForth 158 = .ok (.bipush 12, 2) := by decide +kernel
theorem dX12_findForth_160 : decode cX12_findForth 160 = .ok (.irem, 1) := by decide +kernel
theorem dX12_findForth_161 : decode cX12_findForth 161 = .ok (.aload_n 0, 1) := by decide +kernel
theorem dX12_findForth_162 : decode cX12_findForth 162 = .ok (.bipush 29, 2) := by decide +kernel
theorem dX12_findForth_164 : decode cX12_findForth 164 = .ok (.iload_n 2, 1) := by decide +kernel
theorem dX12_findForth_165 : decode cX12_findForth 165 = .ok (.iadd, 1) := by decide +kernel
theorem dX12_findForth_166 : decode cX12_findForth 166 = .ok (.invokevirtual 246, 3) := by decide +kernel
theorem dX12_findForth_169 : decode cX12_findForth 169 = .ok (.if_icmp .ne 52, 3) := by decide +kernel
theorem dX12_findForth_172 : decode cX12_findForth 172 = .ok (.aload_n 0, 1) := by decide +kernel
theorem dX12_findForth_173 : decode cX12_findForth 173 = .ok (.getfield 77, 3) := by decide +kernel
theorem dX12_findForth_176 : decode cX12_findForth 176 = .ok (.bipush 6, 2) := by decide +kernel
theorem dX12_findForth_178 : decode cX12_findForth 178 = .ok (.iload_n 1, 1) := by decide +kernel
theorem dX12_findForth_179 : decode cX12_findForth 179 = .ok (.imul, 1) := by decide +kernel
theorem dX12_findForth_180 : decode cX12_findForth 180 = .ok (.aload_n 0, 1) := by decide +kernel
theorem dX12_findForth_181 : decode cX12_findForth 181 = .ok (.iconst 5, 1) := by decide +kernel
theorem dX12_findForth_182 : decode cX12_findForth 182 = .ok (.iload_n 2, 1) := by decide +kernel
theorem dX12_findForth_183 : decode cX12_findForth 183 = .ok (.iadd, 1) := by decide +kernel
theorem dX12_findForth_184 : decode cX12_findForth 184 = .ok (.invokevirtual 246, 3) := by decide +kernel
theorem dX12_findForth_187 : decode cX12_findForth 187 = .ok (.iadd, 1) := by decide +kernel
theorem dX12_findForth_188 : decode cX12_findForth 188 = .ok (.baload, 1) := by decide +kernel
theorem dX12_findForth_189 : decode cX12_findForth 189 = .ok (.ifCond .eq 32, 3) := by decide +kernel
theorem dX12_findForth_192 : decode cX12_findForth 192 = .ok (.aload_n 0, 1) := by decide +kernel
theorem dX12_findForth_193 : decode cX12_findForth 193 = .ok (.iload_n 1, 1) := by decide +kernel
theorem dX12_findForth_194 : decode cX12_findForth 194 = .ok (.iload_n 3, 1) := by decide +kernel
theorem dX12_findForth_195 : decode cX12_findForth 195 = .ok (.invokevirtual 435, 3) := by decide +kernel
theorem dX12_findForth_198 : decode cX12_findForth 198 = .ok (.ifCond .eq 23, 3) := by decide +kernel
theorem dX12_findForth_201 : decode cX12_findForth 201 = .ok (.aload_n 0, 1) := by decide +kernel
theorem dX12_findForth_202 : decode cX12_findForth 202 = .ok (.aload_n 0, 1) := by decide +kernel
theorem dX12_findForth_203 : decode cX12_findForth 203 = .ok (.bipush 17, 2) := by decide +kernel
theorem dX12_findForth_205 : decode cX12_findForth 205 = .ok (.iload_n 2, 1) := by decide +kernel
theorem dX12_findForth_206 : decode cX12_findForth 206 = .ok (.iadd, 1) := by decide +kernel
theorem dX12_findForth_207 : decode cX12_findForth 207 = .ok (.invokevirtual 246, 3) := by decide +kernel
theorem dX12_findForth_210 : decode cX12_findForth 210 = .ok (.iload_n 3, 1) := by decide +kernel
theorem dX12_findForth_211 : decode cX12_findForth 211 = .ok (.invokevirtual 432, 3) := by decide +kernel
theorem dX12_findForth_214 : decode cX12_findForth 214 = .ok (.ifCond .eq 7, 3) := by decide +kernel
theorem dX12_findForth_217 : decode cX12_findForth 217 = .ok (.iconst 1, 1) := by decide +kernel
theorem dX12_findForth_218 : decode cX12_findForth 218 = .ok (.goto 4, 3) := by decide +kernel
theorem dX12_findForth_221 : decode cX12_findForth 221 = .ok (.iconst 0, 1) := by decide +kernel
theorem dX12_findForth_222 : decode cX12_findForth 222 = .ok (.istore 5, 2) := by decide +kernel
theorem dX12_findForth_224 : decode cX12_findForth 224 = .ok (.aload_n 0, 1) := by decide +kernel
theorem dX12_findForth_225 : decode cX12_findForth 225 = .ok (.getfield 77, 3) := by decide +kernel
theorem dX12_findForth_228 : decode cX12_findForth 228 = .ok (.iload 4, 2) := by decide +kernel
theorem dX12_findForth_230 : decode cX12_findForth 230 = .ok (.aload_n 0, 1) := by decide +kernel
theorem dX12_findForth_231 : decode cX12_findForth 231 = .ok (.getfield 77, 3) := by decide +kernel
theorem dX12_findForth_234 : decode cX12_findForth 234 = .ok (.iload 4, 2) := by decide +kernel
theorem dX12_findForth_236 : decode cX12_findForth 236 = .ok (.baload, 1) := by decide +kernel
theorem dX12_findForth_237 : decode cX12_findForth 237 = .ok (.ifCond .ne 8, 3) := by decide +kernel
theorem dX12_findForth_240 : decode cX12_findForth 240 = .ok (.iload 5, 2) := by decide +kernel
theorem dX12_findForth_242 : decode cX12_findForth 242 = .ok (.ifCond .eq 7, 3) := by decide +kernel
theorem dX12_findForth_245 : decode cX12_findForth 245 = .ok (.iconst 1, 1) := by decide +kernel
theorem dX12_findForth_246 : decode cX12_findForth 246 = .ok (.goto 4, 3) := by decide +kernel
theorem dX12_findForth_249 : decode cX12_findForth 249 = .ok (.iconst 0, 1) := by decide +kernel
theorem dX12_findForth_250 : decode cX12_findForth 250 = .ok (.bastore, 1) := by decide +kernel
theorem dX12_findForth_251 : decode cX12_findForth 251 = .ok (.iinc 2 1, 3) := by decide +kernel
theorem dX12_findForth_254 : decode cX12_findForth 254 = .ok (.goto (-131), 3) := by decide +kernel
theorem dX12_findForth_257 : decode cX12_findForth 257 = .ok (.iinc 1 1, 3) := by decide +kernel
theorem dX12_findForth_260 : decode cX12_findForth 260 = .ok (.goto (-215), 3) := by decide +kernel
theorem dX12_findForth_263 : decode cX12_findForth 263 = .ok (.return_, 1) := by decide +kernel
theorem dX12_findBack_0 : decode cX12_findBack 0 = .ok (.iconst 0, 1) := by decide +kernel
theorem dX12_findBack_1 : decode cX12_findBack 1 = .ok (.istore_n 1, 1) := by decide +kernel
theorem dX12_findBack_2 : decode cX12_findBack 2 = .ok (.iload_n 1, 1) := by decide +kernel
theorem dX12_findBack_3 : decode cX12_findBack 3 = .ok (.sipush 750, 3) := by decide +kernel
theorem dX12_findBack_6 : decode cX12_findBack 6 = .ok (.if_icmp .ge 27, 3) := by decide +kernel
theorem dX12_findBack_9 : decode cX12_findBack 9 = .ok (.aload_n 0, 1) := by decide +kernel
theorem dX12_findBack_10 : decode cX12_findBack 10 = .ok (.getfield 81, 3) := by decide +kernel
theorem dX12_findBack_13 : decode cX12_findBack 13 = .ok (.iload_n 1, 1) := by decide +kernel
theorem dX12_findBack_14 : decode cX12_findBack 14 = .ok (.iload_n 1, 1) := by decide +kernel
theorem dX12_findBack_15 : decode cX12_findBack 15 = .ok (.sipush 600, 3) := by decide +kernel
theorem dX12_findBack_18 : decode cX12_findBack 18 = .ok (.if_icmp .lt 7, 3) := by decide +kernel
theorem dX12_findBack_21 : decode cX12_findBack 21 = .ok (.iconst 1, 1) := by decide +kernel
theorem dX12_findBack_22 : decode cX12_findBack 22 = .ok (.goto 4, 3) := by decide +kernel
theorem dX12_findBack_25 : decode cX12_findBack 25 = .ok (.iconst 0, 1) := by decide +kernel
theorem dX12_findBack_26 : decode cX12_findBack 26 = .ok (.bastore, 1) := by decide +kernel
theorem dX12_findBack_27 : decode cX12_findBack 27 = .ok (.iinc 1 1, 3) := by decide +kernel
theorem dX12_findBack_30 : decode cX12_findBack 30 = .ok (.goto (-28), 3) := by decide +kernel
theorem dX12_findBack_33 : decode cX12_findBack 33 = .ok (.bipush 99, 2) := by decide +kernel
theorem dX12_findBack_35 : decode cX12_findBack 35 = .ok (.istore_n 1, 1) := by decide +kernel
theorem dX12_findBack_36 : decode cX12_findBack 36 = .ok (.iload_n 1, 1) := by decide +kernel
theorem dX12_findBack_37 : decode cX12_findBack 37 = .ok (.ifCond .lt 170, 3) := by decide +kernel
theorem dX12_findBack_40 : decode cX12_findBack 40 = .ok (.iconst 0, 1) := by decide +kernel
theorem dX12_findBack_41 : decode cX12_findBack 41 = .ok (.istore_n 2, 1) := by decide +kernel
theorem dX12_findBack_42 : decode cX12_findBack 42 = .ok (.iload_n 2, 1) := by decide +kernel
theorem dX12_findBack_43 : decode cX12_findBack 43 = .ok (.aload_n 0, 1) := by decide +kernel
theorem dX12_findBack_44 : decode cX12_findBack 44 = .ok (.getfield 250, 3) := by decide +kernel
theorem dX12_findBack_47 : decode cX12_findBack 47 = .ok (.if_icmp .ge 154, 3) := by decide +kernel
theorem dX12_findBack_50 : decode cX12_findBack 50 = .ok (.aload_n 0, 1) := by decide +kernel
theorem dX12_findBack_51 : decode cX12_findBack 51 = .ok (.getfield 81, 3) := by decide +kernel
theorem dX12_findBack_54 : decode cX12_findBack 54 = .ok (.bipush 6, 2) := by decide +kernel
theorem dX12_findBack_56 : decode cX12_findBack 56 = .ok (.iload_n 1, 1) := by decide +kernel
theorem dX12_findBack_57 : decode cX12_findBack 57 = .ok (.iconst 1, 1) := by decide +kernel
theorem dX12_findBack_58 : decode cX12_findBack 58 = .ok (.iadd, 1) := by decide +kernel
theorem dX12_findBack_59 : decode cX12_findBack 59 = .ok (.imul, 1) := by decide +kernel
theorem dX12_findBack_60 : decode cX12_findBack 60 = .ok (.iload_n 2, 1) := by decide +kernel
theorem dX12_findBack_61 : decode cX12_findBack 61 = .ok (.iadd, 1) := by decide +kernel
theorem dX12_findBack_62 : decode cX12_findBack 62 = .ok (.baload, 1) := by decide +kernel
theorem dX12_findBack_63 : decode cX12_findBack 63 = .ok (.istore_n 3, 1) := by decide +kernel
theorem dX12_findBack_64 : decode cX12_findBack 64 = .ok (.iconst 0, 1) := by decide +kernel
theorem dX12_findBack_65 : decode cX12_findBack 65 = .ok (.istore 4, 2) := by decide +kernel
theorem dX12_findBack_67 : decode cX12_findBack 67 = .ok (.iload 4, 2) := by decide +kernel
theorem dX12_findBack_69 : decode cX12_findBack 69 = .ok (.aload_n 0, 1) := by decide +kernel
theorem dX12_findBack_70 : decode cX12_findBack 70 = .ok (.getfield 253, 3) := by decide +kernel
theorem dX12_findBack_73 : decode cX12_findBack 73 = .ok (.if_icmp .ge 93, 3) := by decide +kernel
theorem dX12_findBack_76 : decode cX12_findBack 76 = .ok (.iload_n 1, 1) := by decide +kernel
theorem dX12_findBack_77 : decode cX12_findBack 77 = .ok (.aload_n 0, 1) := by decide +kernel
theorem dX12_findBack_78 : decode cX12_findBack 78 = .ok (.bipush 41, 2) := by decide +kernel
theorem dX12_findBack_80 : decode cX12_findBack 80 = .ok (.iload 4, 2) := by decide +kernel
theorem dX12_findBack_82 : decode cX12_findBack 82 = .ok (.iadd, 1) := by decide +kernel
theorem dX12_findBack_83 : decode cX12_findBack 83 = .ok (.invokevirtual 246, 3) := by decide +kernel
theorem dX12_findBack_86 : decode cX12_findBack 86 = .ok (.iadd, 1) := by decide +kernel
theorem dX12_findBack_87 : decode cX12_findBack 87 = .ok (.istore 5, 2) := by decide +kernel
theorem dX12_findBack_89 : decode cX12_findBack 89 = .ok (.iload_n 3, 1) := by decide +kernel
theorem dX12_findBack_90 : decode cX12_findBack 90 = .ok (.ifCond .ne 64, 3) := by decide +kernel
theorem dX12_findBack_93 : decode cX12_findBack 93 = .ok (.iload_n 1, 1) := by decide +kernel
theorem dX12_findBack_94 : decode cX12_findBack 94 = .ok (.bipush 12, 2) := by decide +kernel
theorem dX12_findBack_96 : decode cX12_findBack 96 = .ok (.irem, 1) := by decide +kernel
theorem dX12_findBack_97 : decode cX12_findBack 97 = .ok (.aload_n 0, 1) := by decide +kernel
theorem dX12_findBack_98 : decode cX12_findBack 98 = .ok (.bipush 29, 2) := by decide +kernel
theorem dX12_findBack_100 : decode cX12_findBack 100 = .ok (.iload 4, 2) := by decide +kernel
theorem dX12_findBack_102 : decode cX12_findBack 102 = .ok (.iadd, 1) := by decide +kernel
theorem dX12_findBack_103 : decode cX12_findBack 103 = .ok (.invokevirtual 246, 3) := by decide +kernel
theorem dX12_findBack_106 : decode cX12_findBack 106 = .ok (.if_icmp .ne 52, 3) := by decide +kernel
theorem dX12_findBack_109 : decode cX12_findBack 109 = .ok (.aload_n 0, 1) := by decide +kernel
theorem dX12_findBack_110 : decode cX12_findBack 110 = .ok (.iconst 5, 1) := by decide +kernel
theorem dX12_findBack_111 : decode cX12_findBack 111 = .ok (.iload 4, 2) := by decide +kernel
theorem dX12_findBack_113 : decode cX12_findBack 113 = .ok (.iadd, 1) := by decide +kernel
theorem dX12_findBack_114 : decode cX12_findBack 114 = .ok (.invokevirtual 246, 3) := by decide +kernel
theorem dX12_findBack_117 : decode cX12_findBack 117 = .ok (.iload_n 2, 1) := by decide +kernel
theorem dX12_findBack_118 : decode cX12_findBack 118 = .ok (.if_icmp .ne 40, 3) := by decide +kernel
theorem dX12_findBack_121 : decode cX12_findBack 121 = .ok (.aload_n 0, 1) := by decide +kernel
theorem dX12_findBack_122 : decode cX12_findBack 122 = .ok (.iload_n 1, 1) := by decide +kernel
theorem dX12_findBack_123 : decode cX12_findBack 123 = .ok (.iload 5, 2) := by decide +kernel
theorem dX12_findBack_125 : decode cX12_findBack 125 = .ok (.invokevirtual 435, 3) := by decide +kernel
theorem dX12_findBack_128 : decode cX12_findBack 128 = .ok (.ifCond .eq 30, 3) := by decide +kernel
theorem dX12_findBack_131 : decode cX12_findBack 131 = .ok (.aload_n 0, 1) := by decide +kernel
theorem dX12_findBack_132 : decode cX12_findBack 132 = .ok (.getfield 81, 3) := by decide +kernel
theorem dX12_findBack_135 : decode cX12_findBack 135 = .ok (.bipush 6, 2) := by decide +kernel
theorem dX12_findBack_137 : decode cX12_findBack 137 = .ok (.iload 5, 2) := by decide +kernel
theorem dX12_findBack_139 : decode cX12_findBack 139 = .ok (.imul, 1) := by decide +kernel
theorem dX12_findBack_140 : decode cX12_findBack 140 = .ok (.aload_n 0, 1) := by decide +kernel
theorem dX12_findBack_141 : decode cX12_findBack 141 = .ok (.bipush 17, 2) := by decide +kernel
theorem dX12_findBack_143 : decode cX12_findBack 143 = .ok (.iload 4, 2) := by decide +kernel
theorem dX12_findBack_145 : decode cX12_findBack 145 = .ok (.iadd, 1) := by decide +kernel
theorem dX12_findBack_146 : decode cX12_findBack 146 = .ok (.invokevirtual 246, 3) := by decide +kernel
theorem dX12_findBack_149 : decode cX12_findBack 149 = .ok (.iadd, 1) := by decide +kernel
theorem dX12_findBack_150 : decode cX12_findBack 150 = .ok (.baload, 1) := by decide +kernel
theorem dX12_findBack_151 : decode cX12_findBack 151 = .ok (.ifCond .eq 7, 3) := by decide +kernel
theorem dX12_findBack_154 : decode cX12_findBack 154 = .ok (.iconst 1, 1) := by decide +kernel
theorem dX12_findBack_155 : decode cX12_findBack 155 = .ok (.goto 4, 3) := by decide +kernel
theorem dX12_findBack_158 : decode cX12_findBack 158 = .ok (.iconst 0, 1) := by decide +kernel
theorem dX12_findBack_159 : decode cX12_findBack 159 = .ok (.istore_n 3, 1) := by decide +kernel
theorem dX12_findBack_160 : decode cX12_findBack 160 = .ok (.iinc 4 1, 3) := by decide +kernel
theorem dX12_findBack_163 : decode cX12_findBack 163 = .ok (.goto (-96), 3) := by decide +kernel
theorem dX12_findBack_166 : decode cX12_findBack 166 = .ok (.aload_n 0, 1) := by decide +kernel
theorem dX12_findBack_167 : decode cX12_findBack 167 = .ok (.getfield 81, 3) := by decide +kernel
theorem dX12_findBack_170 : decode cX12_findBack 170 = .ok (.bipush 6, 2) := by decide +kernel
theorem dX12_findBack_172 : decode cX12_findBack 172 = .ok (.iload_n 1, 1) := by decide +kernel
theorem dX12_findBack_173 : decode cX12_findBack 173 = .ok (.imul, 1) := by decide +kernel
theorem dX12_findBack_174 : decode cX12_findBack 174 = .ok (.iload_n 2, 1) := by decide +kernel
theorem dX12_findBack_175 : decode cX12_findBack 175 = .ok (.iadd, 1) := by decide +kernel
theorem dX12_findBack_176 : decode cX12_findBack 176 = .ok (.iload_n 3, 1) := by decide +kernel
theorem dX12_findBack_177 : decode cX12_findBack 177 = .ok (.ifCond .eq 16, 3) := by decide +kernel
theorem dX12_findBack_180 : decode cX12_findBack 180 = .ok (.aload_n 0, 1) := by decide +kernel
theorem dX12_findBack_181 : decode cX12_findBack 181 = .ok (.iload_n 2, 1) := by decide +kernel
theorem dX12_findBack_182 : decode cX12_findBack 182 = .ok (.iload_n 1, 1) := by decide +kernel
theorem dX12_findBack_183 : decode cX12_findBack 183 = .ok (.invokevirtual 432, 3) := by decide +kernel
theorem dX12_findBack_186 : decode cX12_findBack 186 = .ok (.ifCond .eq 7, 3) := by decide +kernel
theorem dX12_findBack_189 : decode cX12_findBack 189 = .ok (.iconst 1, 1) := by decide +kernel
theorem dX12_findBack_190 : decode cX12_findBack 190 = .ok (.goto 4, 3) := by decide +kernel
theorem dX12_findBack_193 : decode cX12_findBack 193 = .ok (.iconst 0, 1) := by decide +kernel
theorem dX12_findBack_194 : decode cX12_findBack 194 = .ok (.bastore, 1) := by decide +kernel
theorem dX12_findBack_195 : decode cX12_findBack 195 = .ok (.iinc 2 1, 3) := by decide +kernel
theorem dX12_findBack_198 : decode cX12_findBack 198 = .ok (.goto (-156), 3) := by decide +kernel
theorem dX12_findBack_201 : decode cX12_findBack 201 = .ok (.iinc 1 (-1), 3) := by decide +kernel
theorem dX12_findBack_204 : decode cX12_findBack 204 = .ok (.goto (-168), 3) := by decide +kernel
theorem dX12_findBack_207 : decode cX12_findBack 207 = .ok (.return_, 1) := by decide +kernel
theorem dX12_couldAt_0 : decode cX12_couldAt 0 = .ok (.iconst 0, 1) := by decide +kernel
theorem dX12_couldAt_1 : decode cX12_couldAt 1 = .ok (.istore_n 2, 1) := by decide +kernel
theorem dX12_couldAt_2 : decode cX12_couldAt 2 = .ok (.iconst 0, 1) := by decide +kernel
theorem dX12_couldAt_3 : decode cX12_couldAt 3 = .ok (.istore_n 3, 1) := by decide +kernel
theorem dX12_couldAt_4 : decode cX12_couldAt 4 = .ok (.iload_n 3, 1) := by decide +kernel
theorem dX12_couldAt_5 : decode cX12_couldAt 5 = .ok (.aload_n 0, 1) := by decide +kernel
theorem dX12_couldAt_6 : decode cX12_couldAt 6 = .ok (.getfield 250, 3) := by decide +kernel
theorem dX12_couldAt_9 : decode cX12_couldAt 9 = .ok (.if_icmp .ge 47, 3) := by decide +kernel
theorem dX12_couldAt_12 : decode cX12_couldAt 12 = .ok (.iload_n 2, 1) := by decide +kernel
theorem dX12_couldAt_13 : decode cX12_couldAt 13 = .ok (.aload_n 0, 1) := by decide +kernel
theorem dX12_couldAt_14 : decode cX12_couldAt 14 = .ok (.getfield 77, 3) := by decide +kernel
theorem dX12_couldAt_17 : decode cX12_couldAt 17 = .ok (.bipush 6, 2) := by decide +kernel
theorem dX12_couldAt_19 : decode cX12_couldAt 19 = .ok (.iload_n 1, 1) := by decide +kernel
theorem dX12_couldAt_20 : decode cX12_couldAt 20 = .ok (.imul, 1) := by decide +kernel
theorem dX12_couldAt_21 : decode cX12_couldAt 21 = .ok (.iload_n 3, 1) := by decide +kernel
theorem dX12_couldAt_22 : decode cX12_couldAt 22 = .ok (.iadd, 1) := by decide +kernel
theorem dX12_couldAt_23 : decode cX12_couldAt 23 = .ok (.baload, 1) := by decide +kernel
theorem dX12_couldAt_24 : decode cX12_couldAt 24 = .ok (.ifCond .eq 23, 3) := by decide +kernel
theorem dX12_couldAt_27 : decode cX12_couldAt 27 = .ok (.aload_n 0, 1) := by decide +kernel
theorem dX12_couldAt_28 : decode cX12_couldAt 28 = .ok (.getfield 81, 3) := by decide +kernel
theorem dX12_couldAt_31 : decode cX12_couldAt 31 = .ok (.bipush 6, 2) := by decide +kernel
theorem dX12_couldAt_33 : decode cX12_couldAt 33 = .ok (.iload_n 1, 1) := by decide +kernel
theorem dX12_couldAt_34 : decode cX12_couldAt 34 = .ok (.imul, 1) := by decide +kernel
theorem dX12_couldAt_35 : decode cX12_couldAt 35 = .ok (.iload_n 3, 1) := by decide +kernel
theorem dX12_couldAt_36 : decode cX12_couldAt 36 = .ok (.iadd, 1) := by decide +kernel
theorem dX12_couldAt_37 : decode cX12_couldAt 37 = .ok (.baload, 1) := by decide +kernel
theorem dX12_couldAt_38 : decode cX12_couldAt 38 = .ok (.ifCond .eq 9, 3) := by decide +kernel
theorem dX12_couldAt_41 : decode cX12_couldAt 41 = .ok (.iconst 1, 1) := by decide +kernel
theorem dX12_couldAt_42 : decode cX12_couldAt 42 = .ok (.iload_n 3, 1) := by decide +kernel
theorem dX12_couldAt_43 : decode cX12_couldAt 43 = .ok (.ishl, 1) := by decide +kernel
theorem dX12_couldAt_44 : decode cX12_couldAt 44 = .ok (.goto 4, 3) := by decide +kernel
theorem dX12_couldAt_47 : decode cX12_couldAt 47 = .ok (.iconst 0, 1) := by decide +kernel
theorem dX12_couldAt_48 : decode cX12_couldAt 48 = .ok (.ior, 1) := by decide +kernel
theorem dX12_couldAt_49 : decode cX12_couldAt 49 = .ok (.istore_n 2, 1) := by decide +kernel
theorem dX12_couldAt_50 : decode cX12_couldAt 50 = .ok (.iinc 3 1, 3) := by decide +kernel
theorem dX12_couldAt_53 : decode cX12_couldAt 53 = .ok (.goto (-49), 3) := by decide +kernel
theorem dX12_couldAt_56 : decode cX12_couldAt 56 = .ok (.iload_n 2, 1) := by decide +kernel
theorem dX12_couldAt_57 : decode cX12_couldAt 57 = .ok (.ireturn, 1) := by decide +kernel
theorem dX12_layLog_0 : decode cX12_layLog 0 = .ok (.aload_n 0, 1) := by decide +kernel
theorem dX12_layLog_1 : decode cX12_layLog 1 = .ok (.iload_n 2, 1) := by decide +kernel
theorem dX12_layLog_2 : decode cX12_layLog 2 = .ok (.invokevirtual 423, 3) := by decide +kernel
theorem dX12_layLog_5 : decode cX12_layLog 5 = .ok (.ifCond .eq 11, 3) := by decide +kernel
theorem dX12_layLog_8 : decode cX12_layLog 8 = .ok (.aload_n 0, 1) := by decide +kernel
theorem dX12_layLog_9 : decode cX12_layLog 9 = .ok (.iload_n 1, 1) := by decide +kernel
theorem dX12_layLog_10 : decode cX12_layLog 10 = .ok (.invokevirtual 282, 3) := by decide +kernel
theorem dX12_layLog_13 : decode cX12_layLog 13 = .ok (.ifCond .ne 5, 3) := by decide +kernel
theorem dX12_layLog_16 : decode cX12_layLog 16 = .ok (.iconst 0, 1) := by decide +kernel
theorem dX12_layLog_17 : decode cX12_layLog 17 = .ok (.ireturn, 1) := by decide +kernel
theorem dX12_layLog_18 : decode cX12_layLog 18 = .ok (.iconst 0, 1) := by decide +kernel
theorem dX12_layLog_19 : decode cX12_layLog 19 = .ok (.istore_n 3, 1) := by decide +kernel
theorem dX12_layLog_20 : decode cX12_layLog 20 = .ok (.iload_n 3, 1) := by decide +kernel
theorem dX12_layLog_21 : decode cX12_layLog 21 = .ok (.aload_n 0, 1) := by decide +kernel
theorem dX12_layLog_22 : decode cX12_layLog 22 = .ok (.invokevirtual 426, 3) := by decide +kernel
theorem dX12_layLog_25 : decode cX12_layLog 25 = .ok (.if_icmp .ge 24, 3) := by decide +kernel
theorem dX12_layLog_28 : decode cX12_layLog 28 = .ok (.aload_n 0, 1) := by decide +kernel
theorem dX12_layLog_29 : decode cX12_layLog 29 = .ok (.aload_n 0, 1) := by decide +kernel
theorem dX12_layLog_30 : decode cX12_layLog 30 = .ok (.iload_n 3, 1) := by decide +kernel
theorem dX12_layLog_31 : decode cX12_layLog 31 = .ok (.iconst 0, 1) := by decide +kernel
theorem dX12_layLog_32 : decode cX12_layLog 32 = .ok (.invokevirtual 429, 3) := by decide +kernel
theorem dX12_layLog_35 : decode cX12_layLog 35 = .ok (.invokevirtual 339, 3) := by decide +kernel
theorem dX12_layLog_38 : decode cX12_layLog 38 = .ok (.ifCond .ne 5, 3) := by decide +kernel
theorem dX12_layLog_41 : decode cX12_layLog 41 = .ok (.iconst 0, 1) := by decide +kernel
theorem dX12_layLog_42 : decode cX12_layLog 42 = .ok (.ireturn, 1) := by decide +kernel
theorem dX12_layLog_43 : decode cX12_layLog 43 = .ok (.iinc 3 1, 3) := by decide +kernel
theorem dX12_layLog_46 : decode cX12_layLog 46 = .ok (.goto (-26), 3) := by decide +kernel
theorem dX12_layLog_49 : decode cX12_layLog 49 = .ok (.aload_n 0, 1) := by decide +kernel
theorem dX12_layLog_50 : decode cX12_layLog 50 = .ok (.invokevirtual 438, 3) := by decide +kernel
theorem dX12_layLog_53 : decode cX12_layLog 53 = .ok (.aload_n 0, 1) := by decide +kernel
theorem dX12_layLog_54 : decode cX12_layLog 54 = .ok (.invokevirtual 441, 3) := by decide +kernel
theorem dX12_layLog_57 : decode cX12_layLog 57 = .ok (.aload_n 0, 1) := by decide +kernel
theorem dX12_layLog_58 : decode cX12_layLog 58 = .ok (.iconst 0, 1) := by decide +kernel
theorem dX12_layLog_59 : decode cX12_layLog 59 = .ok (.invokevirtual 444, 3) := by decide +kernel
theorem dX12_layLog_62 : decode cX12_layLog 62 = .ok (.ifCond .eq 7, 3) := by decide +kernel
theorem dX12_layLog_65 : decode cX12_layLog 65 = .ok (.iconst 1, 1) := by decide +kernel
theorem dX12_layLog_66 : decode cX12_layLog 66 = .ok (.goto 4, 3) := by decide +kernel
theorem dX12_layLog_69 : decode cX12_layLog 69 = .ok (.iconst 0, 1) := by decide +kernel
theorem dX12_layLog_70 : decode cX12_layLog 70 = .ok (.ireturn, 1) := by decide +kernel
theorem dX12_could_0 : decode cX12_could 0 = .ok (.aload_n 0, 1) := by decide +kernel
theorem dX12_could_1 : decode cX12_could 1 = .ok (.iconst 0, 1) := by decide +kernel
theorem dX12_could_2 : decode cX12_could 2 = .ok (.putfield 96, 3) := by decide +kernel
theorem dX12_could_5 : decode cX12_could 5 = .ok (.iload_n 3, 1) := by decide +kernel
theorem dX12_could_6 : decode cX12_could 6 = .ok (.bipush (-2), 2) := by decide +kernel
theorem dX12_could_8 : decode cX12_could 8 = .ok (.bipush 99, 2) := by decide +kernel
theorem dX12_could_10 : decode cX12_could 10 = .ok (.invokestatic 108, 3) := by decide +kernel
theorem dX12_could_13 : decode cX12_could 13 = .ok (.ifCond .eq 12, 3) := by decide +kernel
theorem dX12_could_16 : decode cX12_could 16 = .ok (.aload_n 0, 1) := by decide +kernel
theorem dX12_could_17 : decode cX12_could 17 = .ok (.iload_n 1, 1) := by decide +kernel
theorem dX12_could_18 : decode cX12_could 18 = .ok (.iload_n 2, 1) := by decide +kernel
theorem dX12_could_19 : decode cX12_could 19 = .ok (.invokevirtual 447, 3) := by decide +kernel
theorem dX12_could_22 : decode cX12_could 22 = .ok (.ifCond .ne 5, 3) := by decide +kernel
theorem dX12_could_25 : decode cX12_could 25 = .ok (.iconst (-1), 1) := by decide +kernel
theorem dX12_could_26 : decode cX12_could 26 = .ok (.ireturn, 1) := by decide +kernel
theorem dX12_could_27 : decode cX12_could 27 = .ok (.iload_n 3, 1) := by decide +kernel
theorem dX12_could_28 : decode cX12_could 28 = .ok (.bipush (-2), 2) := by decide +kernel
theorem dX12_could_30 : decode cX12_could 30 = .ok (.if_icmp .eq 18, 3) := by decide +kernel
theorem dX12_could_33 : decode cX12_could 33 = .ok (.aload_n 0, 1) := by decide +kernel
theorem dX12_could_34 : decode cX12_could 34 = .ok (.iload_n 3, 1) := by decide +kernel
theorem dX12_could_35 : decode cX12_could 35 = .ok (.iconst (-1), 1) := by decide +kernel
theorem dX12_could_36 : decode cX12_could 36 = .ok (.if_icmp .ne 7, 3) := by decide +kernel
theorem dX12_could_39 : decode cX12_could 39 = .ok (.iconst 0, 1) := by decide +kernel
theorem dX12_could_40 : decode cX12_could 40 = .ok (.goto 4, 3) := by decide +kernel
theorem dX12_could_43 : decode cX12_could 43 = .ok (.iload_n 3, 1) := by decide +kernel
theorem dX12_could_44 : decode cX12_could 44 = .ok (.invokevirtual 444, 3) := by decide +kernel
theorem dX12_could_47 : decode cX12_could 47 = .ok (.ireturn, 1) := by decide +kernel
theorem dX12_could_48 : decode cX12_could 48 = .ok (.iconst 0, 1) := by decide +kernel
theorem dX12_could_49 : decode cX12_could 49 = .ok (.istore 4, 2) := by decide +kernel
theorem dX12_could_51 : decode cX12_could 51 = .ok (.iconst 0, 1) := by decide +kernel
theorem dX12_could_52 : decode cX12_could 52 = .ok (.istore 5, 2) := by decide +kernel
theorem dX12_could_54 : decode cX12_could 54 = .ok (.iload 5, 2) := by decide +kernel
theorem dX12_could_56 : decode cX12_could 56 = .ok (.bipush 99, 2) := by decide +kernel
theorem dX12_could_58 : decode cX12_could 58 = .ok (.if_icmp .gt 32, 3) := by decide +kernel
theorem dX12_could_61 : decode cX12_could 61 = .ok (.iload 4, 2) := by decide +kernel
theorem dX12_could_63 : decode cX12_could 63 = .ok (.aload_n 0, 1) := by decide +kernel
theorem dX12_could_64 : decode cX12_could 64 = .ok (.iload 5, 2) := by decide +kernel
theorem dX12_could_66 : decode cX12_could 66 = .ok (.invokevirtual 444, 3) := by decide +kernel
theorem dX12_could_69 : decode cX12_could 69 = .ok (.invokestatic 369, 3) := by decide +kernel
theorem dX12_could_72 : decode cX12_could 72 = .ok (.iconst 1, 1) := by decide +kernel
theorem dX12_could_73 : decode cX12_could 73 = .ok (.if_icmp .eq 7, 3) := by decide +kernel
theorem dX12_could_76 : decode cX12_could 76 = .ok (.iconst 1, 1) := by decide +kernel
theorem dX12_could_77 : decode cX12_could 77 = .ok (.goto 4, 3) := by decide +kernel
theorem dX12_could_80 : decode cX12_could 80 = .ok (.iconst 0, 1) := by decide +kernel
theorem dX12_could_81 : decode cX12_could 81 = .ok (.iadd, 1) := by decide +kernel
theorem dX12_could_82 : decode cX12_could 82 = .ok (.istore 4, 2) := by decide +kernel
theorem dX12_could_84 : decode cX12_could 84 = .ok (.iinc 5 1, 3) := by decide +kernel
theorem dX12_could_87 : decode cX12_could 87 = .ok (.goto (-33), 3) := by decide +kernel
theorem dX12_could_90 : decode cX12_could 90 = .ok (.iload 4, 2) := by decide +kernel
theorem dX12_could_92 : decode cX12_could 92 = .ok (.ireturn, 1) := by decide +kernel
theorem dX12_draw_0 : decode cX12_draw 0 = .ok (.aload_n 0, 1) := by decide +kernel
theorem dX12_draw_1 : decode cX12_draw 1 = .ok (.aload_n 0, 1) := by decide +kernel
theorem dX12_draw_2 : decode cX12_draw 2 = .ok (.getfield 450, 3) := by decide +kernel
theorem dX12_draw_5 : decode cX12_draw 5 = .ok (.ldc_w 453, 3) := by decide +kernel
theorem dX12_draw_8 : decode cX12_draw 8 = .ok (.imul, 1) := by decide +kernel
theorem dX12_draw_9 : decode cX12_draw 9 = .ok (.sipush 12345, 3) := by decide +kernel
theorem dX12_draw_12 : decode cX12_draw 12 = .ok (.iadd, 1) := by decide +kernel
theorem dX12_draw_13 : decode cX12_draw 13 = .ok (.putfield 450, 3) := by decide +kernel
theorem dX12_draw_16 : decode cX12_draw 16 = .ok (.aload_n 0, 1) := by decide +kernel
theorem dX12_draw_17 : decode cX12_draw 17 = .ok (.getfield 450, 3) := by decide +kernel
theorem dX12_draw_20 : decode cX12_draw 20 = .ok (.bipush 16, 2) := by decide +kernel
theorem dX12_draw_22 : decode cX12_draw 22 = .ok (.iushr, 1) := by decide +kernel
theorem dX12_draw_23 : decode cX12_draw 23 = .ok (.iload_n 1, 1) := by decide +kernel
theorem dX12_draw_24 : decode cX12_draw 24 = .ok (.irem, 1) := by decide +kernel
theorem dX12_draw_25 : decode cX12_draw 25 = .ok (.ireturn, 1) := by decide +kernel
theorem dX12_drawDeed_0 : decode cX12_drawDeed 0 = .ok (.aload_n 0, 1) := by decide +kernel
theorem dX12_drawDeed_1 : decode cX12_drawDeed 1 = .ok (.bipush 8, 2) := by decide +kernel
theorem dX12_drawDeed_3 : decode cX12_drawDeed 3 = .ok (.invokevirtual 454, 3) := by decide +kernel
theorem dX12_drawDeed_6 : decode cX12_drawDeed 6 = .ok (.istore_n 1, 1) := by decide +kernel
theorem dX12_drawDeed_7 : decode cX12_drawDeed 7 = .ok (.aload_n 0, 1) := by decide +kernel
theorem dX12_drawDeed_8 : decode cX12_drawDeed 8 = .ok (.getfield 259, 3) := by decide +kernel
theorem dX12_drawDeed_11 : decode cX12_drawDeed 11 = .ok (.ifCond .ne 4, 3) := by decide +kernel
theorem dX12_drawDeed_14 : decode cX12_drawDeed 14 = .ok (.return_, 1) := by decide +kernel
theorem dX12_drawDeed_15 : decode cX12_drawDeed 15 = .ok (.aload_n 0, 1) := by decide +kernel
theorem dX12_drawDeed_16 : decode cX12_drawDeed 16 = .ok (.aload_n 0, 1) := by decide +kernel
theorem dX12_drawDeed_17 : decode cX12_drawDeed 17 = .ok (.getfield 259, 3) := by decide +kernel
theorem dX12_drawDeed_20 : decode cX12_drawDeed 20 = .ok (.invokevirtual 454, 3) := by decide +kernel
theorem dX12_drawDeed_23 : decode cX12_drawDeed 23 = .ok (.istore_n 2, 1) := by decide +kernel
theorem dX12_drawDeed_24 : decode cX12_drawDeed 24 = .ok (.iload_n 1, 1) := by decide +kernel
theorem dX12_drawDeed_25 : decode cX12_drawDeed 25 = .ok (.bipush 7, 2) := by decide +kernel
theorem dX12_drawDeed_27 : decode cX12_drawDeed 27 = .ok (.if_icmp .ne 21, 3) := by decide +kernel
theorem dX12_drawDeed_30 : decode cX12_drawDeed 30 = .ok (.aload_n 0, 1) := by decide +kernel
theorem dX12_drawDeed_31 : decode cX12_drawDeed 31 = .ok (.iconst 1, 1) := by decide +kernel
theorem dX12_drawDeed_32 : decode cX12_drawDeed 32 = .ok (.iload_n 2, 1) := by decide +kernel
theorem dX12_drawDeed_33 : decode cX12_drawDeed 33 = .ok (.iconst 1, 1) := by decide +kernel
theorem dX12_drawDeed_34 : decode cX12_drawDeed 34 = .ok (.aload_n 0, 1) := by decide +kernel
theorem dX12_drawDeed_35 : decode cX12_drawDeed 35 = .ok (.bipush 12, 2) := by decide +kernel
theorem dX12_drawDeed_37 : decode cX12_drawDeed 37 = .ok (.invokevirtual 454, 3) := by decide +kernel
theorem dX12_drawDeed_40 : decode cX12_drawDeed 40 = .ok (.iadd, 1) := by decide +kernel
theorem dX12_drawDeed_41 : decode cX12_drawDeed 41 = .ok (.invokevirtual 318, 3) := by decide +kernel
theorem dX12_drawDeed_44 : decode cX12_drawDeed 44 = .ok (.pop, 1) := by decide +kernel
theorem dX12_drawDeed_45 : decode cX12_drawDeed 45 = .ok (.goto 55, 3) := by decide +kernel
theorem dX12_drawDeed_48 : decode cX12_drawDeed 48 = .ok (.iload_n 1, 1) := by decide +kernel
theorem dX12_drawDeed_49 : decode cX12_drawDeed 49 = .ok (.iconst 3, 1) := by decide +kernel
theorem dX12_drawDeed_50 : decode cX12_drawDeed 50 = .ok (.if_icmp .ge 28, 3) := by decide +kernel
theorem dX12_drawDeed_53 : decode cX12_drawDeed 53 = .ok (.aload_n 0, 1) := by decide +kernel
theorem dX12_drawDeed_54 : decode cX12_drawDeed 54 = .ok (.getfield 253, 3) := by decide +kernel
theorem dX12_drawDeed_57 : decode cX12_drawDeed 57 = .ok (.ifCond .le 43, 3) := by decide +kernel
theorem dX12_drawDeed_60 : decode cX12_drawDeed 60 = .ok (.aload_n 0, 1) := by decide +kernel
theorem dX12_drawDeed_61 : decode cX12_drawDeed 61 = .ok (.iconst 0, 1) := by decide +kernel
theorem dX12_drawDeed_62 : decode cX12_drawDeed 62 = .ok (.iload_n 2, 1) := by decide +kernel
theorem dX12_drawDeed_63 : decode cX12_drawDeed 63 = .ok (.aload_n 0, 1) := by decide +kernel
theorem dX12_drawDeed_64 : decode cX12_drawDeed 64 = .ok (.aload_n 0, 1) := by decide +kernel
theorem dX12_drawDeed_65 : decode cX12_drawDeed 65 = .ok (.getfield 253, 3) := by decide +kernel
theorem dX12_drawDeed_68 : decode cX12_drawDeed 68 = .ok (.invokevirtual 454, 3) := by decide +kernel
theorem dX12_drawDeed_71 : decode cX12_drawDeed 71 = .ok (.invokevirtual 318, 3) := by decide +kernel
theorem dX12_drawDeed_74 : decode cX12_drawDeed 74 = .ok (.pop, 1) := by decide +kernel
theorem dX12_drawDeed_75 : decode cX12_drawDeed 75 = .ok (.goto 25, 3) := by decide +kernel
theorem dX12_drawDeed_78 : decode cX12_drawDeed 78 = .ok (.aload_n 0, 1) := by decide +kernel
theorem dX12_drawDeed_79 : decode cX12_drawDeed 79 = .ok (.getfield 256, 3) := by decide +kernel
theorem dX12_drawDeed_82 : decode cX12_drawDeed 82 = .ok (.ifCond .le 18, 3) := by decide +kernel
theorem dX12_drawDeed_85 : decode cX12_drawDeed 85 = .ok (.aload_n 0, 1) := by decide +kernel
theorem dX12_drawDeed_86 : decode cX12_drawDeed 86 = .ok (.iconst 2, 1) := by decide +kernel
theorem dX12_drawDeed_87 : decode cX12_drawDeed 87 = .ok (.iload_n 2, 1) := by decide +kernel
theorem dX12_drawDeed_88 : decode cX12_drawDeed 88 = .ok (.aload_n 0, 1) := by decide +kernel
theorem dX12_drawDeed_89 : decode cX12_drawDeed 89 = .ok (.aload_n 0, 1) := by decide +kernel
theorem dX12_drawDeed_90 : decode cX12_drawDeed 90 = .ok (.getfield 256, 3) := by decide +kernel
theorem dX12_drawDeed_93 : decode cX12_drawDeed 93 = .ok (.invokevirtual 454, 3) := by decide +kernel
theorem dX12_drawDeed_96 : decode cX12_drawDeed 96 = .ok (.invokevirtual 318, 3) := by decide +kernel
theorem dX12_drawDeed_99 : decode cX12_drawDeed 99 = .ok (.pop, 1) := by decide +kernel
theorem dX12_drawDeed_100 : decode cX12_drawDeed 100 = .ok (.return_, 1) := by decide +kernel
theorem dX12_drawn_0 : decode cX12_drawn 0 = .ok (.aload_n 0, 1) := by decide +kernel
theorem dX12_drawn_1 : decode cX12_drawn 1 = .ok (.iconst 0, 1) := by decide +kernel
theorem dX12_drawn_2 : decode cX12_drawn 2 = .ok (.putfield 96, 3) := by decide +kernel
theorem dX12_drawn_5 : decode cX12_drawn 5 = .ok (.iload_n 3, 1) := by decide +kernel
theorem dX12_drawn_6 : decode cX12_drawn 6 = .ok (.iconst 0, 1) := by decide +kernel
theorem dX12_drawn_7 : decode cX12_drawn 7 = .ok (.bipush 60, 2) := by decide +kernel
theorem dX12_drawn_9 : decode cX12_drawn 9 = .ok (.invokestatic 108, 3) := by decide +kernel
theorem dX12_drawn_12 : decode cX12_drawn 12 = .ok (.ifCond .eq 11, 3) := by decide +kernel
theorem dX12_drawn_15 : decode cX12_drawn 15 = .ok (.aload_n 0, 1) := by decide +kernel
theorem dX12_drawn_16 : decode cX12_drawn 16 = .ok (.iload_n 1, 1) := by decide +kernel
theorem dX12_drawn_17 : decode cX12_drawn 17 = .ok (.invokevirtual 282, 3) := by decide +kernel
theorem dX12_drawn_20 : decode cX12_drawn 20 = .ok (.ifCond .ne 6, 3) := by decide +kernel
theorem dX12_drawn_23 : decode cX12_drawn 23 = .ok (.bipush (-2), 2) := by decide +kernel
theorem dX12_drawn_25 : decode cX12_drawn 25 = .ok (.ireturn, 1) := by decide +kernel
theorem dX12_drawn_26 : decode cX12_drawn 26 = .ok (.aload_n 0, 1) := by decide +kernel
theorem dX12_drawn_27 : decode cX12_drawn 27 = .ok (.iload_n 2, 1) := by decide +kernel
theorem dX12_drawn_28 : decode cX12_drawn 28 = .ok (.putfield 450, 3) := by decide +kernel
theorem dX12_drawn_31 : decode cX12_drawn 31 = .ok (.aload_n 0, 1) := by decide +kernel
theorem dX12_drawn_32 : decode cX12_drawn 32 = .ok (.invokevirtual 321, 3) := by decide +kernel
theorem dX12_drawn_35 : decode cX12_drawn 35 = .ok (.iconst 0, 1) := by decide +kernel
theorem dX12_drawn_36 : decode cX12_drawn 36 = .ok (.istore 5, 2) := by decide +kernel
theorem dX12_drawn_38 : decode cX12_drawn 38 = .ok (.iload 5, 2) := by decide +kernel
theorem dX12_drawn_40 : decode cX12_drawn 40 = .ok (.iload_n 3, 1) := by decide +kernel
theorem dX12_drawn_41 : decode cX12_drawn 41 = .ok (.if_icmp .ge 13, 3) := by decide +kernel
theorem dX12_drawn_44 : decode cX12_drawn 44 = .ok (.aload_n 0, 1) := by decide +kernel
theorem dX12_drawn_45 : decode cX12_drawn 45 = .ok (.invokevirtual 457, 3) := by decide +kernel
theorem dX12_drawn_48 : decode cX12_drawn 48 = .ok (.iinc 5 1, 3) := by decide +kernel
theorem dX12_drawn_51 : decode cX12_drawn 51 = .ok (.goto (-13), 3) := by decide +kernel
theorem dX12_drawn_54 : decode cX12_drawn 54 = .ok (.aload_n 0, 1) := by decide +kernel
theorem dX12_drawn_55 : decode cX12_drawn 55 = .ok (.iload 4, 2) := by decide +kernel
theorem dX12_drawn_57 : decode cX12_drawn 57 = .ok (.invokevirtual 336, 3) := by decide +kernel
theorem dX12_drawn_60 : decode cX12_drawn 60 = .ok (.ireturn, 1) := by decide +kernel
theorem dX12_reach_0 : decode cX12_reach 0 = .ok (.iconst 0, 1) := by decide +kernel
theorem dX12_reach_1 : decode cX12_reach 1 = .ok (.istore_n 2, 1) := by decide +kernel
theorem dX12_reach_2 : decode cX12_reach 2 = .ok (.iconst 0, 1) := by decide +kernel
theorem dX12_reach_3 : decode cX12_reach 3 = .ok (.istore_n 3, 1) := by decide +kernel
theorem dX12_reach_4 : decode cX12_reach 4 = .ok (.iload_n 3, 1) := by decide +kernel
theorem dX12_reach_5 : decode cX12_reach 5 = .ok (.aload_n 0, 1) := by decide +kernel
theorem dX12_reach_6 : decode cX12_reach 6 = .ok (.getfield 250, 3) := by decide +kernel
theorem dX12_reach_9 : decode cX12_reach 9 = .ok (.if_icmp .ge 32, 3) := by decide +kernel
theorem dX12_reach_12 : decode cX12_reach 12 = .ok (.iload_n 2, 1) := by decide +kernel
theorem dX12_reach_13 : decode cX12_reach 13 = .ok (.aload_n 0, 1) := by decide +kernel
theorem dX12_reach_14 : decode cX12_reach 14 = .ok (.iload_n 1, 1) := by decide +kernel
theorem dX12_reach_15 : decode cX12_reach 15 = .ok (.iconst 0, 1) := by decide +kernel
theorem dX12_reach_16 : decode cX12_reach 16 = .ok (.iload_n 3, 1) := by decide +kernel
theorem dX12_reach_17 : decode cX12_reach 17 = .ok (.invokevirtual 342, 3) := by decide +kernel
theorem dX12_reach_20 : decode cX12_reach 20 = .ok (.ldc_w 275, 3) := by decide +kernel
theorem dX12_reach_23 : decode cX12_reach 23 = .ok (.if_icmp .ge 9, 3) := by decide +kernel
theorem dX12_reach_26 : decode cX12_reach 26 = .ok (.iconst 1, 1) := by decide +kernel
theorem dX12_reach_27 : decode cX12_reach 27 = .ok (.iload_n 3, 1) := by decide +kernel
theorem dX12_reach_28 : decode cX12_reach 28 = .ok (.ishl, 1) := by decide +kernel
theorem dX12_reach_29 : decode cX12_reach 29 = .ok (.goto 4, 3) := by decide +kernel
theorem dX12_reach_32 : decode cX12_reach 32 = .ok (.iconst 0, 1) := by decide +kernel
theorem dX12_reach_33 : decode cX12_reach 33 = .ok (.ior, 1) := by decide +kernel
theorem dX12_reach_34 : decode cX12_reach 34 = .ok (.istore_n 2, 1) := by decide +kernel
theorem dX12_reach_35 : decode cX12_reach 35 = .ok (.iinc 3 1, 3) := by decide +kernel
theorem dX12_reach_38 : decode cX12_reach 38 = .ok (.goto (-34), 3) := by decide +kernel
theorem dX12_reach_41 : decode cX12_reach 41 = .ok (.iload_n 2, 1) := by decide +kernel
theorem dX12_reach_42 : decode cX12_reach 42 = .ok (.ireturn, 1) := by decide +kernel
theorem dX12_widest_0 : decode cX12_widest 0 = .ok (.iconst 0, 1) := by decide +kernel
theorem dX12_widest_1 : decode cX12_widest 1 = .ok (.istore_n 1, 1) := by decide +kernel
theorem dX12_widest_2 : decode cX12_widest 2 = .ok (.iconst 0, 1) := by decide +kernel
theorem dX12_widest_3 : decode cX12_widest 3 = .ok (.istore_n 2, 1) := by decide +kernel
theorem dX12_widest_4 : decode cX12_widest 4 = .ok (.iload_n 2, 1) := by decide +kernel
theorem dX12_widest_5 : decode cX12_widest 5 = .ok (.bipush 36, 2) := by decide +kernel
theorem dX12_widest_7 : decode cX12_widest 7 = .ok (.if_icmp .ge 90, 3) := by decide +kernel
theorem dX12_widest_10 : decode cX12_widest 10 = .ok (.iload_n 2, 1) := by decide +kernel
theorem dX12_widest_11 : decode cX12_widest 11 = .ok (.bipush 6, 2) := by decide +kernel
theorem dX12_widest_13 : decode cX12_widest 13 = .ok (.idiv, 1) := by decide +kernel
theorem dX12_widest_14 : decode cX12_widest 14 = .ok (.aload_n 0, 1) := by decide +kernel
theorem dX12_widest_15 : decode cX12_widest 15 = .ok (.getfield 250, 3) := by decide +kernel
theorem dX12_widest_18 : decode cX12_widest 18 = .ok (.if_icmp .ge 29, 3) := by decide +kernel
theorem dX12_widest_21 : decode cX12_widest 21 = .ok (.iload_n 2, 1) := by decide +kernel
theorem dX12_widest_22 : decode cX12_widest 22 = .ok (.bipush 6, 2) := by decide +kernel
theorem dX12_widest_24 : decode cX12_widest 24 = .ok (.irem, 1) := by decide +kernel
theorem dX12_widest_25 : decode cX12_widest 25 = .ok (.aload_n 0, 1) := by decide +kernel
theorem dX12_widest_26 : decode cX12_widest 26 = .ok (.getfield 250, 3) := by decide +kernel
theorem dX12_widest_29 : decode cX12_widest 29 = .ok (.if_icmp .ge 18, 3) := by decide +kernel
theorem dX12_widest_32 : decode cX12_widest 32 = .ok (.iload_n 2, 1) := by decide +kernel
theorem dX12_widest_33 : decode cX12_widest 33 = .ok (.bipush 6, 2) := by decide +kernel
theorem dX12_widest_35 : decode cX12_widest 35 = .ok (.idiv, 1) := by decide +kernel
theorem dX12_widest_36 : decode cX12_widest 36 = .ok (.iload_n 2, 1) := by decide +kernel
theorem dX12_widest_37 : decode cX12_widest 37 = .ok (.bipush 6, 2) := by decide +kernel
theorem dX12_widest_39 : decode cX12_widest 39 = .ok (.irem, 1) := by decide +kernel
theorem dX12_widest_40 : decode cX12_widest 40 = .ok (.if_icmp .eq 7, 3) := by decide +kernel
theorem dX12_widest_43 : decode cX12_widest 43 = .ok (.iconst 1, 1) := by decide +kernel
theorem dX12_widest_44 : decode cX12_widest 44 = .ok (.goto 4, 3) := by decide +kernel
theorem dX12_widest_47 : decode cX12_widest 47 = .ok (.iconst 0, 1) := by decide +kernel
theorem dX12_widest_48 : decode cX12_widest 48 = .ok (.istore_n 3, 1) := by decide +kernel
theorem dX12_widest_49 : decode cX12_widest 49 = .ok (.iload_n 3, 1) := by decide +kernel
theorem dX12_widest_50 : decode cX12_widest 50 = .ok (.ifCond .eq 19, 3) := by decide +kernel
theorem dX12_widest_53 : decode cX12_widest 53 = .ok (.aload_n 0, 1) := by decide +kernel
theorem dX12_widest_54 : decode cX12_widest 54 = .ok (.iload_n 2, 1) := by decide +kernel
theorem dX12_widest_55 : decode cX12_widest 55 = .ok (.bipush 6, 2) := by decide +kernel
theorem dX12_widest_57 : decode cX12_widest 57 = .ok (.idiv, 1) := by decide +kernel
theorem dX12_widest_58 : decode cX12_widest 58 = .ok (.iconst 0, 1) := by decide +kernel
theorem dX12_widest_59 : decode cX12_widest 59 = .ok (.iload_n 2, 1) := by decide +kernel
theorem dX12_widest_60 : decode cX12_widest 60 = .ok (.bipush 6, 2) := by decide +kernel
theorem dX12_widest_62 : decode cX12_widest 62 = .ok (.irem, 1) := by decide +kernel
theorem dX12_widest_63 : decode cX12_widest 63 = .ok (.invokevirtual 342, 3) := by decide +kernel
theorem dX12_widest_66 : decode cX12_widest 66 = .ok (.goto 4, 3) := by decide +kernel
theorem dX12_widest_69 : decode cX12_widest 69 = .ok (.iconst 0, 1) := by decide +kernel
theorem dX12_widest_70 : decode cX12_widest 70 = .ok (.istore 4, 2) := by decide +kernel
theorem dX12_widest_72 : decode cX12_widest 72 = .ok (.iload 4, 2) := by decide +kernel
theorem dX12_widest_74 : decode cX12_widest 74 = .ok (.ldc_w 275, 3) := by decide +kernel
theorem dX12_widest_77 : decode cX12_widest 77 = .ok (.if_icmp .ge 12, 3) := by decide +kernel
theorem dX12_widest_80 : decode cX12_widest 80 = .ok (.iload_n 1, 1) := by decide +kernel
theorem dX12_widest_81 : decode cX12_widest 81 = .ok (.iload 4, 2) := by decide +kernel
theorem dX12_widest_83 : decode cX12_widest 83 = .ok (.invokestatic 170, 3) := by decide +kernel
theorem dX12_widest_86 : decode cX12_widest 86 = .ok (.goto 4, 3) := by decide +kernel
theorem dX12_widest_89 : decode cX12_widest 89 = .ok (.iload_n 1, 1) := by decide +kernel
theorem dX12_widest_90 : decode cX12_widest 90 = .ok (.istore_n 1, 1) := by decide +kernel
theorem dX12_widest_91 : decode cX12_widest 91 = .ok (.iinc 2 1, 3) := by decide +kernel
theorem dX12_widest_94 : decode cX12_widest 94 = .ok (.goto (-90), 3) := by decide +kernel
theorem dX12_widest_97 : decode cX12_widest 97 = .ok (.iload_n 1, 1) := by decide +kernel
theorem dX12_widest_98 : decode cX12_widest 98 = .ok (.ireturn, 1) := by decide +kernel
theorem dX12_couplesWithout_0 : decode cX12_couplesWithout 0 = .ok (.iconst 0, 1) := by decide +kernel
theorem dX12_couplesWithout_1 : decode cX12_couplesWithout 1 = .ok (.istore_n 2, 1) := by decide +kernel
theorem dX12_couplesWithout_2 : decode cX12_couplesWithout 2 = .ok (.iconst 0, 1) := by decide +kernel
theorem dX12_couplesWithout_3 : decode cX12_couplesWithout 3 = .ok (.istore_n 3, 1) := by decide +kernel
theorem dX12_couplesWithout_4 : decode cX12_couplesWithout 4 = .ok (.iload_n 3, 1) := by decide +kernel
theorem dX12_couplesWithout_5 : decode cX12_couplesWithout 5 = .ok (.aload_n 0, 1) := by decide +kernel
theorem dX12_couplesWithout_6 : decode cX12_couplesWithout 6 = .ok (.getfield 253, 3) := by decide +kernel
theorem dX12_couplesWithout_9 : decode cX12_couplesWithout 9 = .ok (.if_icmp .ge 42, 3) := by decide +kernel
