theorem dX12_shortens_48 : decode cX12_shortens 48 = .ok (.iconst 0, 1) := by decide +kernel
theorem dX12_shortens_49 : decode cX12_shortens 49 = .ok (.istore 7, 2) := by decide +kernel
theorem dX12_shortens_51 : decode cX12_shortens 51 = .ok (.iload 7, 2) := by decide +kernel
theorem dX12_shortens_53 : decode cX12_shortens 53 = .ok (.aload_n 0, 1) := by decide +kernel
theorem dX12_shortens_54 : decode cX12_shortens 54 = .ok (.getfield 250, 3) := by decide +kernel
theorem dX12_shortens_57 : decode cX12_shortens 57 = .ok (.if_icmp .ge 72, 3) := by decide +kernel
theorem dX12_shortens_60 : decode cX12_shortens 60 = .ok (.iload 6, 2) := by decide +kernel
theorem dX12_shortens_62 : decode cX12_shortens 62 = .ok (.iload 5, 2) := by decide +kernel
theorem dX12_shortens_64 : decode cX12_shortens 64 = .ok (.isub, 1) := by decide +kernel
theorem dX12_shortens_65 : decode cX12_shortens 65 = .ok (.aload_n 0, 1) := by decide +kernel
theorem dX12_shortens_66 : decode cX12_shortens 66 = .ok (.getfield 41, 3) := by decide +kernel
theorem dX12_shortens_69 : decode cX12_shortens 69 = .ok (.aload_n 0, 1) := by decide +kernel
theorem dX12_shortens_70 : decode cX12_shortens 70 = .ok (.iload 4, 2) := by decide +kernel
theorem dX12_shortens_72 : decode cX12_shortens 72 = .ok (.iload 7, 2) := by decide +kernel
theorem dX12_shortens_74 : decode cX12_shortens 74 = .ok (.iload 6, 2) := by decide +kernel
theorem dX12_shortens_76 : decode cX12_shortens 76 = .ok (.bipush 12, 2) := by decide +kernel
theorem dX12_shortens_78 : decode cX12_shortens 78 = .ok (.irem, 1) := by decide +kernel
theorem dX12_shortens_79 : decode cX12_shortens 79 = .ok (.invokevirtual 268, 3) := by decide +kernel
theorem dX12_shortens_82 : decode cX12_shortens 82 = .ok (.iaload, 1) := by decide +kernel
theorem dX12_shortens_83 : decode cX12_shortens 83 = .ok (.iadd, 1) := by decide +kernel
theorem dX12_shortens_84 : decode cX12_shortens 84 = .ok (.istore 8, 2) := by decide +kernel
theorem dX12_shortens_86 : decode cX12_shortens 86 = .ok (.iload 8, 2) := by decide +kernel
theorem dX12_shortens_88 : decode cX12_shortens 88 = .ok (.aload_n 0, 1) := by decide +kernel
theorem dX12_shortens_89 : decode cX12_shortens 89 = .ok (.getfield 41, 3) := by decide +kernel
theorem dX12_shortens_92 : decode cX12_shortens 92 = .ok (.aload_n 0, 1) := by decide +kernel
theorem dX12_shortens_93 : decode cX12_shortens 93 = .ok (.iload_n 3, 1) := by decide +kernel
theorem dX12_shortens_94 : decode cX12_shortens 94 = .ok (.iload 7, 2) := by decide +kernel
theorem dX12_shortens_96 : decode cX12_shortens 96 = .ok (.iload 5, 2) := by decide +kernel
theorem dX12_shortens_98 : decode cX12_shortens 98 = .ok (.invokevirtual 268, 3) := by decide +kernel
theorem dX12_shortens_101 : decode cX12_shortens 101 = .ok (.iaload, 1) := by decide +kernel
theorem dX12_shortens_102 : decode cX12_shortens 102 = .ok (.if_icmp .ge 21, 3) := by decide +kernel
theorem dX12_shortens_105 : decode cX12_shortens 105 = .ok (.aload_n 0, 1) := by decide +kernel
theorem dX12_shortens_106 : decode cX12_shortens 106 = .ok (.getfield 41, 3) := by decide +kernel
theorem dX12_shortens_109 : decode cX12_shortens 109 = .ok (.aload_n 0, 1) := by decide +kernel
theorem dX12_shortens_110 : decode cX12_shortens 110 = .ok (.iload_n 3, 1) := by decide +kernel
theorem dX12_shortens_111 : decode cX12_shortens 111 = .ok (.iload 7, 2) := by decide +kernel
theorem dX12_shortens_113 : decode cX12_shortens 113 = .ok (.iload 5, 2) := by decide +kernel
theorem dX12_shortens_115 : decode cX12_shortens 115 = .ok (.invokevirtual 268, 3) := by decide +kernel
theorem dX12_shortens_118 : decode cX12_shortens 118 = .ok (.iload 8, 2) := by decide +kernel
theorem dX12_shortens_120 : decode cX12_shortens 120 = .ok (.iastore, 1) := by decide +kernel
theorem dX12_shortens_121 : decode cX12_shortens 121 = .ok (.iconst 1, 1) := by decide +kernel
theorem dX12_shortens_122 : decode cX12_shortens 122 = .ok (.istore_n 2, 1) := by decide +kernel
theorem dX12_shortens_123 : decode cX12_shortens 123 = .ok (.iinc 7 1, 3) := by decide +kernel
theorem dX12_shortens_126 : decode cX12_shortens 126 = .ok (.goto (-75), 3) := by decide +kernel
theorem dX12_shortens_129 : decode cX12_shortens 129 = .ok (.iinc 5 1, 3) := by decide +kernel
theorem dX12_shortens_132 : decode cX12_shortens 132 = .ok (.goto (-109), 3) := by decide +kernel
theorem dX12_shortens_135 : decode cX12_shortens 135 = .ok (.iload_n 2, 1) := by decide +kernel
theorem dX12_shortens_136 : decode cX12_shortens 136 = .ok (.ireturn, 1) := by decide +kernel
theorem dX12_findLasts_0 : decode cX12_findLasts 0 = .ok (.aload_n 0, 1) := by decide +kernel
theorem dX12_findLasts_1 : decode cX12_findLasts 1 = .ok (.iload_n 1, 1) := by decide +kernel
theorem dX12_findLasts_2 : decode cX12_findLasts 2 = .ok (.putfield 272, 3) := by decide +kernel
theorem dX12_findLasts_5 : decode cX12_findLasts 5 = .ok (.iconst 0, 1) := by decide +kernel
theorem dX12_findLasts_6 : decode cX12_findLasts 6 = .ok (.istore_n 2, 1) := by decide +kernel
theorem dX12_findLasts_7 : decode cX12_findLasts 7 = .ok (.iload_n 2, 1) := by decide +kernel
theorem dX12_findLasts_8 : decode cX12_findLasts 8 = .ok (.sipush 432, 3) := by decide +kernel
theorem dX12_findLasts_11 : decode cX12_findLasts 11 = .ok (.if_icmp .ge 39, 3) := by decide +kernel
theorem dX12_findLasts_14 : decode cX12_findLasts 14 = .ok (.aload_n 0, 1) := by decide +kernel
theorem dX12_findLasts_15 : decode cX12_findLasts 15 = .ok (.getfield 41, 3) := by decide +kernel
theorem dX12_findLasts_18 : decode cX12_findLasts 18 = .ok (.iload_n 2, 1) := by decide +kernel
theorem dX12_findLasts_19 : decode cX12_findLasts 19 = .ok (.iload_n 2, 1) := by decide +kernel
theorem dX12_findLasts_20 : decode cX12_findLasts 20 = .ok (.bipush 12, 2) := by decide +kernel
theorem dX12_findLasts_22 : decode cX12_findLasts 22 = .ok (.idiv, 1) := by decide +kernel
theorem dX12_findLasts_23 : decode cX12_findLasts 23 = .ok (.bipush 6, 2) := by decide +kernel
theorem dX12_findLasts_25 : decode cX12_findLasts 25 = .ok (.idiv, 1) := by decide +kernel
theorem dX12_findLasts_26 : decode cX12_findLasts 26 = .ok (.iload_n 2, 1) := by decide +kernel
theorem dX12_findLasts_27 : decode cX12_findLasts 27 = .ok (.bipush 12, 2) := by decide +kernel
theorem dX12_findLasts_29 : decode cX12_findLasts 29 = .ok (.idiv, 1) := by decide +kernel
theorem dX12_findLasts_30 : decode cX12_findLasts 30 = .ok (.bipush 6, 2) := by decide +kernel
theorem dX12_findLasts_32 : decode cX12_findLasts 32 = .ok (.irem, 1) := by decide +kernel
theorem dX12_findLasts_33 : decode cX12_findLasts 33 = .ok (.if_icmp .ne 7, 3) := by decide +kernel
theorem dX12_findLasts_36 : decode cX12_findLasts 36 = .ok (.iconst 0, 1) := by decide +kernel
theorem dX12_findLasts_37 : decode cX12_findLasts 37 = .ok (.goto 6, 3) := by decide +kernel
theorem dX12_findLasts_40 : decode cX12_findLasts 40 = .ok (.ldc_w 275, 3) := by decide +kernel
theorem dX12_findLasts_43 : decode cX12_findLasts 43 = .ok (.iastore, 1) := by decide +kernel
theorem dX12_findLasts_44 : decode cX12_findLasts 44 = .ok (.iinc 2 1, 3) := by decide +kernel
theorem dX12_findLasts_47 : decode cX12_findLasts 47 = .ok (.goto (-40), 3) := by decide +kernel
theorem dX12_findLasts_50 : decode cX12_findLasts 50 = .ok (.iconst 1, 1) := by decide +kernel
theorem dX12_findLasts_51 : decode cX12_findLasts 51 = .ok (.istore_n 2, 1) := by decide +kernel
theorem dX12_findLasts_52 : decode cX12_findLasts 52 = .ok (.iload_n 2, 1) := by decide +kernel
theorem dX12_findLasts_53 : decode cX12_findLasts 53 = .ok (.ifCond .eq 50, 3) := by decide +kernel
theorem dX12_findLasts_56 : decode cX12_findLasts 56 = .ok (.iconst 0, 1) := by decide +kernel
theorem dX12_findLasts_57 : decode cX12_findLasts 57 = .ok (.istore_n 2, 1) := by decide +kernel
theorem dX12_findLasts_58 : decode cX12_findLasts 58 = .ok (.iconst 0, 1) := by decide +kernel
theorem dX12_findLasts_59 : decode cX12_findLasts 59 = .ok (.istore_n 3, 1) := by decide +kernel
theorem dX12_findLasts_60 : decode cX12_findLasts 60 = .ok (.iload_n 3, 1) := by decide +kernel
theorem dX12_findLasts_61 : decode cX12_findLasts 61 = .ok (.aload_n 0, 1) := by decide +kernel
theorem dX12_findLasts_62 : decode cX12_findLasts 62 = .ok (.getfield 253, 3) := by decide +kernel
theorem dX12_findLasts_65 : decode cX12_findLasts 65 = .ok (.if_icmp .ge 35, 3) := by decide +kernel
theorem dX12_findLasts_68 : decode cX12_findLasts 68 = .ok (.iload_n 1, 1) := by decide +kernel
theorem dX12_findLasts_69 : decode cX12_findLasts 69 = .ok (.iload_n 3, 1) := by decide +kernel
theorem dX12_findLasts_70 : decode cX12_findLasts 70 = .ok (.invokestatic 100, 3) := by decide +kernel
theorem dX12_findLasts_73 : decode cX12_findLasts 73 = .ok (.ifCond .ne 11, 3) := by decide +kernel
theorem dX12_findLasts_76 : decode cX12_findLasts 76 = .ok (.aload_n 0, 1) := by decide +kernel
theorem dX12_findLasts_77 : decode cX12_findLasts 77 = .ok (.iload_n 3, 1) := by decide +kernel
theorem dX12_findLasts_78 : decode cX12_findLasts 78 = .ok (.invokevirtual 276, 3) := by decide +kernel
theorem dX12_findLasts_81 : decode cX12_findLasts 81 = .ok (.ifCond .ne 7, 3) := by decide +kernel
theorem dX12_findLasts_84 : decode cX12_findLasts 84 = .ok (.iload_n 2, 1) := by decide +kernel
theorem dX12_findLasts_85 : decode cX12_findLasts 85 = .ok (.ifCond .eq 7, 3) := by decide +kernel
theorem dX12_findLasts_88 : decode cX12_findLasts 88 = .ok (.iconst 1, 1) := by decide +kernel
theorem dX12_findLasts_89 : decode cX12_findLasts 89 = .ok (.goto 4, 3) := by decide +kernel
theorem dX12_findLasts_92 : decode cX12_findLasts 92 = .ok (.iconst 0, 1) := by decide +kernel
theorem dX12_findLasts_93 : decode cX12_findLasts 93 = .ok (.istore_n 2, 1) := by decide +kernel
theorem dX12_findLasts_94 : decode cX12_findLasts 94 = .ok (.iinc 3 1, 3) := by decide +kernel
theorem dX12_findLasts_97 : decode cX12_findLasts 97 = .ok (.goto (-37), 3) := by decide +kernel
theorem dX12_findLasts_100 : decode cX12_findLasts 100 = .ok (.goto (-48), 3) := by decide +kernel
theorem dX12_findLasts_103 : decode cX12_findLasts 103 = .ok (.return_, 1) := by decide +kernel
theorem dX12_comes_0 : decode cX12_comes 0 = .ok (.ldc_w 275, 3) := by decide +kernel
theorem dX12_comes_3 : decode cX12_comes 3 = .ok (.iload_n 2, 1) := by decide +kernel
theorem dX12_comes_4 : decode cX12_comes 4 = .ok (.aload_n 0, 1) := by decide +kernel
theorem dX12_comes_5 : decode cX12_comes 5 = .ok (.getfield 41, 3) := by decide +kernel
theorem dX12_comes_8 : decode cX12_comes 8 = .ok (.aload_n 0, 1) := by decide +kernel
theorem dX12_comes_9 : decode cX12_comes 9 = .ok (.iload_n 1, 1) := by decide +kernel
theorem dX12_comes_10 : decode cX12_comes 10 = .ok (.iload_n 3, 1) := by decide +kernel
theorem dX12_comes_11 : decode cX12_comes 11 = .ok (.iload_n 2, 1) := by decide +kernel
theorem dX12_comes_12 : decode cX12_comes 12 = .ok (.bipush 12, 2) := by decide +kernel
theorem dX12_comes_14 : decode cX12_comes 14 = .ok (.irem, 1) := by decide +kernel
theorem dX12_comes_15 : decode cX12_comes 15 = .ok (.invokevirtual 268, 3) := by decide +kernel
theorem dX12_comes_18 : decode cX12_comes 18 = .ok (.iaload, 1) := by decide +kernel
theorem dX12_comes_19 : decode cX12_comes 19 = .ok (.iadd, 1) := by decide +kernel
theorem dX12_comes_20 : decode cX12_comes 20 = .ok (.invokestatic 279, 3) := by decide +kernel
theorem dX12_comes_23 : decode cX12_comes 23 = .ok (.ireturn, 1) := by decide +kernel
theorem dX12_rail_0 : decode cX12_rail 0 = .ok (.aload_n 0, 1) := by decide +kernel
theorem dX12_rail_1 : decode cX12_rail 1 = .ok (.iconst 0, 1) := by decide +kernel
theorem dX12_rail_2 : decode cX12_rail 2 = .ok (.putfield 96, 3) := by decide +kernel
theorem dX12_rail_5 : decode cX12_rail 5 = .ok (.aload_n 0, 1) := by decide +kernel
theorem dX12_rail_6 : decode cX12_rail 6 = .ok (.iload_n 1, 1) := by decide +kernel
theorem dX12_rail_7 : decode cX12_rail 7 = .ok (.invokevirtual 282, 3) := by decide +kernel
theorem dX12_rail_10 : decode cX12_rail 10 = .ok (.ifCond .ne 5, 3) := by decide +kernel
theorem dX12_rail_13 : decode cX12_rail 13 = .ok (.iconst (-1), 1) := by decide +kernel
theorem dX12_rail_14 : decode cX12_rail 14 = .ok (.ireturn, 1) := by decide +kernel
theorem dX12_rail_15 : decode cX12_rail 15 = .ok (.iload_n 2, 1) := by decide +kernel
theorem dX12_rail_16 : decode cX12_rail 16 = .ok (.bipush 100, 2) := by decide +kernel
theorem dX12_rail_18 : decode cX12_rail 18 = .ok (.if_icmp .lt 45, 3) := by decide +kernel
theorem dX12_rail_21 : decode cX12_rail 21 = .ok (.iload_n 2, 1) := by decide +kernel
theorem dX12_rail_22 : decode cX12_rail 22 = .ok (.bipush 100, 2) := by decide +kernel
theorem dX12_rail_24 : decode cX12_rail 24 = .ok (.irem, 1) := by decide +kernel
theorem dX12_rail_25 : decode cX12_rail 25 = .ok (.istore_n 3, 1) := by decide +kernel
theorem dX12_rail_26 : decode cX12_rail 26 = .ok (.iload_n 3, 1) := by decide +kernel
theorem dX12_rail_27 : decode cX12_rail 27 = .ok (.aload_n 0, 1) := by decide +kernel
theorem dX12_rail_28 : decode cX12_rail 28 = .ok (.getfield 253, 3) := by decide +kernel
theorem dX12_rail_31 : decode cX12_rail 31 = .ok (.if_icmp .ge 30, 3) := by decide +kernel
theorem dX12_rail_34 : decode cX12_rail 34 = .ok (.iload_n 2, 1) := by decide +kernel
theorem dX12_rail_35 : decode cX12_rail 35 = .ok (.sipush 500, 3) := by decide +kernel
theorem dX12_rail_38 : decode cX12_rail 38 = .ok (.if_icmp .ge 23, 3) := by decide +kernel
theorem dX12_rail_41 : decode cX12_rail 41 = .ok (.aload_n 0, 1) := by decide +kernel
theorem dX12_rail_42 : decode cX12_rail 42 = .ok (.iconst 5, 1) := by decide +kernel
theorem dX12_rail_43 : decode cX12_rail 43 = .ok (.bipush 12, 2) := by decide +kernel
theorem dX12_rail_45 : decode cX12_rail 45 = .ok (.iload_n 2, 1) := by decide +kernel
theorem dX12_rail_46 : decode cX12_rail 46 = .ok (.bipush 100, 2) := by decide +kernel
theorem dX12_rail_48 : decode cX12_rail 48 = .ok (.idiv, 1) := by decide +kernel
theorem dX12_rail_49 : decode cX12_rail 49 = .ok (.iconst 1, 1) := by decide +kernel
theorem dX12_rail_50 : decode cX12_rail 50 = .ok (.isub, 1) := by decide +kernel
theorem dX12_rail_51 : decode cX12_rail 51 = .ok (.imul, 1) := by decide +kernel
theorem dX12_rail_52 : decode cX12_rail 52 = .ok (.iadd, 1) := by decide +kernel
theorem dX12_rail_53 : decode cX12_rail 53 = .ok (.iload_n 3, 1) := by decide +kernel
theorem dX12_rail_54 : decode cX12_rail 54 = .ok (.iadd, 1) := by decide +kernel
theorem dX12_rail_55 : decode cX12_rail 55 = .ok (.invokevirtual 246, 3) := by decide +kernel
theorem dX12_rail_58 : decode cX12_rail 58 = .ok (.goto 4, 3) := by decide +kernel
theorem dX12_rail_61 : decode cX12_rail 61 = .ok (.iconst (-1), 1) := by decide +kernel
theorem dX12_rail_62 : decode cX12_rail 62 = .ok (.ireturn, 1) := by decide +kernel
theorem dX12_rail_63 : decode cX12_rail 63 = .ok (.iload_n 2, 1) := by decide +kernel
theorem dX12_rail_64 : decode cX12_rail 64 = .ok (.bipush 10, 2) := by decide +kernel
theorem dX12_rail_66 : decode cX12_rail 66 = .ok (.irem, 1) := by decide +kernel
theorem dX12_rail_67 : decode cX12_rail 67 = .ok (.istore_n 3, 1) := by decide +kernel
theorem dX12_rail_68 : decode cX12_rail 68 = .ok (.iload_n 2, 1) := by decide +kernel
theorem dX12_rail_69 : decode cX12_rail 69 = .ok (.bipush 10, 2) := by decide +kernel
theorem dX12_rail_71 : decode cX12_rail 71 = .ok (.idiv, 1) := by decide +kernel
theorem dX12_rail_72 : decode cX12_rail 72 = .ok (.tableswitch 160 0 6 #[44, 63, 63, 95, 95, 127, 127], 44) := by decide +kernel
theorem dX12_rail_116 : decode cX12_rail 116 = .ok (.iload_n 2, 1) := by decide +kernel
theorem dX12_rail_117 : decode cX12_rail 117 = .ok (.iconst 0, 1) := by decide +kernel
theorem dX12_rail_118 : decode cX12_rail 118 = .ok (.iconst 4, 1) := by decide +kernel
theorem dX12_rail_119 : decode cX12_rail 119 = .ok (.invokestatic 108, 3) := by decide +kernel
theorem dX12_rail_122 : decode cX12_rail 122 = .ok (.ifCond .eq 11, 3) := by decide +kernel
theorem dX12_rail_125 : decode cX12_rail 125 = .ok (.aload_n 0, 1) := by decide +kernel
theorem dX12_rail_126 : decode cX12_rail 126 = .ok (.iload_n 2, 1) := by decide +kernel
theorem dX12_rail_127 : decode cX12_rail 127 = .ok (.invokevirtual 246, 3) := by decide +kernel
theorem dX12_rail_130 : decode cX12_rail 130 = .ok (.goto 4, 3) := by decide +kernel
theorem dX12_rail_133 : decode cX12_rail 133 = .ok (.iconst (-1), 1) := by decide +kernel
theorem dX12_rail_134 : decode cX12_rail 134 = .ok (.ireturn, 1) := by decide +kernel
theorem dX12_rail_135 : decode cX12_rail 135 = .ok (.iload_n 3, 1) := by decide +kernel
theorem dX12_rail_136 : decode cX12_rail 136 = .ok (.aload_n 0, 1) := by decide +kernel
theorem dX12_rail_137 : decode cX12_rail 137 = .ok (.getfield 259, 3) := by decide +kernel
theorem dX12_rail_140 : decode cX12_rail 140 = .ok (.if_icmp .ge 25, 3) := by decide +kernel
theorem dX12_rail_143 : decode cX12_rail 143 = .ok (.aload_n 0, 1) := by decide +kernel
theorem dX12_rail_144 : decode cX12_rail 144 = .ok (.iload_n 2, 1) := by decide +kernel
theorem dX12_rail_145 : decode cX12_rail 145 = .ok (.bipush 20, 2) := by decide +kernel
theorem dX12_rail_147 : decode cX12_rail 147 = .ok (.if_icmp .ge 8, 3) := by decide +kernel
theorem dX12_rail_150 : decode cX12_rail 150 = .ok (.bipush 81, 2) := by decide +kernel
theorem dX12_rail_152 : decode cX12_rail 152 = .ok (.goto 5, 3) := by decide +kernel
theorem dX12_rail_155 : decode cX12_rail 155 = .ok (.bipush 85, 2) := by decide +kernel
theorem dX12_rail_157 : decode cX12_rail 157 = .ok (.iload_n 3, 1) := by decide +kernel
theorem dX12_rail_158 : decode cX12_rail 158 = .ok (.iadd, 1) := by decide +kernel
theorem dX12_rail_159 : decode cX12_rail 159 = .ok (.invokevirtual 246, 3) := by decide +kernel
theorem dX12_rail_162 : decode cX12_rail 162 = .ok (.goto 4, 3) := by decide +kernel
theorem dX12_rail_165 : decode cX12_rail 165 = .ok (.iconst (-1), 1) := by decide +kernel
theorem dX12_rail_166 : decode cX12_rail 166 = .ok (.ireturn, 1) := by decide +kernel
theorem dX12_rail_167 : decode cX12_rail 167 = .ok (.iload_n 3, 1) := by decide +kernel
theorem dX12_rail_168 : decode cX12_rail 168 = .ok (.aload_n 0, 1) := by decide +kernel
theorem dX12_rail_169 : decode cX12_rail 169 = .ok (.getfield 256, 3) := by decide +kernel
theorem dX12_rail_172 : decode cX12_rail 172 = .ok (.if_icmp .ge 25, 3) := by decide +kernel
theorem dX12_rail_175 : decode cX12_rail 175 = .ok (.aload_n 0, 1) := by decide +kernel
theorem dX12_rail_176 : decode cX12_rail 176 = .ok (.iload_n 2, 1) := by decide +kernel
theorem dX12_rail_177 : decode cX12_rail 177 = .ok (.bipush 40, 2) := by decide +kernel
theorem dX12_rail_179 : decode cX12_rail 179 = .ok (.if_icmp .ge 8, 3) := by decide +kernel
theorem dX12_rail_182 : decode cX12_rail 182 = .ok (.bipush 53, 2) := by decide +kernel
theorem dX12_rail_184 : decode cX12_rail 184 = .ok (.goto 5, 3) := by decide +kernel
theorem dX12_rail_187 : decode cX12_rail 187 = .ok (.bipush 61, 2) := by decide +kernel
theorem dX12_rail_189 : decode cX12_rail 189 = .ok (.iload_n 3, 1) := by decide +kernel
theorem dX12_rail_190 : decode cX12_rail 190 = .ok (.iadd, 1) := by decide +kernel
theorem dX12_rail_191 : decode cX12_rail 191 = .ok (.invokevirtual 246, 3) := by decide +kernel
theorem dX12_rail_194 : decode cX12_rail 194 = .ok (.goto 4, 3) := by decide +kernel
theorem dX12_rail_197 : decode cX12_rail 197 = .ok (.iconst (-1), 1) := by decide +kernel
theorem dX12_rail_198 : decode cX12_rail 198 = .ok (.ireturn, 1) := by decide +kernel
theorem dX12_rail_199 : decode cX12_rail 199 = .ok (.iload_n 3, 1) := by decide +kernel
theorem dX12_rail_200 : decode cX12_rail 200 = .ok (.aload_n 0, 1) := by decide +kernel
theorem dX12_rail_201 : decode cX12_rail 201 = .ok (.iconst 3, 1) := by decide +kernel
theorem dX12_rail_202 : decode cX12_rail 202 = .ok (.invokevirtual 246, 3) := by decide +kernel
theorem dX12_rail_205 : decode cX12_rail 205 = .ok (.if_icmp .ge 25, 3) := by decide +kernel
theorem dX12_rail_208 : decode cX12_rail 208 = .ok (.aload_n 0, 1) := by decide +kernel
theorem dX12_rail_209 : decode cX12_rail 209 = .ok (.iload_n 2, 1) := by decide +kernel
theorem dX12_rail_210 : decode cX12_rail 210 = .ok (.bipush 60, 2) := by decide +kernel
theorem dX12_rail_212 : decode cX12_rail 212 = .ok (.if_icmp .ge 8, 3) := by decide +kernel
theorem dX12_rail_215 : decode cX12_rail 215 = .ok (.bipush 69, 2) := by decide +kernel
theorem dX12_rail_217 : decode cX12_rail 217 = .ok (.goto 5, 3) := by decide +kernel
theorem dX12_rail_220 : decode cX12_rail 220 = .ok (.bipush 75, 2) := by decide +kernel
theorem dX12_rail_222 : decode cX12_rail 222 = .ok (.iload_n 3, 1) := by decide +kernel
theorem dX12_rail_223 : decode cX12_rail 223 = .ok (.iadd, 1) := by decide +kernel
theorem dX12_rail_224 : decode cX12_rail 224 = .ok (.invokevirtual 246, 3) := by decide +kernel
theorem dX12_rail_227 : decode cX12_rail 227 = .ok (.goto 4, 3) := by decide +kernel
theorem dX12_rail_230 : decode cX12_rail 230 = .ok (.iconst (-1), 1) := by decide +kernel
theorem dX12_rail_231 : decode cX12_rail 231 = .ok (.ireturn, 1) := by decide +kernel
theorem dX12_rail_232 : decode cX12_rail 232 = .ok (.iconst (-1), 1) := by decide +kernel
theorem dX12_rail_233 : decode cX12_rail 233 = .ok (.ireturn, 1) := by decide +kernel
theorem dX12_deeds_0 : decode cX12_deeds 0 = .ok (.aload_n 0, 1) := by decide +kernel
theorem dX12_deeds_1 : decode cX12_deeds 1 = .ok (.getfield 29, 3) := by decide +kernel
theorem dX12_deeds_4 : decode cX12_deeds 4 = .ok (.bipush 121, 2) := by decide +kernel
theorem dX12_deeds_6 : decode cX12_deeds 6 = .ok (.aload_n 0, 1) := by decide +kernel
theorem dX12_deeds_7 : decode cX12_deeds 7 = .ok (.getfield 285, 3) := by decide +kernel
theorem dX12_deeds_10 : decode cX12_deeds 10 = .ok (.imul, 1) := by decide +kernel
theorem dX12_deeds_11 : decode cX12_deeds 11 = .ok (.iaload, 1) := by decide +kernel
theorem dX12_deeds_12 : decode cX12_deeds 12 = .ok (.ireturn, 1) := by decide +kernel
theorem dX12_deedOf_0 : decode cX12_deedOf 0 = .ok (.aload_n 0, 1) := by decide +kernel
theorem dX12_deedOf_1 : decode cX12_deedOf 1 = .ok (.getfield 29, 3) := by decide +kernel
theorem dX12_deedOf_4 : decode cX12_deedOf 4 = .ok (.bipush 121, 2) := by decide +kernel
theorem dX12_deedOf_6 : decode cX12_deedOf 6 = .ok (.aload_n 0, 1) := by decide +kernel
theorem dX12_deedOf_7 : decode cX12_deedOf 7 = .ok (.getfield 285, 3) := by decide +kernel
theorem dX12_deedOf_10 : decode cX12_deedOf 10 = .ok (.imul, 1) := by decide +kernel
theorem dX12_deedOf_11 : decode cX12_deedOf 11 = .ok (.iconst 1, 1) := by decide +kernel
theorem dX12_deedOf_12 : decode cX12_deedOf 12 = .ok (.iadd, 1) := by decide +kernel
theorem dX12_deedOf_13 : decode cX12_deedOf 13 = .ok (.iconst 3, 1) := by decide +kernel
theorem dX12_deedOf_14 : decode cX12_deedOf 14 = .ok (.iload_n 1, 1) := by decide +kernel
theorem dX12_deedOf_15 : decode cX12_deedOf 15 = .ok (.imul, 1) := by decide +kernel
theorem dX12_deedOf_16 : decode cX12_deedOf 16 = .ok (.iadd, 1) := by decide +kernel
theorem dX12_deedOf_17 : decode cX12_deedOf 17 = .ok (.iload_n 2, 1) := by decide +kernel
theorem dX12_deedOf_18 : decode cX12_deedOf 18 = .ok (.iadd, 1) := by decide +kernel
theorem dX12_deedOf_19 : decode cX12_deedOf 19 = .ok (.iaload, 1) := by decide +kernel
theorem dX12_deedOf_20 : decode cX12_deedOf 20 = .ok (.ireturn, 1) := by decide +kernel
theorem dX12_hasMonth_0 : decode cX12_hasMonth 0 = .ok (.aload_n 0, 1) := by decide +kernel
theorem dX12_hasMonth_1 : decode cX12_hasMonth 1 = .ok (.iload_n 1, 1) := by decide +kernel
theorem dX12_hasMonth_2 : decode cX12_hasMonth 2 = .ok (.putfield 285, 3) := by decide +kernel
theorem dX12_hasMonth_5 : decode cX12_hasMonth 5 = .ok (.aload_n 0, 1) := by decide +kernel
theorem dX12_hasMonth_6 : decode cX12_hasMonth 6 = .ok (.iconst 1, 1) := by decide +kernel
theorem dX12_hasMonth_7 : decode cX12_hasMonth 7 = .ok (.iload_n 1, 1) := by decide +kernel
theorem dX12_hasMonth_8 : decode cX12_hasMonth 8 = .ok (.invokevirtual 233, 3) := by decide +kernel
theorem dX12_hasMonth_11 : decode cX12_hasMonth 11 = .ok (.ireturn, 1) := by decide +kernel
theorem dX12_deed_0 : decode cX12_deed 0 = .ok (.aload_n 0, 1) := by decide +kernel
theorem dX12_deed_1 : decode cX12_deed 1 = .ok (.iconst 0, 1) := by decide +kernel
theorem dX12_deed_2 : decode cX12_deed 2 = .ok (.putfield 96, 3) := by decide +kernel
theorem dX12_deed_5 : decode cX12_deed 5 = .ok (.aload_n 0, 1) := by decide +kernel
theorem dX12_deed_6 : decode cX12_deed 6 = .ok (.iload_n 1, 1) := by decide +kernel
theorem dX12_deed_7 : decode cX12_deed 7 = .ok (.invokevirtual 288, 3) := by decide +kernel
theorem dX12_deed_10 : decode cX12_deed 10 = .ok (.ifCond .ne 6, 3) := by decide +kernel
theorem dX12_deed_13 : decode cX12_deed 13 = .ok (.bipush (-2), 2) := by decide +kernel
theorem dX12_deed_15 : decode cX12_deed 15 = .ok (.ireturn, 1) := by decide +kernel
theorem dX12_deed_16 : decode cX12_deed 16 = .ok (.iload_n 2, 1) := by decide +kernel
theorem dX12_deed_17 : decode cX12_deed 17 = .ok (.iconst (-1), 1) := by decide +kernel
theorem dX12_deed_18 : decode cX12_deed 18 = .ok (.if_icmp .ne 17, 3) := by decide +kernel
theorem dX12_deed_21 : decode cX12_deed 21 = .ok (.iload_n 3, 1) := by decide +kernel
theorem dX12_deed_22 : decode cX12_deed 22 = .ok (.ifCond .ne 10, 3) := by decide +kernel
theorem dX12_deed_25 : decode cX12_deed 25 = .ok (.aload_n 0, 1) := by decide +kernel
theorem dX12_deed_26 : decode cX12_deed 26 = .ok (.invokevirtual 291, 3) := by decide +kernel
theorem dX12_deed_29 : decode cX12_deed 29 = .ok (.goto 5, 3) := by decide +kernel
theorem dX12_deed_32 : decode cX12_deed 32 = .ok (.bipush (-2), 2) := by decide +kernel
theorem dX12_deed_34 : decode cX12_deed 34 = .ok (.ireturn, 1) := by decide +kernel
theorem dX12_deed_35 : decode cX12_deed 35 = .ok (.iload_n 2, 1) := by decide +kernel
theorem dX12_deed_36 : decode cX12_deed 36 = .ok (.iconst 0, 1) := by decide +kernel
theorem dX12_deed_37 : decode cX12_deed 37 = .ok (.aload_n 0, 1) := by decide +kernel
theorem dX12_deed_38 : decode cX12_deed 38 = .ok (.invokevirtual 291, 3) := by decide +kernel
theorem dX12_deed_41 : decode cX12_deed 41 = .ok (.iconst 1, 1) := by decide +kernel
theorem dX12_deed_42 : decode cX12_deed 42 = .ok (.isub, 1) := by decide +kernel
theorem dX12_deed_43 : decode cX12_deed 43 = .ok (.invokestatic 108, 3) := by decide +kernel
theorem dX12_deed_46 : decode cX12_deed 46 = .ok (.ifCond .eq 21, 3) := by decide +kernel
theorem dX12_deed_49 : decode cX12_deed 49 = .ok (.iload_n 3, 1) := by decide +kernel
theorem dX12_deed_50 : decode cX12_deed 50 = .ok (.iconst 0, 1) := by decide +kernel
theorem dX12_deed_51 : decode cX12_deed 51 = .ok (.iconst 2, 1) := by decide +kernel
theorem dX12_deed_52 : decode cX12_deed 52 = .ok (.invokestatic 108, 3) := by decide +kernel
theorem dX12_deed_55 : decode cX12_deed 55 = .ok (.ifCond .eq 12, 3) := by decide +kernel
theorem dX12_deed_58 : decode cX12_deed 58 = .ok (.aload_n 0, 1) := by decide +kernel
theorem dX12_deed_59 : decode cX12_deed 59 = .ok (.iload_n 2, 1) := by decide +kernel
theorem dX12_deed_60 : decode cX12_deed 60 = .ok (.iload_n 3, 1) := by decide +kernel
theorem dX12_deed_61 : decode cX12_deed 61 = .ok (.invokevirtual 294, 3) := by decide +kernel
theorem dX12_deed_64 : decode cX12_deed 64 = .ok (.goto 5, 3) := by decide +kernel
theorem dX12_deed_67 : decode cX12_deed 67 = .ok (.bipush (-2), 2) := by decide +kernel
theorem dX12_deed_69 : decode cX12_deed 69 = .ok (.ireturn, 1) := by decide +kernel
theorem dX12_opens_0 : decode cX12_opens 0 = .ok (.iconst 0, 1) := by decide +kernel
theorem dX12_opens_1 : decode cX12_opens 1 = .ok (.istore_n 1, 1) := by decide +kernel
theorem dX12_opens_2 : decode cX12_opens 2 = .ok (.iload_n 1, 1) := by decide +kernel
theorem dX12_opens_3 : decode cX12_opens 3 = .ok (.iconst 4, 1) := by decide +kernel
theorem dX12_opens_4 : decode cX12_opens 4 = .ok (.if_icmp .ge 51, 3) := by decide +kernel
theorem dX12_opens_7 : decode cX12_opens 7 = .ok (.aload_n 0, 1) := by decide +kernel
theorem dX12_opens_8 : decode cX12_opens 8 = .ok (.getfield 44, 3) := by decide +kernel
theorem dX12_opens_11 : decode cX12_opens 11 = .ok (.iload_n 1, 1) := by decide +kernel
theorem dX12_opens_12 : decode cX12_opens 12 = .ok (.aload_n 0, 1) := by decide +kernel
theorem dX12_opens_13 : decode cX12_opens 13 = .ok (.bipush 85, 2) := by decide +kernel
theorem dX12_opens_15 : decode cX12_opens 15 = .ok (.iload_n 1, 1) := by decide +kernel
theorem dX12_opens_16 : decode cX12_opens 16 = .ok (.iadd, 1) := by decide +kernel
theorem dX12_opens_17 : decode cX12_opens 17 = .ok (.invokevirtual 246, 3) := by decide +kernel
theorem dX12_opens_20 : decode cX12_opens 20 = .ok (.iastore, 1) := by decide +kernel
theorem dX12_opens_21 : decode cX12_opens 21 = .ok (.aload_n 0, 1) := by decide +kernel
theorem dX12_opens_22 : decode cX12_opens 22 = .ok (.getfield 47, 3) := by decide +kernel
theorem dX12_opens_25 : decode cX12_opens 25 = .ok (.iload_n 1, 1) := by decide +kernel
theorem dX12_opens_26 : decode cX12_opens 26 = .ok (.iconst 0, 1) := by decide +kernel
theorem dX12_opens_27 : decode cX12_opens 27 = .ok (.iastore, 1) := by decide +kernel
theorem dX12_opens_28 : decode cX12_opens 28 = .ok (.aload_n 0, 1) := by decide +kernel
theorem dX12_opens_29 : decode cX12_opens 29 = .ok (.getfield 50, 3) := by decide +kernel
theorem dX12_opens_32 : decode cX12_opens 32 = .ok (.iload_n 1, 1) := by decide +kernel
theorem dX12_opens_33 : decode cX12_opens 33 = .ok (.iconst 0, 1) := by decide +kernel
theorem dX12_opens_34 : decode cX12_opens 34 = .ok (.iastore, 1) := by decide +kernel
theorem dX12_opens_35 : decode cX12_opens 35 = .ok (.aload_n 0, 1) := by decide +kernel
theorem dX12_opens_36 : decode cX12_opens 36 = .ok (.getfield 53, 3) := by decide +kernel
theorem dX12_opens_39 : decode cX12_opens 39 = .ok (.iload_n 1, 1) := by decide +kernel
theorem dX12_opens_40 : decode cX12_opens 40 = .ok (.iconst 0, 1) := by decide +kernel
theorem dX12_opens_41 : decode cX12_opens 41 = .ok (.iastore, 1) := by decide +kernel
theorem dX12_opens_42 : decode cX12_opens 42 = .ok (.aload_n 0, 1) := by decide +kernel
theorem dX12_opens_43 : decode cX12_opens 43 = .ok (.getfield 56, 3) := by decide +kernel
theorem dX12_opens_46 : decode cX12_opens 46 = .ok (.iload_n 1, 1) := by decide +kernel
theorem dX12_opens_47 : decode cX12_opens 47 = .ok (.iconst 0, 1) := by decide +kernel
theorem dX12_opens_48 : decode cX12_opens 48 = .ok (.iastore, 1) := by decide +kernel
theorem dX12_opens_49 : decode cX12_opens 49 = .ok (.iinc 1 1, 3) := by decide +kernel
theorem dX12_opens_52 : decode cX12_opens 52 = .ok (.goto (-50), 3) := by decide +kernel
theorem dX12_opens_55 : decode cX12_opens 55 = .ok (.iconst 0, 1) := by decide +kernel
theorem dX12_opens_56 : decode cX12_opens 56 = .ok (.istore_n 1, 1) := by decide +kernel
theorem dX12_opens_57 : decode cX12_opens 57 = .ok (.iload_n 1, 1) := by decide +kernel
theorem dX12_opens_58 : decode cX12_opens 58 = .ok (.bipush 8, 2) := by decide +kernel
theorem dX12_opens_60 : decode cX12_opens 60 = .ok (.if_icmp .ge 42, 3) := by decide +kernel
theorem dX12_opens_63 : decode cX12_opens 63 = .ok (.aload_n 0, 1) := by decide +kernel
theorem dX12_opens_64 : decode cX12_opens 64 = .ok (.getfield 59, 3) := by decide +kernel
theorem dX12_opens_67 : decode cX12_opens 67 = .ok (.iload_n 1, 1) := by decide +kernel
theorem dX12_opens_68 : decode cX12_opens 68 = .ok (.iconst 0, 1) := by decide +kernel
theorem dX12_opens_69 : decode cX12_opens 69 = .ok (.iastore, 1) := by decide +kernel
theorem dX12_opens_70 : decode cX12_opens 70 = .ok (.iconst 0, 1) := by decide +kernel
theorem dX12_opens_71 : decode cX12_opens 71 = .ok (.istore_n 2, 1) := by decide +kernel
theorem dX12_opens_72 : decode cX12_opens 72 = .ok (.iload_n 2, 1) := by decide +kernel
theorem dX12_opens_73 : decode cX12_opens 73 = .ok (.bipush 10, 2) := by decide +kernel
theorem dX12_opens_75 : decode cX12_opens 75 = .ok (.if_icmp .ge 21, 3) := by decide +kernel
theorem dX12_opens_78 : decode cX12_opens 78 = .ok (.aload_n 0, 1) := by decide +kernel
theorem dX12_opens_79 : decode cX12_opens 79 = .ok (.getfield 62, 3) := by decide +kernel
theorem dX12_opens_82 : decode cX12_opens 82 = .ok (.bipush 10, 2) := by decide +kernel
theorem dX12_opens_84 : decode cX12_opens 84 = .ok (.iload_n 1, 1) := by decide +kernel
theorem dX12_opens_85 : decode cX12_opens 85 = .ok (.imul, 1) := by decide +kernel
theorem dX12_opens_86 : decode cX12_opens 86 = .ok (.iload_n 2, 1) := by decide +kernel
theorem dX12_opens_87 : decode cX12_opens 87 = .ok (.iadd, 1) := by decide +kernel
theorem dX12_opens_88 : decode cX12_opens 88 = .ok (.iconst (-1), 1) := by decide +kernel
theorem dX12_opens_89 : decode cX12_opens 89 = .ok (.iastore, 1) := by decide +kernel
theorem dX12_opens_90 : decode cX12_opens 90 = .ok (.iinc 2 1, 3) := by decide +kernel
theorem dX12_opens_93 : decode cX12_opens 93 = .ok (.goto (-21), 3) := by decide +kernel
theorem dX12_opens_96 : decode cX12_opens 96 = .ok (.iinc 1 1, 3) := by decide +kernel
theorem dX12_opens_99 : decode cX12_opens 99 = .ok (.goto (-42), 3) := by decide +kernel
theorem dX12_opens_102 : decode cX12_opens 102 = .ok (.return_, 1) := by decide +kernel
theorem dX12_rides_0 : decode cX12_rides 0 = .ok (.aload_n 0, 1) := by decide +kernel
theorem dX12_rides_1 : decode cX12_rides 1 = .ok (.iload_n 2, 1) := by decide +kernel
theorem dX12_rides_2 : decode cX12_rides 2 = .ok (.invokevirtual 297, 3) := by decide +kernel
theorem dX12_rides_5 : decode cX12_rides 5 = .ok (.ifCond .eq 19, 3) := by decide +kernel
theorem dX12_rides_8 : decode cX12_rides 8 = .ok (.aload_n 0, 1) := by decide +kernel
theorem dX12_rides_9 : decode cX12_rides 9 = .ok (.iconst 5, 1) := by decide +kernel
theorem dX12_rides_10 : decode cX12_rides 10 = .ok (.iload_n 2, 1) := by decide +kernel
theorem dX12_rides_11 : decode cX12_rides 11 = .ok (.iadd, 1) := by decide +kernel
theorem dX12_rides_12 : decode cX12_rides 12 = .ok (.invokevirtual 246, 3) := by decide +kernel
theorem dX12_rides_15 : decode cX12_rides 15 = .ok (.aload_n 0, 1) := by decide +kernel
theorem dX12_rides_16 : decode cX12_rides 16 = .ok (.getfield 44, 3) := by decide +kernel
theorem dX12_rides_19 : decode cX12_rides 19 = .ok (.iload_n 1, 1) := by decide +kernel
theorem dX12_rides_20 : decode cX12_rides 20 = .ok (.iaload, 1) := by decide +kernel
theorem dX12_rides_21 : decode cX12_rides 21 = .ok (.if_icmp .eq 5, 3) := by decide +kernel
theorem dX12_rides_24 : decode cX12_rides 24 = .ok (.iconst 0, 1) := by decide +kernel
theorem dX12_rides_25 : decode cX12_rides 25 = .ok (.ireturn, 1) := by decide +kernel
theorem dX12_rides_26 : decode cX12_rides 26 = .ok (.aload_n 0, 1) := by decide +kernel
theorem dX12_rides_27 : decode cX12_rides 27 = .ok (.iload_n 2, 1) := by decide +kernel
theorem dX12_rides_28 : decode cX12_rides 28 = .ok (.aload_n 0, 1) := by decide +kernel
theorem dX12_rides_29 : decode cX12_rides 29 = .ok (.getfield 47, 3) := by decide +kernel
theorem dX12_rides_32 : decode cX12_rides 32 = .ok (.iload_n 1, 1) := by decide +kernel
theorem dX12_rides_33 : decode cX12_rides 33 = .ok (.iaload, 1) := by decide +kernel
theorem dX12_rides_34 : decode cX12_rides 34 = .ok (.invokevirtual 265, 3) := by decide +kernel
theorem dX12_rides_37 : decode cX12_rides 37 = .ok (.istore_n 3, 1) := by decide +kernel
theorem dX12_rides_38 : decode cX12_rides 38 = .ok (.iload_n 3, 1) := by decide +kernel
theorem dX12_rides_39 : decode cX12_rides 39 = .ok (.aload_n 0, 1) := by decide +kernel
theorem dX12_rides_40 : decode cX12_rides 40 = .ok (.bipush 41, 2) := by decide +kernel
theorem dX12_rides_42 : decode cX12_rides 42 = .ok (.iload_n 2, 1) := by decide +kernel
theorem dX12_rides_43 : decode cX12_rides 43 = .ok (.iadd, 1) := by decide +kernel
theorem dX12_rides_44 : decode cX12_rides 44 = .ok (.invokevirtual 246, 3) := by decide +kernel
theorem dX12_rides_47 : decode cX12_rides 47 = .ok (.iadd, 1) := by decide +kernel
theorem dX12_rides_48 : decode cX12_rides 48 = .ok (.sipush 299, 3) := by decide +kernel
theorem dX12_rides_51 : decode cX12_rides 51 = .ok (.if_icmp .le 5, 3) := by decide +kernel
theorem dX12_rides_54 : decode cX12_rides 54 = .ok (.iconst 0, 1) := by decide +kernel
theorem dX12_rides_55 : decode cX12_rides 55 = .ok (.ireturn, 1) := by decide +kernel
theorem dX12_rides_56 : decode cX12_rides 56 = .ok (.aload_n 0, 1) := by decide +kernel
theorem dX12_rides_57 : decode cX12_rides 57 = .ok (.getfield 56, 3) := by decide +kernel
theorem dX12_rides_60 : decode cX12_rides 60 = .ok (.iload_n 1, 1) := by decide +kernel
theorem dX12_rides_61 : decode cX12_rides 61 = .ok (.dup2, 1) := by decide +kernel
theorem dX12_rides_62 : decode cX12_rides 62 = .ok (.iaload, 1) := by decide +kernel
theorem dX12_rides_63 : decode cX12_rides 63 = .ok (.iload_n 3, 1) := by decide +kernel
theorem dX12_rides_64 : decode cX12_rides 64 = .ok (.aload_n 0, 1) := by decide +kernel
theorem dX12_rides_65 : decode cX12_rides 65 = .ok (.getfield 47, 3) := by decide +kernel
theorem dX12_rides_68 : decode cX12_rides 68 = .ok (.iload_n 1, 1) := by decide +kernel
theorem dX12_rides_69 : decode cX12_rides 69 = .ok (.iaload, 1) := by decide +kernel
theorem dX12_rides_70 : decode cX12_rides 70 = .ok (.isub, 1) := by decide +kernel
theorem dX12_rides_71 : decode cX12_rides 71 = .ok (.iadd, 1) := by decide +kernel
theorem dX12_rides_72 : decode cX12_rides 72 = .ok (.iastore, 1) := by decide +kernel
theorem dX12_rides_73 : decode cX12_rides 73 = .ok (.aload_n 0, 1) := by decide +kernel
theorem dX12_rides_74 : decode cX12_rides 74 = .ok (.getfield 53, 3) := by decide +kernel
theorem dX12_rides_77 : decode cX12_rides 77 = .ok (.iload_n 1, 1) := by decide +kernel
theorem dX12_rides_78 : decode cX12_rides 78 = .ok (.dup2, 1) := by decide +kernel
theorem dX12_rides_79 : decode cX12_rides 79 = .ok (.iaload, 1) := by decide +kernel
theorem dX12_rides_80 : decode cX12_rides 80 = .ok (.aload_n 0, 1) := by decide +kernel
theorem dX12_rides_81 : decode cX12_rides 81 = .ok (.bipush 41, 2) := by decide +kernel
theorem dX12_rides_83 : decode cX12_rides 83 = .ok (.iload_n 2, 1) := by decide +kernel
theorem dX12_rides_84 : decode cX12_rides 84 = .ok (.iadd, 1) := by decide +kernel
theorem dX12_rides_85 : decode cX12_rides 85 = .ok (.invokevirtual 246, 3) := by decide +kernel
theorem dX12_rides_88 : decode cX12_rides 88 = .ok (.iadd, 1) := by decide +kernel
theorem dX12_rides_89 : decode cX12_rides 89 = .ok (.iastore, 1) := by decide +kernel
theorem dX12_rides_90 : decode cX12_rides 90 = .ok (.aload_n 0, 1) := by decide +kernel
theorem dX12_rides_91 : decode cX12_rides 91 = .ok (.getfield 47, 3) := by decide +kernel
theorem dX12_rides_94 : decode cX12_rides 94 = .ok (.iload_n 1, 1) := by decide +kernel
theorem dX12_rides_95 : decode cX12_rides 95 = .ok (.iload_n 3, 1) := by decide +kernel
theorem dX12_rides_96 : decode cX12_rides 96 = .ok (.aload_n 0, 1) := by decide +kernel
theorem dX12_rides_97 : decode cX12_rides 97 = .ok (.bipush 41, 2) := by decide +kernel
theorem dX12_rides_99 : decode cX12_rides 99 = .ok (.iload_n 2, 1) := by decide +kernel
theorem dX12_rides_100 : decode cX12_rides 100 = .ok (.iadd, 1) := by decide +kernel
theorem dX12_rides_101 : decode cX12_rides 101 = .ok (.invokevirtual 246, 3) := by decide +kernel
theorem dX12_rides_104 : decode cX12_rides 104 = .ok (.iadd, 1) := by decide +kernel
theorem dX12_rides_105 : decode cX12_rides 105 = .ok (.iastore, 1) := by decide +kernel
theorem dX12_rides_106 : decode cX12_rides 106 = .ok (.aload_n 0, 1) := by decide +kernel
theorem dX12_rides_107 : decode cX12_rides 107 = .ok (.getfield 44, 3) := by decide +kernel
theorem dX12_rides_110 : decode cX12_rides 110 = .ok (.iload_n 1, 1) := by decide +kernel
theorem dX12_rides_111 : decode cX12_rides 111 = .ok (.aload_n 0, 1) := by decide +kernel
theorem dX12_rides_112 : decode cX12_rides 112 = .ok (.bipush 17, 2) := by decide +kernel
theorem dX12_rides_114 : decode cX12_rides 114 = .ok (.iload_n 2, 1) := by decide +kernel
theorem dX12_rides_115 : decode cX12_rides 115 = .ok (.iadd, 1) := by decide +kernel
theorem dX12_rides_116 : decode cX12_rides 116 = .ok (.invokevirtual 246, 3) := by decide +kernel
theorem dX12_rides_119 : decode cX12_rides 119 = .ok (.iastore, 1) := by decide +kernel
theorem dX12_rides_120 : decode cX12_rides 120 = .ok (.iconst 1, 1) := by decide +kernel
theorem dX12_rides_121 : decode cX12_rides 121 = .ok (.ireturn, 1) := by decide +kernel
theorem dX12_waits_0 : decode cX12_waits 0 = .ok (.aload_n 0, 1) := by decide +kernel
theorem dX12_waits_1 : decode cX12_waits 1 = .ok (.getfield 47, 3) := by decide +kernel
theorem dX12_waits_4 : decode cX12_waits 4 = .ok (.iload_n 1, 1) := by decide +kernel
theorem dX12_waits_5 : decode cX12_waits 5 = .ok (.iaload, 1) := by decide +kernel
theorem dX12_waits_6 : decode cX12_waits 6 = .ok (.iload_n 2, 1) := by decide +kernel
theorem dX12_waits_7 : decode cX12_waits 7 = .ok (.iadd, 1) := by decide +kernel
theorem dX12_waits_8 : decode cX12_waits 8 = .ok (.sipush 299, 3) := by decide +kernel
theorem dX12_waits_11 : decode cX12_waits 11 = .ok (.if_icmp .le 5, 3) := by decide +kernel
theorem dX12_waits_14 : decode cX12_waits 14 = .ok (.iconst 0, 1) := by decide +kernel
theorem dX12_waits_15 : decode cX12_waits 15 = .ok (.ireturn, 1) := by decide +kernel
theorem dX12_waits_16 : decode cX12_waits 16 = .ok (.aload_n 0, 1) := by decide +kernel
theorem dX12_waits_17 : decode cX12_waits 17 = .ok (.getfield 47, 3) := by decide +kernel
theorem dX12_waits_20 : decode cX12_waits 20 = .ok (.iload_n 1, 1) := by decide +kernel
theorem dX12_waits_21 : decode cX12_waits 21 = .ok (.dup2, 1) := by decide +kernel
theorem dX12_waits_22 : decode cX12_waits 22 = .ok (.iaload, 1) := by decide +kernel
theorem dX12_waits_23 : decode cX12_waits 23 = .ok (.iload_n 2, 1) := by decide +kernel
theorem dX12_waits_24 : decode cX12_waits 24 = .ok (.iadd, 1) := by decide +kernel
theorem dX12_waits_25 : decode cX12_waits 25 = .ok (.iastore, 1) := by decide +kernel
theorem dX12_waits_26 : decode cX12_waits 26 = .ok (.aload_n 0, 1) := by decide +kernel
theorem dX12_waits_27 : decode cX12_waits 27 = .ok (.getfield 56, 3) := by decide +kernel
theorem dX12_waits_30 : decode cX12_waits 30 = .ok (.iload_n 1, 1) := by decide +kernel
theorem dX12_waits_31 : decode cX12_waits 31 = .ok (.dup2, 1) := by decide +kernel
theorem dX12_waits_32 : decode cX12_waits 32 = .ok (.iaload, 1) := by decide +kernel
theorem dX12_waits_33 : decode cX12_waits 33 = .ok (.iload_n 2, 1) := by decide +kernel
theorem dX12_waits_34 : decode cX12_waits 34 = .ok (.iadd, 1) := by decide +kernel
theorem dX12_waits_35 : decode cX12_waits 35 = .ok (.iastore, 1) := by decide +kernel
theorem dX12_waits_36 : decode cX12_waits 36 = .ok (.iconst 1, 1) := by decide +kernel
theorem dX12_waits_37 : decode cX12_waits 37 = .ok (.ireturn, 1) := by decide +kernel
theorem dX12_mayMark_0 : decode cX12_mayMark 0 = .ok (.aload_n 0, 1) := by decide +kernel
theorem dX12_mayMark_1 : decode cX12_mayMark 1 = .ok (.bipush 81, 2) := by decide +kernel
theorem dX12_mayMark_3 : decode cX12_mayMark 3 = .ok (.iload_n 1, 1) := by decide +kernel
theorem dX12_mayMark_4 : decode cX12_mayMark 4 = .ok (.iadd, 1) := by decide +kernel
theorem dX12_mayMark_5 : decode cX12_mayMark 5 = .ok (.invokevirtual 246, 3) := by decide +kernel
theorem dX12_mayMark_8 : decode cX12_mayMark 8 = .ok (.istore_n 3, 1) := by decide +kernel
theorem dX12_mayMark_9 : decode cX12_mayMark 9 = .ok (.aload_n 0, 1) := by decide +kernel
theorem dX12_mayMark_10 : decode cX12_mayMark 10 = .ok (.iload_n 2, 1) := by decide +kernel
theorem dX12_mayMark_11 : decode cX12_mayMark 11 = .ok (.invokevirtual 300, 3) := by decide +kernel
theorem dX12_mayMark_14 : decode cX12_mayMark 14 = .ok (.ifCond .eq 60, 3) := by decide +kernel
theorem dX12_mayMark_17 : decode cX12_mayMark 17 = .ok (.aload_n 0, 1) := by decide +kernel
theorem dX12_mayMark_18 : decode cX12_mayMark 18 = .ok (.bipush 53, 2) := by decide +kernel
theorem dX12_mayMark_20 : decode cX12_mayMark 20 = .ok (.iload_n 2, 1) := by decide +kernel
theorem dX12_mayMark_21 : decode cX12_mayMark 21 = .ok (.iadd, 1) := by decide +kernel
theorem dX12_mayMark_22 : decode cX12_mayMark 22 = .ok (.invokevirtual 246, 3) := by decide +kernel
theorem dX12_mayMark_25 : decode cX12_mayMark 25 = .ok (.aload_n 0, 1) := by decide +kernel
theorem dX12_mayMark_26 : decode cX12_mayMark 26 = .ok (.getfield 44, 3) := by decide +kernel
theorem dX12_mayMark_29 : decode cX12_mayMark 29 = .ok (.iload_n 1, 1) := by decide +kernel
theorem dX12_mayMark_30 : decode cX12_mayMark 30 = .ok (.iaload, 1) := by decide +kernel
theorem dX12_mayMark_31 : decode cX12_mayMark 31 = .ok (.if_icmp .ne 43, 3) := by decide +kernel
theorem dX12_mayMark_34 : decode cX12_mayMark 34 = .ok (.aload_n 0, 1) := by decide +kernel
theorem dX12_mayMark_35 : decode cX12_mayMark 35 = .ok (.bipush 61, 2) := by decide +kernel
theorem dX12_mayMark_37 : decode cX12_mayMark 37 = .ok (.iload_n 2, 1) := by decide +kernel
theorem dX12_mayMark_38 : decode cX12_mayMark 38 = .ok (.iadd, 1) := by decide +kernel
theorem dX12_mayMark_39 : decode cX12_mayMark 39 = .ok (.invokevirtual 246, 3) := by decide +kernel
theorem dX12_mayMark_42 : decode cX12_mayMark 42 = .ok (.iload_n 3, 1) := by decide +kernel
theorem dX12_mayMark_43 : decode cX12_mayMark 43 = .ok (.invokestatic 100, 3) := by decide +kernel
theorem dX12_mayMark_46 : decode cX12_mayMark 46 = .ok (.ifCond .eq 28, 3) := by decide +kernel
theorem dX12_mayMark_49 : decode cX12_mayMark 49 = .ok (.aload_n 0, 1) := by decide +kernel
theorem dX12_mayMark_50 : decode cX12_mayMark 50 = .ok (.getfield 59, 3) := by decide +kernel
theorem dX12_mayMark_53 : decode cX12_mayMark 53 = .ok (.iload_n 2, 1) := by decide +kernel
theorem dX12_mayMark_54 : decode cX12_mayMark 54 = .ok (.iaload, 1) := by decide +kernel
theorem dX12_mayMark_55 : decode cX12_mayMark 55 = .ok (.iload_n 3, 1) := by decide +kernel
theorem dX12_mayMark_56 : decode cX12_mayMark 56 = .ok (.invokestatic 100, 3) := by decide +kernel
theorem dX12_mayMark_59 : decode cX12_mayMark 59 = .ok (.ifCond .ne 15, 3) := by decide +kernel
theorem dX12_mayMark_62 : decode cX12_mayMark 62 = .ok (.aload_n 0, 1) := by decide +kernel
theorem dX12_mayMark_63 : decode cX12_mayMark 63 = .ok (.getfield 47, 3) := by decide +kernel
theorem dX12_mayMark_66 : decode cX12_mayMark 66 = .ok (.iload_n 1, 1) := by decide +kernel
theorem dX12_mayMark_67 : decode cX12_mayMark 67 = .ok (.iaload, 1) := by decide +kernel
theorem dX12_mayMark_68 : decode cX12_mayMark 68 = .ok (.sipush 299, 3) := by decide +kernel
theorem dX12_mayMark_71 : decode cX12_mayMark 71 = .ok (.if_icmp .ne 5, 3) := by decide +kernel
theorem dX12_mayMark_74 : decode cX12_mayMark 74 = .ok (.iconst 0, 1) := by decide +kernel
theorem dX12_mayMark_75 : decode cX12_mayMark 75 = .ok (.ireturn, 1) := by decide +kernel
theorem dX12_mayMark_76 : decode cX12_mayMark 76 = .ok (.iconst 0, 1) := by decide +kernel
theorem dX12_mayMark_77 : decode cX12_mayMark 77 = .ok (.istore 4, 2) := by decide +kernel
theorem dX12_mayMark_79 : decode cX12_mayMark 79 = .ok (.iload 4, 2) := by decide +kernel
theorem dX12_mayMark_81 : decode cX12_mayMark 81 = .ok (.aload_n 0, 1) := by decide +kernel
theorem dX12_mayMark_82 : decode cX12_mayMark 82 = .ok (.iconst 3, 1) := by decide +kernel
theorem dX12_mayMark_83 : decode cX12_mayMark 83 = .ok (.invokevirtual 246, 3) := by decide +kernel
theorem dX12_mayMark_86 : decode cX12_mayMark 86 = .ok (.if_icmp .ge 98, 3) := by decide +kernel
theorem dX12_mayMark_89 : decode cX12_mayMark 89 = .ok (.aload_n 0, 1) := by decide +kernel
theorem dX12_mayMark_90 : decode cX12_mayMark 90 = .ok (.bipush 75, 2) := by decide +kernel
theorem dX12_mayMark_92 : decode cX12_mayMark 92 = .ok (.iload 4, 2) := by decide +kernel
theorem dX12_mayMark_94 : decode cX12_mayMark 94 = .ok (.iadd, 1) := by decide +kernel
theorem dX12_mayMark_95 : decode cX12_mayMark 95 = .ok (.invokevirtual 246, 3) := by decide +kernel
theorem dX12_mayMark_98 : decode cX12_mayMark 98 = .ok (.istore 5, 2) := by decide +kernel
theorem dX12_mayMark_100 : decode cX12_mayMark 100 = .ok (.aload_n 0, 1) := by decide +kernel
theorem dX12_mayMark_101 : decode cX12_mayMark 101 = .ok (.bipush 69, 2) := by decide +kernel
theorem dX12_mayMark_103 : decode cX12_mayMark 103 = .ok (.iload 4, 2) := by decide +kernel
theorem dX12_mayMark_105 : decode cX12_mayMark 105 = .ok (.iadd, 1) := by decide +kernel
theorem dX12_mayMark_106 : decode cX12_mayMark 106 = .ok (.invokevirtual 246, 3) := by decide +kernel
theorem dX12_mayMark_109 : decode cX12_mayMark 109 = .ok (.iload_n 3, 1) := by decide +kernel
theorem dX12_mayMark_110 : decode cX12_mayMark 110 = .ok (.if_icmp .ne 23, 3) := by decide +kernel
theorem dX12_mayMark_113 : decode cX12_mayMark 113 = .ok (.aload_n 0, 1) := by decide +kernel
theorem dX12_mayMark_114 : decode cX12_mayMark 114 = .ok (.bipush 61, 2) := by decide +kernel
theorem dX12_mayMark_116 : decode cX12_mayMark 116 = .ok (.iload_n 2, 1) := by decide +kernel
theorem dX12_mayMark_117 : decode cX12_mayMark 117 = .ok (.iadd, 1) := by decide +kernel
theorem dX12_mayMark_118 : decode cX12_mayMark 118 = .ok (.invokevirtual 246, 3) := by decide +kernel
theorem dX12_mayMark_121 : decode cX12_mayMark 121 = .ok (.iload 5, 2) := by decide +kernel
theorem dX12_mayMark_123 : decode cX12_mayMark 123 = .ok (.invokestatic 100, 3) := by decide +kernel
theorem dX12_mayMark_126 : decode cX12_mayMark 126 = .ok (.ifCond .eq 7, 3) := by decide +kernel
theorem dX12_mayMark_129 : decode cX12_mayMark 129 = .ok (.iconst 1, 1) := by decide +kernel
theorem dX12_mayMark_130 : decode cX12_mayMark 130 = .ok (.goto 4, 3) := by decide +kernel
theorem dX12_mayMark_133 : decode cX12_mayMark 133 = .ok (.iconst 0, 1) := by decide +kernel
theorem dX12_mayMark_134 : decode cX12_mayMark 134 = .ok (.istore 6, 2) := by decide +kernel
theorem dX12_mayMark_136 : decode cX12_mayMark 136 = .ok (.iload 6, 2) := by decide +kernel
theorem dX12_mayMark_138 : decode cX12_mayMark 138 = .ok (.ifCond .eq 40, 3) := by decide +kernel
theorem dX12_mayMark_141 : decode cX12_mayMark 141 = .ok (.aload_n 0, 1) := by decide +kernel
theorem dX12_mayMark_142 : decode cX12_mayMark 142 = .ok (.getfield 59, 3) := by decide +kernel
theorem dX12_mayMark_145 : decode cX12_mayMark 145 = .ok (.iload_n 2, 1) := by decide +kernel
theorem dX12_mayMark_146 : decode cX12_mayMark 146 = .ok (.iaload, 1) := by decide +kernel
theorem dX12_mayMark_147 : decode cX12_mayMark 147 = .ok (.iload 5, 2) := by decide +kernel
theorem dX12_mayMark_149 : decode cX12_mayMark 149 = .ok (.invokestatic 100, 3) := by decide +kernel
theorem dX12_mayMark_152 : decode cX12_mayMark 152 = .ok (.ifCond .eq 24, 3) := by decide +kernel
theorem dX12_mayMark_155 : decode cX12_mayMark 155 = .ok (.aload_n 0, 1) := by decide +kernel
theorem dX12_mayMark_156 : decode cX12_mayMark 156 = .ok (.getfield 62, 3) := by decide +kernel
theorem dX12_mayMark_159 : decode cX12_mayMark 159 = .ok (.bipush 10, 2) := by decide +kernel
theorem dX12_mayMark_161 : decode cX12_mayMark 161 = .ok (.iload_n 2, 1) := by decide +kernel
theorem dX12_mayMark_162 : decode cX12_mayMark 162 = .ok (.imul, 1) := by decide +kernel
theorem dX12_mayMark_163 : decode cX12_mayMark 163 = .ok (.iload 5, 2) := by decide +kernel
theorem dX12_mayMark_165 : decode cX12_mayMark 165 = .ok (.iadd, 1) := by decide +kernel
theorem dX12_mayMark_166 : decode cX12_mayMark 166 = .ok (.iaload, 1) := by decide +kernel
theorem dX12_mayMark_167 : decode cX12_mayMark 167 = .ok (.aload_n 0, 1) := by decide +kernel
theorem dX12_mayMark_168 : decode cX12_mayMark 168 = .ok (.getfield 47, 3) := by decide +kernel
theorem dX12_mayMark_171 : decode cX12_mayMark 171 = .ok (.iload_n 1, 1) := by decide +kernel
theorem dX12_mayMark_172 : decode cX12_mayMark 172 = .ok (.iaload, 1) := by decide +kernel
theorem dX12_mayMark_173 : decode cX12_mayMark 173 = .ok (.if_icmp .le 5, 3) := by decide +kernel
theorem dX12_mayMark_176 : decode cX12_mayMark 176 = .ok (.iconst 0, 1) := by decide +kernel
theorem dX12_mayMark_177 : decode cX12_mayMark 177 = .ok (.ireturn, 1) := by decide +kernel
theorem dX12_mayMark_178 : decode cX12_mayMark 178 = .ok (.iinc 4 1, 3) := by decide +kernel
theorem dX12_mayMark_181 : decode cX12_mayMark 181 = .ok (.goto (-102), 3) := by decide +kernel
theorem dX12_mayMark_184 : decode cX12_mayMark 184 = .ok (.iconst 1, 1) := by decide +kernel
theorem dX12_mayMark_185 : decode cX12_mayMark 185 = .ok (.ireturn, 1) := by decide +kernel
theorem dX12_marked_0 : decode cX12_marked 0 = .ok (.aload_n 0, 1) := by decide +kernel
theorem dX12_marked_1 : decode cX12_marked 1 = .ok (.iload_n 1, 1) := by decide +kernel
theorem dX12_marked_2 : decode cX12_marked 2 = .ok (.iload_n 2, 1) := by decide +kernel
theorem dX12_marked_3 : decode cX12_marked 3 = .ok (.invokevirtual 303, 3) := by decide +kernel
theorem dX12_marked_6 : decode cX12_marked 6 = .ok (.ifCond .ne 5, 3) := by decide +kernel
theorem dX12_marked_9 : decode cX12_marked 9 = .ok (.iconst 0, 1) := by decide +kernel
theorem dX12_marked_10 : decode cX12_marked 10 = .ok (.ireturn, 1) := by decide +kernel
theorem dX12_marked_11 : decode cX12_marked 11 = .ok (.aload_n 0, 1) := by decide +kernel
theorem dX12_marked_12 : decode cX12_marked 12 = .ok (.bipush 81, 2) := by decide +kernel
theorem dX12_marked_14 : decode cX12_marked 14 = .ok (.iload_n 1, 1) := by decide +kernel
theorem dX12_marked_15 : decode cX12_marked 15 = .ok (.iadd, 1) := by decide +kernel
theorem dX12_marked_16 : decode cX12_marked 16 = .ok (.invokevirtual 246, 3) := by decide +kernel
theorem dX12_marked_19 : decode cX12_marked 19 = .ok (.istore_n 3, 1) := by decide +kernel
theorem dX12_marked_20 : decode cX12_marked 20 = .ok (.aload_n 0, 1) := by decide +kernel
theorem dX12_marked_21 : decode cX12_marked 21 = .ok (.getfield 59, 3) := by decide +kernel
theorem dX12_marked_24 : decode cX12_marked 24 = .ok (.iload_n 2, 1) := by decide +kernel
theorem dX12_marked_25 : decode cX12_marked 25 = .ok (.dup2, 1) := by decide +kernel
theorem dX12_marked_26 : decode cX12_marked 26 = .ok (.iaload, 1) := by decide +kernel
theorem dX12_marked_27 : decode cX12_marked 27 = .ok (.iconst 1, 1) := by decide +kernel
theorem dX12_marked_28 : decode cX12_marked 28 = .ok (.iload_n 3, 1) := by decide +kernel
theorem dX12_marked_29 : decode cX12_marked 29 = .ok (.ishl, 1) := by decide +kernel
theorem dX12_marked_30 : decode cX12_marked 30 = .ok (.ior, 1) := by decide +kernel
theorem dX12_marked_31 : decode cX12_marked 31 = .ok (.iastore, 1) := by decide +kernel
theorem dX12_marked_32 : decode cX12_marked 32 = .ok (.aload_n 0, 1) := by decide +kernel
theorem dX12_marked_33 : decode cX12_marked 33 = .ok (.getfield 62, 3) := by decide +kernel
theorem dX12_marked_36 : decode cX12_marked 36 = .ok (.bipush 10, 2) := by decide +kernel
theorem dX12_marked_38 : decode cX12_marked 38 = .ok (.iload_n 2, 1) := by decide +kernel
theorem dX12_marked_39 : decode cX12_marked 39 = .ok (.imul, 1) := by decide +kernel
theorem dX12_marked_40 : decode cX12_marked 40 = .ok (.iload_n 3, 1) := by decide +kernel
theorem dX12_marked_41 : decode cX12_marked 41 = .ok (.iadd, 1) := by decide +kernel
theorem dX12_marked_42 : decode cX12_marked 42 = .ok (.aload_n 0, 1) := by decide +kernel
theorem dX12_marked_43 : decode cX12_marked 43 = .ok (.getfield 47, 3) := by decide +kernel
theorem dX12_marked_46 : decode cX12_marked 46 = .ok (.iload_n 1, 1) := by decide +kernel
theorem dX12_marked_47 : decode cX12_marked 47 = .ok (.iaload, 1) := by decide +kernel
theorem dX12_marked_48 : decode cX12_marked 48 = .ok (.iastore, 1) := by decide +kernel
theorem dX12_marked_49 : decode cX12_marked 49 = .ok (.aload_n 0, 1) := by decide +kernel
theorem dX12_marked_50 : decode cX12_marked 50 = .ok (.getfield 47, 3) := by decide +kernel
theorem dX12_marked_53 : decode cX12_marked 53 = .ok (.iload_n 1, 1) := by decide +kernel
theorem dX12_marked_54 : decode cX12_marked 54 = .ok (.dup2, 1) := by decide +kernel
theorem dX12_marked_55 : decode cX12_marked 55 = .ok (.iaload, 1) := by decide +kernel
theorem dX12_marked_56 : decode cX12_marked 56 = .ok (.iconst 1, 1) := by decide +kernel
theorem dX12_marked_57 : decode cX12_marked 57 = .ok (.iadd, 1) := by decide +kernel
theorem dX12_marked_58 : decode cX12_marked 58 = .ok (.iastore, 1) := by decide +kernel
theorem dX12_marked_59 : decode cX12_marked 59 = .ok (.aload_n 0, 1) := by decide +kernel
theorem dX12_marked_60 : decode cX12_marked 60 = .ok (.getfield 50, 3) := by decide +kernel
theorem dX12_marked_63 : decode cX12_marked 63 = .ok (.iload_n 1, 1) := by decide +kernel
theorem dX12_marked_64 : decode cX12_marked 64 = .ok (.dup2, 1) := by decide +kernel
theorem dX12_marked_65 : decode cX12_marked 65 = .ok (.iaload, 1) := by decide +kernel
theorem dX12_marked_66 : decode cX12_marked 66 = .ok (.iconst 1, 1) := by decide +kernel
theorem dX12_marked_67 : decode cX12_marked 67 = .ok (.iadd, 1) := by decide +kernel
theorem dX12_marked_68 : decode cX12_marked 68 = .ok (.iastore, 1) := by decide +kernel
theorem dX12_marked_69 : decode cX12_marked 69 = .ok (.iconst 1, 1) := by decide +kernel
theorem dX12_marked_70 : decode cX12_marked 70 = .ok (.ireturn, 1) := by decide +kernel
theorem dX12_does_0 : decode cX12_does 0 = .ok (.aload_n 0, 1) := by decide +kernel
theorem dX12_does_1 : decode cX12_does 1 = .ok (.iload_n 2, 1) := by decide +kernel
theorem dX12_does_2 : decode cX12_does 2 = .ok (.invokevirtual 306, 3) := by decide +kernel
theorem dX12_does_5 : decode cX12_does 5 = .ok (.ifCond .eq 49, 3) := by decide +kernel
theorem dX12_does_8 : decode cX12_does 8 = .ok (.iload_n 1, 1) := by decide +kernel
theorem dX12_does_9 : decode cX12_does 9 = .ok (.ifCond .ne 15, 3) := by decide +kernel
theorem dX12_does_12 : decode cX12_does 12 = .ok (.aload_n 0, 1) := by decide +kernel
theorem dX12_does_13 : decode cX12_does 13 = .ok (.iload_n 2, 1) := by decide +kernel
theorem dX12_does_14 : decode cX12_does 14 = .ok (.iload_n 3, 1) := by decide +kernel
theorem dX12_does_15 : decode cX12_does 15 = .ok (.invokevirtual 309, 3) := by decide +kernel
theorem dX12_does_18 : decode cX12_does 18 = .ok (.ifCond .eq 36, 3) := by decide +kernel
theorem dX12_does_21 : decode cX12_does 21 = .ok (.goto 29, 3) := by decide +kernel
theorem dX12_does_24 : decode cX12_does 24 = .ok (.iload_n 1, 1) := by decide +kernel
theorem dX12_does_25 : decode cX12_does 25 = .ok (.iconst 1, 1) := by decide +kernel
theorem dX12_does_26 : decode cX12_does 26 = .ok (.if_icmp .ne 15, 3) := by decide +kernel
theorem dX12_does_29 : decode cX12_does 29 = .ok (.aload_n 0, 1) := by decide +kernel
theorem dX12_does_30 : decode cX12_does 30 = .ok (.iload_n 2, 1) := by decide +kernel
theorem dX12_does_31 : decode cX12_does 31 = .ok (.iload_n 3, 1) := by decide +kernel
theorem dX12_does_32 : decode cX12_does 32 = .ok (.invokevirtual 312, 3) := by decide +kernel
theorem dX12_does_35 : decode cX12_does 35 = .ok (.ifCond .eq 19, 3) := by decide +kernel
theorem dX12_does_38 : decode cX12_does 38 = .ok (.goto 12, 3) := by decide +kernel
theorem dX12_does_41 : decode cX12_does 41 = .ok (.aload_n 0, 1) := by decide +kernel
theorem dX12_does_42 : decode cX12_does 42 = .ok (.iload_n 2, 1) := by decide +kernel
theorem dX12_does_43 : decode cX12_does 43 = .ok (.iload_n 3, 1) := by decide +kernel
theorem dX12_does_44 : decode cX12_does 44 = .ok (.invokevirtual 315, 3) := by decide +kernel
theorem dX12_does_47 : decode cX12_does 47 = .ok (.ifCond .eq 7, 3) := by decide +kernel
theorem dX12_does_50 : decode cX12_does 50 = .ok (.iconst 1, 1) := by decide +kernel
theorem dX12_does_51 : decode cX12_does 51 = .ok (.goto 4, 3) := by decide +kernel
theorem dX12_does_54 : decode cX12_does 54 = .ok (.iconst 0, 1) := by decide +kernel
theorem dX12_does_55 : decode cX12_does 55 = .ok (.ireturn, 1) := by decide +kernel
theorem dX12_doesDeed_0 : decode cX12_doesDeed 0 = .ok (.aload_n 0, 1) := by decide +kernel
theorem dX12_doesDeed_1 : decode cX12_doesDeed 1 = .ok (.aload_n 0, 1) := by decide +kernel
theorem dX12_doesDeed_2 : decode cX12_doesDeed 2 = .ok (.iload_n 1, 1) := by decide +kernel
theorem dX12_doesDeed_3 : decode cX12_doesDeed 3 = .ok (.iconst 0, 1) := by decide +kernel
theorem dX12_doesDeed_4 : decode cX12_doesDeed 4 = .ok (.invokevirtual 294, 3) := by decide +kernel
theorem dX12_doesDeed_7 : decode cX12_doesDeed 7 = .ok (.aload_n 0, 1) := by decide +kernel
theorem dX12_doesDeed_8 : decode cX12_doesDeed 8 = .ok (.iload_n 1, 1) := by decide +kernel
theorem dX12_doesDeed_9 : decode cX12_doesDeed 9 = .ok (.iconst 1, 1) := by decide +kernel
theorem dX12_doesDeed_10 : decode cX12_doesDeed 10 = .ok (.invokevirtual 294, 3) := by decide +kernel
theorem dX12_doesDeed_13 : decode cX12_doesDeed 13 = .ok (.aload_n 0, 1) := by decide +kernel
theorem dX12_doesDeed_14 : decode cX12_doesDeed 14 = .ok (.iload_n 1, 1) := by decide +kernel
theorem dX12_doesDeed_15 : decode cX12_doesDeed 15 = .ok (.iconst 2, 1) := by decide +kernel
theorem dX12_doesDeed_16 : decode cX12_doesDeed 16 = .ok (.invokevirtual 294, 3) := by decide +kernel
theorem dX12_doesDeed_19 : decode cX12_doesDeed 19 = .ok (.invokevirtual 318, 3) := by decide +kernel
theorem dX12_doesDeed_22 : decode cX12_doesDeed 22 = .ok (.ireturn, 1) := by decide +kernel
theorem dX12_play_0 : decode cX12_play 0 = .ok (.aload_n 0, 1) := by decide +kernel
theorem dX12_play_1 : decode cX12_play 1 = .ok (.invokevirtual 321, 3) := by decide +kernel
theorem dX12_play_4 : decode cX12_play 4 = .ok (.iconst 0, 1) := by decide +kernel
theorem dX12_play_5 : decode cX12_play 5 = .ok (.istore_n 2, 1) := by decide +kernel
theorem dX12_play_6 : decode cX12_play 6 = .ok (.iload_n 2, 1) := by decide +kernel
theorem dX12_play_7 : decode cX12_play 7 = .ok (.iload_n 1, 1) := by decide +kernel
theorem dX12_play_8 : decode cX12_play 8 = .ok (.if_icmp .ge 17, 3) := by decide +kernel
theorem dX12_play_11 : decode cX12_play 11 = .ok (.aload_n 0, 1) := by decide +kernel
theorem dX12_play_12 : decode cX12_play 12 = .ok (.iload_n 2, 1) := by decide +kernel
theorem dX12_play_13 : decode cX12_play 13 = .ok (.invokevirtual 324, 3) := by decide +kernel
theorem dX12_play_16 : decode cX12_play 16 = .ok (.ifCond .eq 9, 3) := by decide +kernel
theorem dX12_play_19 : decode cX12_play 19 = .ok (.iinc 2 1, 3) := by decide +kernel
theorem dX12_play_22 : decode cX12_play 22 = .ok (.goto (-16), 3) := by decide +kernel
theorem dX12_play_25 : decode cX12_play 25 = .ok (.iload_n 2, 1) := by decide +kernel
theorem dX12_play_26 : decode cX12_play 26 = .ok (.ireturn, 1) := by decide +kernel
theorem dX12_layAll_0 : decode cX12_layAll 0 = .ok (.aload_n 0, 1) := by decide +kernel
theorem dX12_layAll_1 : decode cX12_layAll 1 = .ok (.iload_n 2, 1) := by decide +kernel
theorem dX12_layAll_2 : decode cX12_layAll 2 = .ok (.invokevirtual 288, 3) := by decide +kernel
theorem dX12_layAll_5 : decode cX12_layAll 5 = .ok (.ifCond .eq 15, 3) := by decide +kernel
theorem dX12_layAll_8 : decode cX12_layAll 8 = .ok (.aload_n 0, 1) := by decide +kernel
theorem dX12_layAll_9 : decode cX12_layAll 9 = .ok (.iload_n 1, 1) := by decide +kernel
theorem dX12_layAll_10 : decode cX12_layAll 10 = .ok (.invokevirtual 282, 3) := by decide +kernel
theorem dX12_layAll_13 : decode cX12_layAll 13 = .ok (.ifCond .eq 7, 3) := by decide +kernel
theorem dX12_layAll_16 : decode cX12_layAll 16 = .ok (.iconst 1, 1) := by decide +kernel
theorem dX12_layAll_17 : decode cX12_layAll 17 = .ok (.goto 4, 3) := by decide +kernel
theorem dX12_layAll_20 : decode cX12_layAll 20 = .ok (.iconst 0, 1) := by decide +kernel
theorem dX12_layAll_21 : decode cX12_layAll 21 = .ok (.ireturn, 1) := by decide +kernel
theorem dX12_till_0 : decode cX12_till 0 = .ok (.aload_n 0, 1) := by decide +kernel
theorem dX12_till_1 : decode cX12_till 1 = .ok (.iconst 0, 1) := by decide +kernel
theorem dX12_till_2 : decode cX12_till 2 = .ok (.putfield 96, 3) := by decide +kernel
theorem dX12_till_5 : decode cX12_till 5 = .ok (.aload_n 0, 1) := by decide +kernel
theorem dX12_till_6 : decode cX12_till 6 = .ok (.iload_n 1, 1) := by decide +kernel
theorem dX12_till_7 : decode cX12_till 7 = .ok (.iload_n 2, 1) := by decide +kernel
theorem dX12_till_8 : decode cX12_till 8 = .ok (.invokevirtual 327, 3) := by decide +kernel
theorem dX12_till_11 : decode cX12_till 11 = .ok (.ifCond .eq 14, 3) := by decide +kernel
theorem dX12_till_14 : decode cX12_till 14 = .ok (.aload_n 0, 1) := by decide +kernel
theorem dX12_till_15 : decode cX12_till 15 = .ok (.aload_n 0, 1) := by decide +kernel
theorem dX12_till_16 : decode cX12_till 16 = .ok (.invokevirtual 291, 3) := by decide +kernel
theorem dX12_till_19 : decode cX12_till 19 = .ok (.invokevirtual 330, 3) := by decide +kernel
theorem dX12_till_22 : decode cX12_till 22 = .ok (.goto 4, 3) := by decide +kernel
theorem dX12_till_25 : decode cX12_till 25 = .ok (.iconst (-1), 1) := by decide +kernel
theorem dX12_till_26 : decode cX12_till 26 = .ok (.ireturn, 1) := by decide +kernel
theorem dX12_doneSet_0 : decode cX12_doneSet 0 = .ok (.iconst 0, 1) := by decide +kernel
theorem dX12_doneSet_1 : decode cX12_doneSet 1 = .ok (.istore_n 1, 1) := by decide +kernel
theorem dX12_doneSet_2 : decode cX12_doneSet 2 = .ok (.iconst 0, 1) := by decide +kernel
theorem dX12_doneSet_3 : decode cX12_doneSet 3 = .ok (.istore_n 2, 1) := by decide +kernel
theorem dX12_doneSet_4 : decode cX12_doneSet 4 = .ok (.iload_n 2, 1) := by decide +kernel
theorem dX12_doneSet_5 : decode cX12_doneSet 5 = .ok (.aload_n 0, 1) := by decide +kernel
theorem dX12_doneSet_6 : decode cX12_doneSet 6 = .ok (.getfield 256, 3) := by decide +kernel
theorem dX12_doneSet_9 : decode cX12_doneSet 9 = .ok (.if_icmp .ge 36, 3) := by decide +kernel
theorem dX12_doneSet_12 : decode cX12_doneSet 12 = .ok (.iload_n 1, 1) := by decide +kernel
theorem dX12_doneSet_13 : decode cX12_doneSet 13 = .ok (.aload_n 0, 1) := by decide +kernel
theorem dX12_doneSet_14 : decode cX12_doneSet 14 = .ok (.getfield 59, 3) := by decide +kernel
theorem dX12_doneSet_17 : decode cX12_doneSet 17 = .ok (.iload_n 2, 1) := by decide +kernel
theorem dX12_doneSet_18 : decode cX12_doneSet 18 = .ok (.iaload, 1) := by decide +kernel
theorem dX12_doneSet_19 : decode cX12_doneSet 19 = .ok (.aload_n 0, 1) := by decide +kernel
theorem dX12_doneSet_20 : decode cX12_doneSet 20 = .ok (.bipush 61, 2) := by decide +kernel
theorem dX12_doneSet_22 : decode cX12_doneSet 22 = .ok (.iload_n 2, 1) := by decide +kernel
theorem dX12_doneSet_23 : decode cX12_doneSet 23 = .ok (.iadd, 1) := by decide +kernel
theorem dX12_doneSet_24 : decode cX12_doneSet 24 = .ok (.invokevirtual 246, 3) := by decide +kernel
theorem dX12_doneSet_27 : decode cX12_doneSet 27 = .ok (.if_icmp .ne 9, 3) := by decide +kernel
theorem dX12_doneSet_30 : decode cX12_doneSet 30 = .ok (.iconst 1, 1) := by decide +kernel
theorem dX12_doneSet_31 : decode cX12_doneSet 31 = .ok (.iload_n 2, 1) := by decide +kernel
theorem dX12_doneSet_32 : decode cX12_doneSet 32 = .ok (.ishl, 1) := by decide +kernel
theorem dX12_doneSet_33 : decode cX12_doneSet 33 = .ok (.goto 4, 3) := by decide +kernel
theorem dX12_doneSet_36 : decode cX12_doneSet 36 = .ok (.iconst 0, 1) := by decide +kernel
theorem dX12_doneSet_37 : decode cX12_doneSet 37 = .ok (.ior, 1) := by decide +kernel
theorem dX12_doneSet_38 : decode cX12_doneSet 38 = .ok (.istore_n 1, 1) := by decide +kernel
theorem dX12_doneSet_39 : decode cX12_doneSet 39 = .ok (.iinc 2 1, 3) := by decide +kernel
theorem dX12_doneSet_42 : decode cX12_doneSet 42 = .ok (.goto (-38), 3) := by decide +kernel
theorem dX12_doneSet_45 : decode cX12_doneSet 45 = .ok (.iload_n 1, 1) := by decide +kernel
theorem dX12_doneSet_46 : decode cX12_doneSet 46 = .ok (.ireturn, 1) := by decide +kernel
theorem dX12_ofState_0 : decode cX12_ofState 0 = .ok (.iload_n 1, 1) := by decide +kernel
theorem dX12_ofState_1 : decode cX12_ofState 1 = .ok (.bipush 100, 2) := by decide +kernel
theorem dX12_ofState_3 : decode cX12_ofState 3 = .ok (.if_icmp .lt 49, 3) := by decide +kernel
theorem dX12_ofState_6 : decode cX12_ofState 6 = .ok (.iload_n 1, 1) := by decide +kernel
theorem dX12_ofState_7 : decode cX12_ofState 7 = .ok (.bipush 100, 2) := by decide +kernel
theorem dX12_ofState_9 : decode cX12_ofState 9 = .ok (.isub, 1) := by decide +kernel
theorem dX12_ofState_10 : decode cX12_ofState 10 = .ok (.bipush 10, 2) := by decide +kernel
theorem dX12_ofState_12 : decode cX12_ofState 12 = .ok (.idiv, 1) := by decide +kernel
theorem dX12_ofState_13 : decode cX12_ofState 13 = .ok (.istore_n 2, 1) := by decide +kernel
theorem dX12_ofState_14 : decode cX12_ofState 14 = .ok (.iload_n 1, 1) := by decide +kernel
theorem dX12_ofState_15 : decode cX12_ofState 15 = .ok (.bipush 10, 2) := by decide +kernel
theorem dX12_ofState_17 : decode cX12_ofState 17 = .ok (.irem, 1) := by decide +kernel
theorem dX12_ofState_18 : decode cX12_ofState 18 = .ok (.istore_n 3, 1) := by decide +kernel
theorem dX12_ofState_19 : decode cX12_ofState 19 = .ok (.iload_n 2, 1) := by decide +kernel
theorem dX12_ofState_20 : decode cX12_ofState 20 = .ok (.aload_n 0, 1) := by decide +kernel
theorem dX12_ofState_21 : decode cX12_ofState 21 = .ok (.getfield 256, 3) := by decide +kernel
theorem dX12_ofState_24 : decode cX12_ofState 24 = .ok (.if_icmp .ge 25, 3) := by decide +kernel
theorem dX12_ofState_27 : decode cX12_ofState 27 = .ok (.iload_n 3, 1) := by decide +kernel
theorem dX12_ofState_28 : decode cX12_ofState 28 = .ok (.aload_n 0, 1) := by decide +kernel
theorem dX12_ofState_29 : decode cX12_ofState 29 = .ok (.getfield 250, 3) := by decide +kernel
theorem dX12_ofState_32 : decode cX12_ofState 32 = .ok (.if_icmp .ge 17, 3) := by decide +kernel
theorem dX12_ofState_35 : decode cX12_ofState 35 = .ok (.aload_n 0, 1) := by decide +kernel
theorem dX12_ofState_36 : decode cX12_ofState 36 = .ok (.getfield 62, 3) := by decide +kernel
theorem dX12_ofState_39 : decode cX12_ofState 39 = .ok (.bipush 10, 2) := by decide +kernel
theorem dX12_ofState_41 : decode cX12_ofState 41 = .ok (.iload_n 2, 1) := by decide +kernel
theorem dX12_ofState_42 : decode cX12_ofState 42 = .ok (.imul, 1) := by decide +kernel
theorem dX12_ofState_43 : decode cX12_ofState 43 = .ok (.iload_n 3, 1) := by decide +kernel
theorem dX12_ofState_44 : decode cX12_ofState 44 = .ok (.iadd, 1) := by decide +kernel
theorem dX12_ofState_45 : decode cX12_ofState 45 = .ok (.iaload, 1) := by decide +kernel
theorem dX12_ofState_46 : decode cX12_ofState 46 = .ok (.goto 5, 3) := by decide +kernel
theorem dX12_ofState_49 : decode cX12_ofState 49 = .ok (.bipush (-2), 2) := by decide +kernel
theorem dX12_ofState_51 : decode cX12_ofState 51 = .ok (.ireturn, 1) := by decide +kernel
theorem dX12_ofState_52 : decode cX12_ofState 52 = .ok (.iload_n 1, 1) := by decide +kernel
theorem dX12_ofState_53 : decode cX12_ofState 53 = .ok (.bipush 10, 2) := by decide +kernel
theorem dX12_ofState_55 : decode cX12_ofState 55 = .ok (.irem, 1) := by decide +kernel
theorem dX12_ofState_56 : decode cX12_ofState 56 = .ok (.istore_n 2, 1) := by decide +kernel
theorem dX12_ofState_57 : decode cX12_ofState 57 = .ok (.iconst 0, 1) := by decide +kernel
theorem dX12_ofState_58 : decode cX12_ofState 58 = .ok (.istore_n 3, 1) := by decide +kernel
theorem dX12_ofState_59 : decode cX12_ofState 59 = .ok (.iconst 0, 1) := by decide +kernel
theorem dX12_ofState_60 : decode cX12_ofState 60 = .ok (.istore 4, 2) := by decide +kernel
theorem dX12_ofState_62 : decode cX12_ofState 62 = .ok (.iconst 0, 1) := by decide +kernel
theorem dX12_ofState_63 : decode cX12_ofState 63 = .ok (.istore 5, 2) := by decide +kernel
theorem dX12_ofState_65 : decode cX12_ofState 65 = .ok (.iload 5, 2) := by decide +kernel
theorem dX12_ofState_67 : decode cX12_ofState 67 = .ok (.aload_n 0, 1) := by decide +kernel
theorem dX12_ofState_68 : decode cX12_ofState 68 = .ok (.getfield 259, 3) := by decide +kernel
theorem dX12_ofState_71 : decode cX12_ofState 71 = .ok (.if_icmp .ge 33, 3) := by decide +kernel
theorem dX12_ofState_74 : decode cX12_ofState 74 = .ok (.iload_n 3, 1) := by decide +kernel
theorem dX12_ofState_75 : decode cX12_ofState 75 = .ok (.aload_n 0, 1) := by decide +kernel
theorem dX12_ofState_76 : decode cX12_ofState 76 = .ok (.getfield 50, 3) := by decide +kernel
theorem dX12_ofState_79 : decode cX12_ofState 79 = .ok (.iload 5, 2) := by decide +kernel
theorem dX12_ofState_81 : decode cX12_ofState 81 = .ok (.iaload, 1) := by decide +kernel
theorem dX12_ofState_82 : decode cX12_ofState 82 = .ok (.iadd, 1) := by decide +kernel
theorem dX12_ofState_83 : decode cX12_ofState 83 = .ok (.istore_n 3, 1) := by decide +kernel
theorem dX12_ofState_84 : decode cX12_ofState 84 = .ok (.iload 4, 2) := by decide +kernel
theorem dX12_ofState_86 : decode cX12_ofState 86 = .ok (.aload_n 0, 1) := by decide +kernel
theorem dX12_ofState_87 : decode cX12_ofState 87 = .ok (.getfield 47, 3) := by decide +kernel
theorem dX12_ofState_90 : decode cX12_ofState 90 = .ok (.iload 5, 2) := by decide +kernel
theorem dX12_ofState_92 : decode cX12_ofState 92 = .ok (.iaload, 1) := by decide +kernel
theorem dX12_ofState_93 : decode cX12_ofState 93 = .ok (.invokestatic 170, 3) := by decide +kernel
theorem dX12_ofState_96 : decode cX12_ofState 96 = .ok (.istore 4, 2) := by decide +kernel
theorem dX12_ofState_98 : decode cX12_ofState 98 = .ok (.iinc 5 1, 3) := by decide +kernel
theorem dX12_ofState_101 : decode cX12_ofState 101 = .ok (.goto (-36), 3) := by decide +kernel
theorem dX12_ofState_104 : decode cX12_ofState 104 = .ok (.iload_n 1, 1) := by decide +kernel
theorem dX12_ofState_105 : decode cX12_ofState 105 = .ok (.bipush 10, 2) := by decide +kernel
theorem dX12_ofState_107 : decode cX12_ofState 107 = .ok (.idiv, 1) := by decide +kernel
theorem dX12_ofState_108 : decode cX12_ofState 108 = .ok (.tableswitch 149 0 4 #[36, 69, 89, 109, 129], 36) := by decide +kernel
theorem dX12_ofState_144 : decode cX12_ofState 144 = .ok (.iload_n 1, 1) := by decide +kernel
theorem dX12_ofState_145 : decode cX12_ofState 145 = .ok (.ifCond .ne 7, 3) := by decide +kernel
theorem dX12_ofState_148 : decode cX12_ofState 148 = .ok (.iload_n 3, 1) := by decide +kernel
theorem dX12_ofState_149 : decode cX12_ofState 149 = .ok (.goto 27, 3) := by decide +kernel
theorem dX12_ofState_152 : decode cX12_ofState 152 = .ok (.iload_n 1, 1) := by decide +kernel
theorem dX12_ofState_153 : decode cX12_ofState 153 = .ok (.iconst 1, 1) := by decide +kernel
theorem dX12_ofState_154 : decode cX12_ofState 154 = .ok (.if_icmp .ne 10, 3) := by decide +kernel
theorem dX12_ofState_157 : decode cX12_ofState 157 = .ok (.aload_n 0, 1) := by decide +kernel
theorem dX12_ofState_158 : decode cX12_ofState 158 = .ok (.invokevirtual 333, 3) := by decide +kernel
theorem dX12_ofState_161 : decode cX12_ofState 161 = .ok (.goto 15, 3) := by decide +kernel
theorem dX12_ofState_164 : decode cX12_ofState 164 = .ok (.iload_n 1, 1) := by decide +kernel
theorem dX12_ofState_165 : decode cX12_ofState 165 = .ok (.iconst 2, 1) := by decide +kernel
theorem dX12_ofState_166 : decode cX12_ofState 166 = .ok (.if_icmp .ne 8, 3) := by decide +kernel
theorem dX12_ofState_169 : decode cX12_ofState 169 = .ok (.iload 4, 2) := by decide +kernel
theorem dX12_ofState_171 : decode cX12_ofState 171 = .ok (.goto 5, 3) := by decide +kernel
theorem dX12_ofState_174 : decode cX12_ofState 174 = .ok (.bipush (-2), 2) := by decide +kernel
theorem dX12_ofState_176 : decode cX12_ofState 176 = .ok (.ireturn, 1) := by decide +kernel
theorem dX12_ofState_177 : decode cX12_ofState 177 = .ok (.iload_n 2, 1) := by decide +kernel
theorem dX12_ofState_178 : decode cX12_ofState 178 = .ok (.aload_n 0, 1) := by decide +kernel
theorem dX12_ofState_179 : decode cX12_ofState 179 = .ok (.getfield 259, 3) := by decide +kernel
theorem dX12_ofState_182 : decode cX12_ofState 182 = .ok (.if_icmp .ge 12, 3) := by decide +kernel
theorem dX12_ofState_185 : decode cX12_ofState 185 = .ok (.aload_n 0, 1) := by decide +kernel
theorem dX12_ofState_186 : decode cX12_ofState 186 = .ok (.getfield 44, 3) := by decide +kernel
theorem dX12_ofState_189 : decode cX12_ofState 189 = .ok (.iload_n 2, 1) := by decide +kernel
theorem dX12_ofState_190 : decode cX12_ofState 190 = .ok (.iaload, 1) := by decide +kernel
theorem dX12_ofState_191 : decode cX12_ofState 191 = .ok (.goto 5, 3) := by decide +kernel
theorem dX12_ofState_194 : decode cX12_ofState 194 = .ok (.bipush (-2), 2) := by decide +kernel
theorem dX12_ofState_196 : decode cX12_ofState 196 = .ok (.ireturn, 1) := by decide +kernel
theorem dX12_ofState_197 : decode cX12_ofState 197 = .ok (.iload_n 2, 1) := by decide +kernel
theorem dX12_ofState_198 : decode cX12_ofState 198 = .ok (.aload_n 0, 1) := by decide +kernel
theorem dX12_ofState_199 : decode cX12_ofState 199 = .ok (.getfield 259, 3) := by decide +kernel
theorem dX12_ofState_202 : decode cX12_ofState 202 = .ok (.if_icmp .ge 12, 3) := by decide +kernel
theorem dX12_ofState_205 : decode cX12_ofState 205 = .ok (.aload_n 0, 1) := by decide +kernel
theorem dX12_ofState_206 : decode cX12_ofState 206 = .ok (.getfield 47, 3) := by decide +kernel
theorem dX12_ofState_209 : decode cX12_ofState 209 = .ok (.iload_n 2, 1) := by decide +kernel
theorem dX12_ofState_210 : decode cX12_ofState 210 = .ok (.iaload, 1) := by decide +kernel
theorem dX12_ofState_211 : decode cX12_ofState 211 = .ok (.goto 5, 3) := by decide +kernel
theorem dX12_ofState_214 : decode cX12_ofState 214 = .ok (.bipush (-2), 2) := by decide +kernel
theorem dX12_ofState_216 : decode cX12_ofState 216 = .ok (.ireturn, 1) := by decide +kernel
theorem dX12_ofState_217 : decode cX12_ofState 217 = .ok (.iload_n 2, 1) := by decide +kernel
theorem dX12_ofState_218 : decode cX12_ofState 218 = .ok (.aload_n 0, 1) := by decide +kernel
theorem dX12_ofState_219 : decode cX12_ofState 219 = .ok (.getfield 259, 3) := by decide +kernel
theorem dX12_ofState_222 : decode cX12_ofState 222 = .ok (.if_icmp .ge 12, 3) := by decide +kernel
theorem dX12_ofState_225 : decode cX12_ofState 225 = .ok (.aload_n 0, 1) := by decide +kernel
theorem dX12_ofState_226 : decode cX12_ofState 226 = .ok (.getfield 50, 3) := by decide +kernel
theorem dX12_ofState_229 : decode cX12_ofState 229 = .ok (.iload_n 2, 1) := by decide +kernel
theorem dX12_ofState_230 : decode cX12_ofState 230 = .ok (.iaload, 1) := by decide +kernel
theorem dX12_ofState_231 : decode cX12_ofState 231 = .ok (.goto 5, 3) := by decide +kernel
theorem dX12_ofState_234 : decode cX12_ofState 234 = .ok (.bipush (-2), 2) := by decide +kernel
theorem dX12_ofState_236 : decode cX12_ofState 236 = .ok (.ireturn, 1) := by decide +kernel
theorem dX12_ofState_237 : decode cX12_ofState 237 = .ok (.iload_n 2, 1) := by decide +kernel
theorem dX12_ofState_238 : decode cX12_ofState 238 = .ok (.aload_n 0, 1) := by decide +kernel
theorem dX12_ofState_239 : decode cX12_ofState 239 = .ok (.getfield 256, 3) := by decide +kernel
theorem dX12_ofState_242 : decode cX12_ofState 242 = .ok (.if_icmp .ge 12, 3) := by decide +kernel
theorem dX12_ofState_245 : decode cX12_ofState 245 = .ok (.aload_n 0, 1) := by decide +kernel
theorem dX12_ofState_246 : decode cX12_ofState 246 = .ok (.getfield 59, 3) := by decide +kernel
theorem dX12_ofState_249 : decode cX12_ofState 249 = .ok (.iload_n 2, 1) := by decide +kernel
theorem dX12_ofState_250 : decode cX12_ofState 250 = .ok (.iaload, 1) := by decide +kernel
theorem dX12_ofState_251 : decode cX12_ofState 251 = .ok (.goto 5, 3) := by decide +kernel
theorem dX12_ofState_254 : decode cX12_ofState 254 = .ok (.bipush (-2), 2) := by decide +kernel
theorem dX12_ofState_256 : decode cX12_ofState 256 = .ok (.ireturn, 1) := by decide +kernel
theorem dX12_ofState_257 : decode cX12_ofState 257 = .ok (.bipush (-2), 2) := by decide +kernel
theorem dX12_ofState_259 : decode cX12_ofState 259 = .ok (.ireturn, 1) := by decide +kernel
theorem dX12_state_0 : decode cX12_state 0 = .ok (.aload_n 0, 1) := by decide +kernel
theorem dX12_state_1 : decode cX12_state 1 = .ok (.iconst 0, 1) := by decide +kernel
theorem dX12_state_2 : decode cX12_state 2 = .ok (.putfield 96, 3) := by decide +kernel
theorem dX12_state_5 : decode cX12_state 5 = .ok (.aload_n 0, 1) := by decide +kernel
theorem dX12_state_6 : decode cX12_state 6 = .ok (.iload_n 1, 1) := by decide +kernel
theorem dX12_state_7 : decode cX12_state 7 = .ok (.iload_n 2, 1) := by decide +kernel
theorem dX12_state_8 : decode cX12_state 8 = .ok (.invokevirtual 327, 3) := by decide +kernel
theorem dX12_state_11 : decode cX12_state 11 = .ok (.ifCond .eq 33, 3) := by decide +kernel
theorem dX12_state_14 : decode cX12_state 14 = .ok (.iload_n 3, 1) := by decide +kernel
theorem dX12_state_15 : decode cX12_state 15 = .ok (.iconst 0, 1) := by decide +kernel
theorem dX12_state_16 : decode cX12_state 16 = .ok (.aload_n 0, 1) := by decide +kernel
theorem dX12_state_17 : decode cX12_state 17 = .ok (.invokevirtual 291, 3) := by decide +kernel
theorem dX12_state_20 : decode cX12_state 20 = .ok (.invokestatic 108, 3) := by decide +kernel
theorem dX12_state_23 : decode cX12_state 23 = .ok (.ifCond .eq 21, 3) := by decide +kernel
theorem dX12_state_26 : decode cX12_state 26 = .ok (.aload_n 0, 1) := by decide +kernel
theorem dX12_state_27 : decode cX12_state 27 = .ok (.iload_n 3, 1) := by decide +kernel
theorem dX12_state_28 : decode cX12_state 28 = .ok (.invokevirtual 330, 3) := by decide +kernel
theorem dX12_state_31 : decode cX12_state 31 = .ok (.iload_n 3, 1) := by decide +kernel
theorem dX12_state_32 : decode cX12_state 32 = .ok (.if_icmp .ne 12, 3) := by decide +kernel
theorem dX12_state_35 : decode cX12_state 35 = .ok (.aload_n 0, 1) := by decide +kernel
theorem dX12_state_36 : decode cX12_state 36 = .ok (.iload 4, 2) := by decide +kernel
theorem dX12_state_38 : decode cX12_state 38 = .ok (.invokevirtual 336, 3) := by decide +kernel
theorem dX12_state_41 : decode cX12_state 41 = .ok (.goto 5, 3) := by decide +kernel
theorem dX12_state_44 : decode cX12_state 44 = .ok (.bipush (-2), 2) := by decide +kernel
theorem dX12_state_46 : decode cX12_state 46 = .ok (.ireturn, 1) := by decide +kernel
theorem dX12_soonest_0 : decode cX12_soonest 0 = .ok (.aload_n 0, 1) := by decide +kernel
theorem dX12_soonest_1 : decode cX12_soonest 1 = .ok (.iconst 0, 1) := by decide +kernel
theorem dX12_soonest_2 : decode cX12_soonest 2 = .ok (.putfield 96, 3) := by decide +kernel
theorem dX12_soonest_5 : decode cX12_soonest 5 = .ok (.aload_n 0, 1) := by decide +kernel
theorem dX12_soonest_6 : decode cX12_soonest 6 = .ok (.iload_n 1, 1) := by decide +kernel
theorem dX12_soonest_7 : decode cX12_soonest 7 = .ok (.invokevirtual 282, 3) := by decide +kernel
theorem dX12_soonest_10 : decode cX12_soonest 10 = .ok (.ifCond .eq 30, 3) := by decide +kernel
theorem dX12_soonest_13 : decode cX12_soonest 13 = .ok (.aload_n 0, 1) := by decide +kernel
theorem dX12_soonest_14 : decode cX12_soonest 14 = .ok (.iload_n 2, 1) := by decide +kernel
theorem dX12_soonest_15 : decode cX12_soonest 15 = .ok (.invokevirtual 339, 3) := by decide +kernel
theorem dX12_soonest_18 : decode cX12_soonest 18 = .ok (.ifCond .eq 22, 3) := by decide +kernel
theorem dX12_soonest_21 : decode cX12_soonest 21 = .ok (.aload_n 0, 1) := by decide +kernel
theorem dX12_soonest_22 : decode cX12_soonest 22 = .ok (.iload 4, 2) := by decide +kernel
theorem dX12_soonest_24 : decode cX12_soonest 24 = .ok (.invokevirtual 339, 3) := by decide +kernel
theorem dX12_soonest_27 : decode cX12_soonest 27 = .ok (.ifCond .eq 13, 3) := by decide +kernel
theorem dX12_soonest_30 : decode cX12_soonest 30 = .ok (.iload_n 3, 1) := by decide +kernel
theorem dX12_soonest_31 : decode cX12_soonest 31 = .ok (.iconst 0, 1) := by decide +kernel
theorem dX12_soonest_32 : decode cX12_soonest 32 = .ok (.bipush 99, 2) := by decide +kernel
theorem dX12_soonest_34 : decode cX12_soonest 34 = .ok (.invokestatic 108, 3) := by decide +kernel
theorem dX12_soonest_37 : decode cX12_soonest 37 = .ok (.ifCond .ne 6, 3) := by decide +kernel
theorem dX12_soonest_40 : decode cX12_soonest 40 = .ok (.bipush (-2), 2) := by decide +kernel
theorem dX12_soonest_42 : decode cX12_soonest 42 = .ok (.ireturn, 1) := by decide +kernel
theorem dX12_soonest_43 : decode cX12_soonest 43 = .ok (.aload_n 0, 1) := by decide +kernel
theorem dX12_soonest_44 : decode cX12_soonest 44 = .ok (.iload_n 2, 1) := by decide +kernel
theorem dX12_soonest_45 : decode cX12_soonest 45 = .ok (.iload_n 3, 1) := by decide +kernel
theorem dX12_soonest_46 : decode cX12_soonest 46 = .ok (.iload 4, 2) := by decide +kernel
theorem dX12_soonest_48 : decode cX12_soonest 48 = .ok (.invokevirtual 342, 3) := by decide +kernel
theorem dX12_soonest_51 : decode cX12_soonest 51 = .ok (.istore 6, 2) := by decide +kernel
theorem dX12_soonest_53 : decode cX12_soonest 53 = .ok (.iload 6, 2) := by decide +kernel
theorem dX12_soonest_55 : decode cX12_soonest 55 = .ok (.ldc_w 275, 3) := by decide +kernel
theorem dX12_soonest_58 : decode cX12_soonest 58 = .ok (.if_icmp .lt 6, 3) := by decide +kernel
theorem dX12_soonest_61 : decode cX12_soonest 61 = .ok (.bipush (-2), 2) := by decide +kernel
theorem dX12_soonest_63 : decode cX12_soonest 63 = .ok (.ireturn, 1) := by decide +kernel
theorem dX12_soonest_64 : decode cX12_soonest 64 = .ok (.iload 5, 2) := by decide +kernel
theorem dX12_soonest_66 : decode cX12_soonest 66 = .ok (.ifCond .ne 6, 3) := by decide +kernel
theorem dX12_soonest_69 : decode cX12_soonest 69 = .ok (.iload 6, 2) := by decide +kernel
theorem dX12_soonest_71 : decode cX12_soonest 71 = .ok (.ireturn, 1) := by decide +kernel
theorem dX12_soonest_72 : decode cX12_soonest 72 = .ok (.iconst 0, 1) := by decide +kernel
theorem dX12_soonest_73 : decode cX12_soonest 73 = .ok (.istore 7, 2) := by decide +kernel
theorem dX12_soonest_75 : decode cX12_soonest 75 = .ok (.iload 7, 2) := by decide +kernel
theorem dX12_soonest_77 : decode cX12_soonest 77 = .ok (.aload_n 0, 1) := by decide +kernel
theorem dX12_soonest_78 : decode cX12_soonest 78 = .ok (.getfield 253, 3) := by decide +kernel
theorem dX12_soonest_81 : decode cX12_soonest 81 = .ok (.if_icmp .ge 71, 3) := by decide +kernel
theorem dX12_soonest_84 : decode cX12_soonest 84 = .ok (.iload_n 2, 1) := by decide +kernel
theorem dX12_soonest_85 : decode cX12_soonest 85 = .ok (.iload 4, 2) := by decide +kernel
theorem dX12_soonest_87 : decode cX12_soonest 87 = .ok (.if_icmp .eq 65, 3) := by decide +kernel
theorem dX12_soonest_90 : decode cX12_soonest 90 = .ok (.aload_n 0, 1) := by decide +kernel
theorem dX12_soonest_91 : decode cX12_soonest 91 = .ok (.iload 7, 2) := by decide +kernel
theorem dX12_soonest_93 : decode cX12_soonest 93 = .ok (.iload_n 3, 1) := by decide +kernel
theorem dX12_soonest_94 : decode cX12_soonest 94 = .ok (.invokevirtual 265, 3) := by decide +kernel
theorem dX12_soonest_97 : decode cX12_soonest 97 = .ok (.aload_n 0, 1) := by decide +kernel
theorem dX12_soonest_98 : decode cX12_soonest 98 = .ok (.bipush 41, 2) := by decide +kernel
theorem dX12_soonest_100 : decode cX12_soonest 100 = .ok (.iload 7, 2) := by decide +kernel
theorem dX12_soonest_102 : decode cX12_soonest 102 = .ok (.iadd, 1) := by decide +kernel
theorem dX12_soonest_103 : decode cX12_soonest 103 = .ok (.invokevirtual 246, 3) := by decide +kernel
theorem dX12_soonest_106 : decode cX12_soonest 106 = .ok (.iadd, 1) := by decide +kernel
theorem dX12_soonest_107 : decode cX12_soonest 107 = .ok (.istore 8, 2) := by decide +kernel
theorem dX12_soonest_109 : decode cX12_soonest 109 = .ok (.aload_n 0, 1) := by decide +kernel
theorem dX12_soonest_110 : decode cX12_soonest 110 = .ok (.iconst 5, 1) := by decide +kernel
theorem dX12_soonest_111 : decode cX12_soonest 111 = .ok (.iload 7, 2) := by decide +kernel
theorem dX12_soonest_113 : decode cX12_soonest 113 = .ok (.iadd, 1) := by decide +kernel
theorem dX12_soonest_114 : decode cX12_soonest 114 = .ok (.invokevirtual 246, 3) := by decide +kernel
theorem dX12_soonest_117 : decode cX12_soonest 117 = .ok (.iload_n 2, 1) := by decide +kernel
theorem dX12_soonest_118 : decode cX12_soonest 118 = .ok (.if_icmp .ne 28, 3) := by decide +kernel
theorem dX12_soonest_121 : decode cX12_soonest 121 = .ok (.aload_n 0, 1) := by decide +kernel
theorem dX12_soonest_122 : decode cX12_soonest 122 = .ok (.aload_n 0, 1) := by decide +kernel
theorem dX12_soonest_123 : decode cX12_soonest 123 = .ok (.bipush 17, 2) := by decide +kernel
theorem dX12_soonest_125 : decode cX12_soonest 125 = .ok (.iload 7, 2) := by decide +kernel
theorem dX12_soonest_127 : decode cX12_soonest 127 = .ok (.iadd, 1) := by decide +kernel
theorem dX12_soonest_128 : decode cX12_soonest 128 = .ok (.invokevirtual 246, 3) := by decide +kernel
theorem dX12_soonest_131 : decode cX12_soonest 131 = .ok (.iload 8, 2) := by decide +kernel
theorem dX12_soonest_133 : decode cX12_soonest 133 = .ok (.iload 4, 2) := by decide +kernel
theorem dX12_soonest_135 : decode cX12_soonest 135 = .ok (.invokevirtual 342, 3) := by decide +kernel
theorem dX12_soonest_138 : decode cX12_soonest 138 = .ok (.iload 6, 2) := by decide +kernel
theorem dX12_soonest_140 : decode cX12_soonest 140 = .ok (.if_icmp .ne 6, 3) := by decide +kernel
theorem dX12_soonest_143 : decode cX12_soonest 143 = .ok (.iload 7, 2) := by decide +kernel
theorem dX12_soonest_145 : decode cX12_soonest 145 = .ok (.ireturn, 1) := by decide +kernel
theorem dX12_soonest_146 : decode cX12_soonest 146 = .ok (.iinc 7 1, 3) := by decide +kernel
theorem dX12_soonest_149 : decode cX12_soonest 149 = .ok (.goto (-74), 3) := by decide +kernel
theorem dX12_soonest_152 : decode cX12_soonest 152 = .ok (.iconst (-1), 1) := by decide +kernel
theorem dX12_soonest_153 : decode cX12_soonest 153 = .ok (.ireturn, 1) := by decide +kernel
theorem dX12_dutyOf_0 : decode cX12_dutyOf 0 = .ok (.iconst 0, 1) := by decide +kernel
theorem dX12_dutyOf_1 : decode cX12_dutyOf 1 = .ok (.istore_n 2, 1) := by decide +kernel
theorem dX12_dutyOf_2 : decode cX12_dutyOf 2 = .ok (.iconst 0, 1) := by decide +kernel
theorem dX12_dutyOf_3 : decode cX12_dutyOf 3 = .ok (.istore_n 3, 1) := by decide +kernel
theorem dX12_dutyOf_4 : decode cX12_dutyOf 4 = .ok (.iload_n 3, 1) := by decide +kernel
theorem dX12_dutyOf_5 : decode cX12_dutyOf 5 = .ok (.aload_n 0, 1) := by decide +kernel
theorem dX12_dutyOf_6 : decode cX12_dutyOf 6 = .ok (.getfield 256, 3) := by decide +kernel
theorem dX12_dutyOf_9 : decode cX12_dutyOf 9 = .ok (.if_icmp .ge 41, 3) := by decide +kernel
theorem dX12_dutyOf_12 : decode cX12_dutyOf 12 = .ok (.iload_n 2, 1) := by decide +kernel
theorem dX12_dutyOf_13 : decode cX12_dutyOf 13 = .ok (.aload_n 0, 1) := by decide +kernel
theorem dX12_dutyOf_14 : decode cX12_dutyOf 14 = .ok (.bipush 61, 2) := by decide +kernel
theorem dX12_dutyOf_16 : decode cX12_dutyOf 16 = .ok (.iload_n 3, 1) := by decide +kernel
theorem dX12_dutyOf_17 : decode cX12_dutyOf 17 = .ok (.iadd, 1) := by decide +kernel
theorem dX12_dutyOf_18 : decode cX12_dutyOf 18 = .ok (.invokevirtual 246, 3) := by decide +kernel
theorem dX12_dutyOf_21 : decode cX12_dutyOf 21 = .ok (.aload_n 0, 1) := by decide +kernel
theorem dX12_dutyOf_22 : decode cX12_dutyOf 22 = .ok (.bipush 81, 2) := by decide +kernel
theorem dX12_dutyOf_24 : decode cX12_dutyOf 24 = .ok (.iload_n 1, 1) := by decide +kernel
theorem dX12_dutyOf_25 : decode cX12_dutyOf 25 = .ok (.iadd, 1) := by decide +kernel
theorem dX12_dutyOf_26 : decode cX12_dutyOf 26 = .ok (.invokevirtual 246, 3) := by decide +kernel
theorem dX12_dutyOf_29 : decode cX12_dutyOf 29 = .ok (.invokestatic 100, 3) := by decide +kernel
theorem dX12_dutyOf_32 : decode cX12_dutyOf 32 = .ok (.ifCond .eq 9, 3) := by decide +kernel
theorem dX12_dutyOf_35 : decode cX12_dutyOf 35 = .ok (.iconst 1, 1) := by decide +kernel
theorem dX12_dutyOf_36 : decode cX12_dutyOf 36 = .ok (.iload_n 3, 1) := by decide +kernel
theorem dX12_dutyOf_37 : decode cX12_dutyOf 37 = .ok (.ishl, 1) := by decide +kernel
theorem dX12_dutyOf_38 : decode cX12_dutyOf 38 = .ok (.goto 4, 3) := by decide +kernel
theorem dX12_dutyOf_41 : decode cX12_dutyOf 41 = .ok (.iconst 0, 1) := by decide +kernel
theorem dX12_dutyOf_42 : decode cX12_dutyOf 42 = .ok (.ior, 1) := by decide +kernel
theorem dX12_dutyOf_43 : decode cX12_dutyOf 43 = .ok (.istore_n 2, 1) := by decide +kernel
theorem dX12_dutyOf_44 : decode cX12_dutyOf 44 = .ok (.iinc 3 1, 3) := by decide +kernel
theorem dX12_dutyOf_47 : decode cX12_dutyOf 47 = .ok (.goto (-43), 3) := by decide +kernel
theorem dX12_dutyOf_50 : decode cX12_dutyOf 50 = .ok (.iload_n 2, 1) := by decide +kernel
theorem dX12_dutyOf_51 : decode cX12_dutyOf 51 = .ok (.ireturn, 1) := by decide +kernel
theorem dX12_duty_0 : decode cX12_duty 0 = .ok (.aload_n 0, 1) := by decide +kernel
theorem dX12_duty_1 : decode cX12_duty 1 = .ok (.iconst 0, 1) := by decide +kernel
theorem dX12_duty_2 : decode cX12_duty 2 = .ok (.putfield 96, 3) := by decide +kernel
theorem dX12_duty_5 : decode cX12_duty 5 = .ok (.aload_n 0, 1) := by decide +kernel
theorem dX12_duty_6 : decode cX12_duty 6 = .ok (.iload_n 1, 1) := by decide +kernel
theorem dX12_duty_7 : decode cX12_duty 7 = .ok (.invokevirtual 282, 3) := by decide +kernel
theorem dX12_duty_10 : decode cX12_duty 10 = .ok (.ifCond .eq 19, 3) := by decide +kernel
theorem dX12_duty_13 : decode cX12_duty 13 = .ok (.aload_n 0, 1) := by decide +kernel
theorem dX12_duty_14 : decode cX12_duty 14 = .ok (.iload_n 2, 1) := by decide +kernel
theorem dX12_duty_15 : decode cX12_duty 15 = .ok (.invokevirtual 306, 3) := by decide +kernel
theorem dX12_duty_18 : decode cX12_duty 18 = .ok (.ifCond .eq 11, 3) := by decide +kernel
theorem dX12_duty_21 : decode cX12_duty 21 = .ok (.aload_n 0, 1) := by decide +kernel
theorem dX12_duty_22 : decode cX12_duty 22 = .ok (.iload_n 2, 1) := by decide +kernel
theorem dX12_duty_23 : decode cX12_duty 23 = .ok (.invokevirtual 345, 3) := by decide +kernel
theorem dX12_duty_26 : decode cX12_duty 26 = .ok (.goto 4, 3) := by decide +kernel
theorem dX12_duty_29 : decode cX12_duty 29 = .ok (.iconst (-1), 1) := by decide +kernel
theorem dX12_duty_30 : decode cX12_duty 30 = .ok (.ireturn, 1) := by decide +kernel
theorem dX12_endOf_0 : decode cX12_endOf 0 = .ok (.aload_n 0, 1) := by decide +kernel
theorem dX12_endOf_1 : decode cX12_endOf 1 = .ok (.bipush 85, 2) := by decide +kernel
theorem dX12_endOf_3 : decode cX12_endOf 3 = .ok (.iload_n 1, 1) := by decide +kernel
theorem dX12_endOf_4 : decode cX12_endOf 4 = .ok (.iadd, 1) := by decide +kernel
theorem dX12_endOf_5 : decode cX12_endOf 5 = .ok (.invokevirtual 246, 3) := by decide +kernel
theorem dX12_endOf_8 : decode cX12_endOf 8 = .ok (.istore_n 2, 1) := by decide +kernel
theorem dX12_endOf_9 : decode cX12_endOf 9 = .ok (.iconst 0, 1) := by decide +kernel
theorem dX12_endOf_10 : decode cX12_endOf 10 = .ok (.istore_n 3, 1) := by decide +kernel
theorem dX12_endOf_11 : decode cX12_endOf 11 = .ok (.iconst 0, 1) := by decide +kernel
theorem dX12_endOf_12 : decode cX12_endOf 12 = .ok (.istore 4, 2) := by decide +kernel
theorem dX12_endOf_14 : decode cX12_endOf 14 = .ok (.iload 4, 2) := by decide +kernel
theorem dX12_endOf_16 : decode cX12_endOf 16 = .ok (.aload_n 0, 1) := by decide +kernel
theorem dX12_endOf_17 : decode cX12_endOf 17 = .ok (.getfield 348, 3) := by decide +kernel
theorem dX12_endOf_20 : decode cX12_endOf 20 = .ok (.if_icmp .ge 50, 3) := by decide +kernel
theorem dX12_endOf_23 : decode cX12_endOf 23 = .ok (.ldc_w 275, 3) := by decide +kernel
theorem dX12_endOf_26 : decode cX12_endOf 26 = .ok (.aload_n 0, 1) := by decide +kernel
theorem dX12_endOf_27 : decode cX12_endOf 27 = .ok (.iload_n 2, 1) := by decide +kernel
theorem dX12_endOf_28 : decode cX12_endOf 28 = .ok (.iload_n 3, 1) := by decide +kernel
theorem dX12_endOf_29 : decode cX12_endOf 29 = .ok (.aload_n 0, 1) := by decide +kernel
theorem dX12_endOf_30 : decode cX12_endOf 30 = .ok (.getfield 68, 3) := by decide +kernel
theorem dX12_endOf_33 : decode cX12_endOf 33 = .ok (.iload 4, 2) := by decide +kernel
theorem dX12_endOf_35 : decode cX12_endOf 35 = .ok (.iaload, 1) := by decide +kernel
theorem dX12_endOf_36 : decode cX12_endOf 36 = .ok (.invokevirtual 342, 3) := by decide +kernel
theorem dX12_endOf_39 : decode cX12_endOf 39 = .ok (.aload_n 0, 1) := by decide +kernel
theorem dX12_endOf_40 : decode cX12_endOf 40 = .ok (.getfield 65, 3) := by decide +kernel
theorem dX12_endOf_43 : decode cX12_endOf 43 = .ok (.aload_n 0, 1) := by decide +kernel
theorem dX12_endOf_44 : decode cX12_endOf 44 = .ok (.getfield 68, 3) := by decide +kernel
theorem dX12_endOf_47 : decode cX12_endOf 47 = .ok (.iload 4, 2) := by decide +kernel
theorem dX12_endOf_49 : decode cX12_endOf 49 = .ok (.iaload, 1) := by decide +kernel
theorem dX12_endOf_50 : decode cX12_endOf 50 = .ok (.iaload, 1) := by decide +kernel
theorem dX12_endOf_51 : decode cX12_endOf 51 = .ok (.iadd, 1) := by decide +kernel
theorem dX12_endOf_52 : decode cX12_endOf 52 = .ok (.invokestatic 279, 3) := by decide +kernel
theorem dX12_endOf_55 : decode cX12_endOf 55 = .ok (.istore_n 3, 1) := by decide +kernel
theorem dX12_endOf_56 : decode cX12_endOf 56 = .ok (.aload_n 0, 1) := by decide +kernel
theorem dX12_endOf_57 : decode cX12_endOf 57 = .ok (.getfield 68, 3) := by decide +kernel
theorem dX12_endOf_60 : decode cX12_endOf 60 = .ok (.iload 4, 2) := by decide +kernel
theorem dX12_endOf_62 : decode cX12_endOf 62 = .ok (.iaload, 1) := by decide +kernel
theorem dX12_endOf_63 : decode cX12_endOf 63 = .ok (.istore_n 2, 1) := by decide +kernel
theorem dX12_endOf_64 : decode cX12_endOf 64 = .ok (.iinc 4 1, 3) := by decide +kernel
theorem dX12_endOf_67 : decode cX12_endOf 67 = .ok (.goto (-53), 3) := by decide +kernel
theorem dX12_endOf_70 : decode cX12_endOf 70 = .ok (.iload_n 3, 1) := by decide +kernel
theorem dX12_endOf_71 : decode cX12_endOf 71 = .ok (.ireturn, 1) := by decide +kernel
theorem dX12_nextOrder_0 : decode cX12_nextOrder 0 = .ok (.aload_n 0, 1) := by decide +kernel
theorem dX12_nextOrder_1 : decode cX12_nextOrder 1 = .ok (.getfield 348, 3) := by decide +kernel
theorem dX12_nextOrder_4 : decode cX12_nextOrder 4 = .ok (.iconst 2, 1) := by decide +kernel
theorem dX12_nextOrder_5 : decode cX12_nextOrder 5 = .ok (.isub, 1) := by decide +kernel
theorem dX12_nextOrder_6 : decode cX12_nextOrder 6 = .ok (.istore_n 1, 1) := by decide +kernel
theorem dX12_nextOrder_7 : decode cX12_nextOrder 7 = .ok (.iload_n 1, 1) := by decide +kernel
theorem dX12_nextOrder_8 : decode cX12_nextOrder 8 = .ok (.ifCond .lt 26, 3) := by decide +kernel
theorem dX12_nextOrder_11 : decode cX12_nextOrder 11 = .ok (.aload_n 0, 1) := by decide +kernel
theorem dX12_nextOrder_12 : decode cX12_nextOrder 12 = .ok (.getfield 68, 3) := by decide +kernel
theorem dX12_nextOrder_15 : decode cX12_nextOrder 15 = .ok (.iload_n 1, 1) := by decide +kernel
theorem dX12_nextOrder_16 : decode cX12_nextOrder 16 = .ok (.iaload, 1) := by decide +kernel
theorem dX12_nextOrder_17 : decode cX12_nextOrder 17 = .ok (.aload_n 0, 1) := by decide +kernel
theorem dX12_nextOrder_18 : decode cX12_nextOrder 18 = .ok (.getfield 68, 3) := by decide +kernel
theorem dX12_nextOrder_21 : decode cX12_nextOrder 21 = .ok (.iload_n 1, 1) := by decide +kernel
theorem dX12_nextOrder_22 : decode cX12_nextOrder 22 = .ok (.iconst 1, 1) := by decide +kernel
theorem dX12_nextOrder_23 : decode cX12_nextOrder 23 = .ok (.iadd, 1) := by decide +kernel
theorem dX12_nextOrder_24 : decode cX12_nextOrder 24 = .ok (.iaload, 1) := by decide +kernel
theorem dX12_nextOrder_25 : decode cX12_nextOrder 25 = .ok (.if_icmp .le 9, 3) := by decide +kernel
theorem dX12_nextOrder_28 : decode cX12_nextOrder 28 = .ok (.iinc 1 (-1), 3) := by decide +kernel
theorem dX12_nextOrder_31 : decode cX12_nextOrder 31 = .ok (.goto (-24), 3) := by decide +kernel
theorem dX12_nextOrder_34 : decode cX12_nextOrder 34 = .ok (.iload_n 1, 1) := by decide +kernel
theorem dX12_nextOrder_35 : decode cX12_nextOrder 35 = .ok (.ifCond .ge 5, 3) := by decide +kernel
theorem dX12_nextOrder_38 : decode cX12_nextOrder 38 = .ok (.iconst 0, 1) := by decide +kernel
theorem dX12_nextOrder_39 : decode cX12_nextOrder 39 = .ok (.ireturn, 1) := by decide +kernel
theorem dX12_nextOrder_40 : decode cX12_nextOrder 40 = .ok (.aload_n 0, 1) := by decide +kernel
theorem dX12_nextOrder_41 : decode cX12_nextOrder 41 = .ok (.getfield 348, 3) := by decide +kernel
theorem dX12_nextOrder_44 : decode cX12_nextOrder 44 = .ok (.iconst 1, 1) := by decide +kernel
theorem dX12_nextOrder_45 : decode cX12_nextOrder 45 = .ok (.isub, 1) := by decide +kernel
theorem dX12_nextOrder_46 : decode cX12_nextOrder 46 = .ok (.istore_n 2, 1) := by decide +kernel
theorem dX12_nextOrder_47 : decode cX12_nextOrder 47 = .ok (.aload_n 0, 1) := by decide +kernel
theorem dX12_nextOrder_48 : decode cX12_nextOrder 48 = .ok (.getfield 68, 3) := by decide +kernel
theorem dX12_nextOrder_51 : decode cX12_nextOrder 51 = .ok (.iload_n 2, 1) := by decide +kernel
theorem dX12_nextOrder_52 : decode cX12_nextOrder 52 = .ok (.iaload, 1) := by decide +kernel
theorem dX12_nextOrder_53 : decode cX12_nextOrder 53 = .ok (.aload_n 0, 1) := by decide +kernel
theorem dX12_nextOrder_54 : decode cX12_nextOrder 54 = .ok (.getfield 68, 3) := by decide +kernel
theorem dX12_nextOrder_57 : decode cX12_nextOrder 57 = .ok (.iload_n 1, 1) := by decide +kernel
theorem dX12_nextOrder_58 : decode cX12_nextOrder 58 = .ok (.iaload, 1) := by decide +kernel
theorem dX12_nextOrder_59 : decode cX12_nextOrder 59 = .ok (.if_icmp .ge 9, 3) := by decide +kernel
theorem dX12_nextOrder_62 : decode cX12_nextOrder 62 = .ok (.iinc 2 (-1), 3) := by decide +kernel
theorem dX12_nextOrder_65 : decode cX12_nextOrder 65 = .ok (.goto (-18), 3) := by decide +kernel
theorem dX12_nextOrder_68 : decode cX12_nextOrder 68 = .ok (.aload_n 0, 1) := by decide +kernel
theorem dX12_nextOrder_69 : decode cX12_nextOrder 69 = .ok (.getfield 68, 3) := by decide +kernel
theorem dX12_nextOrder_72 : decode cX12_nextOrder 72 = .ok (.iload_n 1, 1) := by decide +kernel
theorem dX12_nextOrder_73 : decode cX12_nextOrder 73 = .ok (.iaload, 1) := by decide +kernel
theorem dX12_nextOrder_74 : decode cX12_nextOrder 74 = .ok (.istore_n 3, 1) := by decide +kernel
theorem dX12_nextOrder_75 : decode cX12_nextOrder 75 = .ok (.aload_n 0, 1) := by decide +kernel
theorem dX12_nextOrder_76 : decode cX12_nextOrder 76 = .ok (.getfield 68, 3) := by decide +kernel
theorem dX12_nextOrder_79 : decode cX12_nextOrder 79 = .ok (.iload_n 1, 1) := by decide +kernel
theorem dX12_nextOrder_80 : decode cX12_nextOrder 80 = .ok (.aload_n 0, 1) := by decide +kernel
theorem dX12_nextOrder_81 : decode cX12_nextOrder 81 = .ok (.getfield 68, 3) := by decide +kernel
theorem dX12_nextOrder_84 : decode cX12_nextOrder 84 = .ok (.iload_n 2, 1) := by decide +kernel
theorem dX12_nextOrder_85 : decode cX12_nextOrder 85 = .ok (.iaload, 1) := by decide +kernel
theorem dX12_nextOrder_86 : decode cX12_nextOrder 86 = .ok (.iastore, 1) := by decide +kernel
theorem dX12_nextOrder_87 : decode cX12_nextOrder 87 = .ok (.aload_n 0, 1) := by decide +kernel
theorem dX12_nextOrder_88 : decode cX12_nextOrder 88 = .ok (.getfield 68, 3) := by decide +kernel
theorem dX12_nextOrder_91 : decode cX12_nextOrder 91 = .ok (.iload_n 2, 1) := by decide +kernel
theorem dX12_nextOrder_92 : decode cX12_nextOrder 92 = .ok (.iload_n 3, 1) := by decide +kernel
theorem dX12_nextOrder_93 : decode cX12_nextOrder 93 = .ok (.iastore, 1) := by decide +kernel
theorem dX12_nextOrder_94 : decode cX12_nextOrder 94 = .ok (.aload_n 0, 1) := by decide +kernel
theorem dX12_nextOrder_95 : decode cX12_nextOrder 95 = .ok (.getfield 348, 3) := by decide +kernel
theorem dX12_nextOrder_98 : decode cX12_nextOrder 98 = .ok (.iconst 1, 1) := by decide +kernel
theorem dX12_nextOrder_99 : decode cX12_nextOrder 99 = .ok (.isub, 1) := by decide +kernel
theorem dX12_nextOrder_100 : decode cX12_nextOrder 100 = .ok (.istore 4, 2) := by decide +kernel
theorem dX12_nextOrder_102 : decode cX12_nextOrder 102 = .ok (.iload_n 1, 1) := by decide +kernel
theorem dX12_nextOrder_103 : decode cX12_nextOrder 103 = .ok (.iconst 1, 1) := by decide +kernel
theorem dX12_nextOrder_104 : decode cX12_nextOrder 104 = .ok (.iadd, 1) := by decide +kernel
theorem dX12_nextOrder_105 : decode cX12_nextOrder 105 = .ok (.istore 5, 2) := by decide +kernel
theorem dX12_nextOrder_107 : decode cX12_nextOrder 107 = .ok (.iload 5, 2) := by decide +kernel
theorem dX12_nextOrder_109 : decode cX12_nextOrder 109 = .ok (.iload 4, 2) := by decide +kernel
theorem dX12_nextOrder_111 : decode cX12_nextOrder 111 = .ok (.if_icmp .ge 42, 3) := by decide +kernel
theorem dX12_nextOrder_114 : decode cX12_nextOrder 114 = .ok (.aload_n 0, 1) := by decide +kernel
theorem dX12_nextOrder_115 : decode cX12_nextOrder 115 = .ok (.getfield 68, 3) := by decide +kernel
theorem dX12_nextOrder_118 : decode cX12_nextOrder 118 = .ok (.iload 5, 2) := by decide +kernel
theorem dX12_nextOrder_120 : decode cX12_nextOrder 120 = .ok (.iaload, 1) := by decide +kernel
theorem dX12_nextOrder_121 : decode cX12_nextOrder 121 = .ok (.istore_n 3, 1) := by decide +kernel
theorem dX12_nextOrder_122 : decode cX12_nextOrder 122 = .ok (.aload_n 0, 1) := by decide +kernel
theorem dX12_nextOrder_123 : decode cX12_nextOrder 123 = .ok (.getfield 68, 3) := by decide +kernel
theorem dX12_nextOrder_126 : decode cX12_nextOrder 126 = .ok (.iload 5, 2) := by decide +kernel
theorem dX12_nextOrder_128 : decode cX12_nextOrder 128 = .ok (.aload_n 0, 1) := by decide +kernel
theorem dX12_nextOrder_129 : decode cX12_nextOrder 129 = .ok (.getfield 68, 3) := by decide +kernel
theorem dX12_nextOrder_132 : decode cX12_nextOrder 132 = .ok (.iload 4, 2) := by decide +kernel
theorem dX12_nextOrder_134 : decode cX12_nextOrder 134 = .ok (.iaload, 1) := by decide +kernel
theorem dX12_nextOrder_135 : decode cX12_nextOrder 135 = .ok (.iastore, 1) := by decide +kernel
theorem dX12_nextOrder_136 : decode cX12_nextOrder 136 = .ok (.aload_n 0, 1) := by decide +kernel
theorem dX12_nextOrder_137 : decode cX12_nextOrder 137 = .ok (.getfield 68, 3) := by decide +kernel
theorem dX12_nextOrder_140 : decode cX12_nextOrder 140 = .ok (.iload 4, 2) := by decide +kernel
theorem dX12_nextOrder_142 : decode cX12_nextOrder 142 = .ok (.iload_n 3, 1) := by decide +kernel
theorem dX12_nextOrder_143 : decode cX12_nextOrder 143 = .ok (.iastore, 1) := by decide +kernel
theorem dX12_nextOrder_144 : decode cX12_nextOrder 144 = .ok (.iinc 4 (-1), 3) := by decide +kernel
theorem dX12_nextOrder_147 : decode cX12_nextOrder 147 = .ok (.iinc 5 1, 3) := by decide +kernel
theorem dX12_nextOrder_150 : decode cX12_nextOrder 150 = .ok (.goto (-43), 3) := by decide +kernel
theorem dX12_nextOrder_153 : decode cX12_nextOrder 153 = .ok (.iconst 1, 1) := by decide +kernel
theorem dX12_nextOrder_154 : decode cX12_nextOrder 154 = .ok (.ireturn, 1) := by decide +kernel
theorem dX12_findRound_0 : decode cX12_findRound 0 = .ok (.iconst 0, 1) := by decide +kernel
theorem dX12_findRound_1 : decode cX12_findRound 1 = .ok (.istore_n 2, 1) := by decide +kernel
theorem dX12_findRound_2 : decode cX12_findRound 2 = .ok (.iload_n 2, 1) := by decide +kernel
theorem dX12_findRound_3 : decode cX12_findRound 3 = .ok (.bipush 6, 2) := by decide +kernel
theorem dX12_findRound_5 : decode cX12_findRound 5 = .ok (.if_icmp .ge 16, 3) := by decide +kernel
theorem dX12_findRound_8 : decode cX12_findRound 8 = .ok (.aload_n 0, 1) := by decide +kernel
theorem dX12_findRound_9 : decode cX12_findRound 9 = .ok (.getfield 65, 3) := by decide +kernel
theorem dX12_findRound_12 : decode cX12_findRound 12 = .ok (.iload_n 2, 1) := by decide +kernel
theorem dX12_findRound_13 : decode cX12_findRound 13 = .ok (.iconst 0, 1) := by decide +kernel
theorem dX12_findRound_14 : decode cX12_findRound 14 = .ok (.iastore, 1) := by decide +kernel
theorem dX12_findRound_15 : decode cX12_findRound 15 = .ok (.iinc 2 1, 3) := by decide +kernel
theorem dX12_findRound_18 : decode cX12_findRound 18 = .ok (.goto (-16), 3) := by decide +kernel
theorem dX12_findRound_21 : decode cX12_findRound 21 = .ok (.iconst 0, 1) := by decide +kernel
theorem dX12_findRound_22 : decode cX12_findRound 22 = .ok (.istore_n 2, 1) := by decide +kernel
theorem dX12_findRound_23 : decode cX12_findRound 23 = .ok (.iload_n 2, 1) := by decide +kernel
theorem dX12_findRound_24 : decode cX12_findRound 24 = .ok (.aload_n 0, 1) := by decide +kernel
theorem dX12_findRound_25 : decode cX12_findRound 25 = .ok (.getfield 256, 3) := by decide +kernel
theorem dX12_findRound_28 : decode cX12_findRound 28 = .ok (.if_icmp .ge 42, 3) := by decide +kernel
theorem dX12_findRound_31 : decode cX12_findRound 31 = .ok (.aload_n 0, 1) := by decide +kernel
theorem dX12_findRound_32 : decode cX12_findRound 32 = .ok (.getfield 65, 3) := by decide +kernel
theorem dX12_findRound_35 : decode cX12_findRound 35 = .ok (.aload_n 0, 1) := by decide +kernel
theorem dX12_findRound_36 : decode cX12_findRound 36 = .ok (.bipush 53, 2) := by decide +kernel
theorem dX12_findRound_38 : decode cX12_findRound 38 = .ok (.iload_n 2, 1) := by decide +kernel
theorem dX12_findRound_39 : decode cX12_findRound 39 = .ok (.iadd, 1) := by decide +kernel
theorem dX12_findRound_40 : decode cX12_findRound 40 = .ok (.invokevirtual 246, 3) := by decide +kernel
theorem dX12_findRound_43 : decode cX12_findRound 43 = .ok (.dup2, 1) := by decide +kernel
theorem dX12_findRound_44 : decode cX12_findRound 44 = .ok (.iaload, 1) := by decide +kernel
theorem dX12_findRound_45 : decode cX12_findRound 45 = .ok (.aload_n 0, 1) := by decide +kernel
theorem dX12_findRound_46 : decode cX12_findRound 46 = .ok (.iload_n 1, 1) := by decide +kernel
theorem dX12_findRound_47 : decode cX12_findRound 47 = .ok (.invokevirtual 345, 3) := by decide +kernel
theorem dX12_findRound_50 : decode cX12_findRound 50 = .ok (.iload_n 2, 1) := by decide +kernel
theorem dX12_findRound_51 : decode cX12_findRound 51 = .ok (.invokestatic 100, 3) := by decide +kernel
theorem dX12_findRound_54 : decode cX12_findRound 54 = .ok (.ifCond .eq 7, 3) := by decide +kernel
theorem dX12_findRound_57 : decode cX12_findRound 57 = .ok (.iconst 1, 1) := by decide +kernel
theorem dX12_findRound_58 : decode cX12_findRound 58 = .ok (.goto 4, 3) := by decide +kernel
theorem dX12_findRound_61 : decode cX12_findRound 61 = .ok (.iconst 0, 1) := by decide +kernel
theorem dX12_findRound_62 : decode cX12_findRound 62 = .ok (.iadd, 1) := by decide +kernel
theorem dX12_findRound_63 : decode cX12_findRound 63 = .ok (.iastore, 1) := by decide +kernel
theorem dX12_findRound_64 : decode cX12_findRound 64 = .ok (.iinc 2 1, 3) := by decide +kernel
theorem dX12_findRound_67 : decode cX12_findRound 67 = .ok (.goto (-44), 3) := by decide +kernel
theorem dX12_findRound_70 : decode cX12_findRound 70 = .ok (.aload_n 0, 1) := by decide +kernel
theorem dX12_findRound_71 : decode cX12_findRound 71 = .ok (.iconst 0, 1) := by decide +kernel
theorem dX12_findRound_72 : decode cX12_findRound 72 = .ok (.putfield 348, 3) := by decide +kernel
theorem dX12_findRound_75 : decode cX12_findRound 75 = .ok (.iconst 0, 1) := by decide +kernel
theorem dX12_findRound_76 : decode cX12_findRound 76 = .ok (.istore_n 2, 1) := by decide +kernel
theorem dX12_findRound_77 : decode cX12_findRound 77 = .ok (.iload_n 2, 1) := by decide +kernel
theorem dX12_findRound_78 : decode cX12_findRound 78 = .ok (.aload_n 0, 1) := by decide +kernel
theorem dX12_findRound_79 : decode cX12_findRound 79 = .ok (.getfield 250, 3) := by decide +kernel
theorem dX12_findRound_82 : decode cX12_findRound 82 = .ok (.if_icmp .ge 55, 3) := by decide +kernel
theorem dX12_findRound_85 : decode cX12_findRound 85 = .ok (.aload_n 0, 1) := by decide +kernel
theorem dX12_findRound_86 : decode cX12_findRound 86 = .ok (.getfield 68, 3) := by decide +kernel
theorem dX12_findRound_89 : decode cX12_findRound 89 = .ok (.aload_n 0, 1) := by decide +kernel
theorem dX12_findRound_90 : decode cX12_findRound 90 = .ok (.getfield 348, 3) := by decide +kernel
theorem dX12_findRound_93 : decode cX12_findRound 93 = .ok (.aload_n 0, 1) := by decide +kernel
theorem dX12_findRound_94 : decode cX12_findRound 94 = .ok (.getfield 65, 3) := by decide +kernel
theorem dX12_findRound_97 : decode cX12_findRound 97 = .ok (.iload_n 2, 1) := by decide +kernel
theorem dX12_findRound_98 : decode cX12_findRound 98 = .ok (.iaload, 1) := by decide +kernel
theorem dX12_findRound_99 : decode cX12_findRound 99 = .ok (.ifCond .le 7, 3) := by decide +kernel
theorem dX12_findRound_102 : decode cX12_findRound 102 = .ok (.iload_n 2, 1) := by decide +kernel
theorem dX12_findRound_103 : decode cX12_findRound 103 = .ok (.goto 4, 3) := by decide +kernel
theorem dX12_findRound_106 : decode cX12_findRound 106 = .ok (.iconst 0, 1) := by decide +kernel
theorem dX12_findRound_107 : decode cX12_findRound 107 = .ok (.iastore, 1) := by decide +kernel
theorem dX12_findRound_108 : decode cX12_findRound 108 = .ok (.aload_n 0, 1) := by decide +kernel
theorem dX12_findRound_109 : decode cX12_findRound 109 = .ok (.dup, 1) := by decide +kernel
theorem dX12_findRound_110 : decode cX12_findRound 110 = .ok (.getfield 348, 3) := by decide +kernel
theorem dX12_findRound_113 : decode cX12_findRound 113 = .ok (.aload_n 0, 1) := by decide +kernel
theorem dX12_findRound_114 : decode cX12_findRound 114 = .ok (.getfield 65, 3) := by decide +kernel
theorem dX12_findRound_117 : decode cX12_findRound 117 = .ok (.iload_n 2, 1) := by decide +kernel
theorem dX12_findRound_118 : decode cX12_findRound 118 = .ok (.iaload, 1) := by decide +kernel
theorem dX12_findRound_119 : decode cX12_findRound 119 = .ok (.ifCond .le 7, 3) := by decide +kernel
theorem dX12_findRound_122 : decode cX12_findRound 122 = .ok (.iconst 1, 1) := by decide +kernel
theorem dX12_findRound_123 : decode cX12_findRound 123 = .ok (.goto 4, 3) := by decide +kernel
theorem dX12_findRound_126 : decode cX12_findRound 126 = .ok (.iconst 0, 1) := by decide +kernel
theorem dX12_findRound_127 : decode cX12_findRound 127 = .ok (.iadd, 1) := by decide +kernel
theorem dX12_findRound_128 : decode cX12_findRound 128 = .ok (.putfield 348, 3) := by decide +kernel
theorem dX12_findRound_131 : decode cX12_findRound 131 = .ok (.iinc 2 1, 3) := by decide +kernel
theorem dX12_findRound_134 : decode cX12_findRound 134 = .ok (.goto (-57), 3) := by decide +kernel
theorem dX12_findRound_137 : decode cX12_findRound 137 = .ok (.ldc_w 275, 3) := by decide +kernel
theorem dX12_findRound_140 : decode cX12_findRound 140 = .ok (.istore_n 2, 1) := by decide +kernel
theorem dX12_findRound_141 : decode cX12_findRound 141 = .ok (.iconst 1, 1) := by decide +kernel
theorem dX12_findRound_142 : decode cX12_findRound 142 = .ok (.istore_n 3, 1) := by decide +kernel
theorem dX12_findRound_143 : decode cX12_findRound 143 = .ok (.iload_n 3, 1) := by decide +kernel
theorem dX12_findRound_144 : decode cX12_findRound 144 = .ok (.ifCond .eq 63, 3) := by decide +kernel
theorem dX12_findRound_147 : decode cX12_findRound 147 = .ok (.aload_n 0, 1) := by decide +kernel
theorem dX12_findRound_148 : decode cX12_findRound 148 = .ok (.iload_n 1, 1) := by decide +kernel
theorem dX12_findRound_149 : decode cX12_findRound 149 = .ok (.invokevirtual 351, 3) := by decide +kernel
theorem dX12_findRound_152 : decode cX12_findRound 152 = .ok (.istore 4, 2) := by decide +kernel
theorem dX12_findRound_154 : decode cX12_findRound 154 = .ok (.iconst 0, 1) := by decide +kernel
theorem dX12_findRound_155 : decode cX12_findRound 155 = .ok (.istore 5, 2) := by decide +kernel
theorem dX12_findRound_157 : decode cX12_findRound 157 = .ok (.iload 5, 2) := by decide +kernel
theorem dX12_findRound_159 : decode cX12_findRound 159 = .ok (.aload_n 0, 1) := by decide +kernel
theorem dX12_findRound_160 : decode cX12_findRound 160 = .ok (.getfield 348, 3) := by decide +kernel
theorem dX12_findRound_163 : decode cX12_findRound 163 = .ok (.if_icmp .ge 29, 3) := by decide +kernel
theorem dX12_findRound_166 : decode cX12_findRound 166 = .ok (.iload 4, 2) := by decide +kernel
theorem dX12_findRound_168 : decode cX12_findRound 168 = .ok (.iload_n 2, 1) := by decide +kernel
theorem dX12_findRound_169 : decode cX12_findRound 169 = .ok (.if_icmp .ge 23, 3) := by decide +kernel
theorem dX12_findRound_172 : decode cX12_findRound 172 = .ok (.aload_n 0, 1) := by decide +kernel
theorem dX12_findRound_173 : decode cX12_findRound 173 = .ok (.getfield 71, 3) := by decide +kernel
theorem dX12_findRound_176 : decode cX12_findRound 176 = .ok (.iload 5, 2) := by decide +kernel
theorem dX12_findRound_178 : decode cX12_findRound 178 = .ok (.aload_n 0, 1) := by decide +kernel
theorem dX12_findRound_179 : decode cX12_findRound 179 = .ok (.getfield 68, 3) := by decide +kernel
theorem dX12_findRound_182 : decode cX12_findRound 182 = .ok (.iload 5, 2) := by decide +kernel
theorem dX12_findRound_184 : decode cX12_findRound 184 = .ok (.iaload, 1) := by decide +kernel
theorem dX12_findRound_185 : decode cX12_findRound 185 = .ok (.iastore, 1) := by decide +kernel
theorem dX12_findRound_186 : decode cX12_findRound 186 = .ok (.iinc 5 1, 3) := by decide +kernel
theorem dX12_findRound_189 : decode cX12_findRound 189 = .ok (.goto (-32), 3) := by decide +kernel
theorem dX12_findRound_192 : decode cX12_findRound 192 = .ok (.iload_n 2, 1) := by decide +kernel
theorem dX12_findRound_193 : decode cX12_findRound 193 = .ok (.iload 4, 2) := by decide +kernel
theorem dX12_findRound_195 : decode cX12_findRound 195 = .ok (.invokestatic 279, 3) := by decide +kernel
theorem dX12_findRound_198 : decode cX12_findRound 198 = .ok (.istore_n 2, 1) := by decide +kernel
theorem dX12_findRound_199 : decode cX12_findRound 199 = .ok (.aload_n 0, 1) := by decide +kernel
theorem dX12_findRound_200 : decode cX12_findRound 200 = .ok (.invokevirtual 354, 3) := by decide +kernel
theorem dX12_findRound_203 : decode cX12_findRound 203 = .ok (.istore_n 3, 1) := by decide +kernel
theorem dX12_findRound_204 : decode cX12_findRound 204 = .ok (.goto (-61), 3) := by decide +kernel
theorem dX12_findRound_207 : decode cX12_findRound 207 = .ok (.iload_n 2, 1) := by decide +kernel
theorem dX12_findRound_208 : decode cX12_findRound 208 = .ok (.ireturn, 1) := by decide +kernel
theorem dX12_round_0 : decode cX12_round 0 = .ok (.aload_n 0, 1) := by decide +kernel
theorem dX12_round_1 : decode cX12_round 1 = .ok (.iconst 0, 1) := by decide +kernel
theorem dX12_round_2 : decode cX12_round 2 = .ok (.putfield 96, 3) := by decide +kernel
theorem dX12_round_5 : decode cX12_round 5 = .ok (.aload_n 0, 1) := by decide +kernel
theorem dX12_round_6 : decode cX12_round 6 = .ok (.iload_n 1, 1) := by decide +kernel
theorem dX12_round_7 : decode cX12_round 7 = .ok (.invokevirtual 282, 3) := by decide +kernel
theorem dX12_round_10 : decode cX12_round 10 = .ok (.ifCond .eq 11, 3) := by decide +kernel
theorem dX12_round_13 : decode cX12_round 13 = .ok (.aload_n 0, 1) := by decide +kernel
theorem dX12_round_14 : decode cX12_round 14 = .ok (.iload_n 2, 1) := by decide +kernel
theorem dX12_round_15 : decode cX12_round 15 = .ok (.invokevirtual 306, 3) := by decide +kernel
theorem dX12_round_18 : decode cX12_round 18 = .ok (.ifCond .ne 5, 3) := by decide +kernel
theorem dX12_round_21 : decode cX12_round 21 = .ok (.iconst (-1), 1) := by decide +kernel
theorem dX12_round_22 : decode cX12_round 22 = .ok (.ireturn, 1) := by decide +kernel
theorem dX12_round_23 : decode cX12_round 23 = .ok (.aload_n 0, 1) := by decide +kernel
theorem dX12_round_24 : decode cX12_round 24 = .ok (.iload_n 2, 1) := by decide +kernel
theorem dX12_round_25 : decode cX12_round 25 = .ok (.invokevirtual 357, 3) := by decide +kernel
theorem dX12_round_28 : decode cX12_round 28 = .ok (.istore 4, 2) := by decide +kernel
theorem dX12_round_30 : decode cX12_round 30 = .ok (.iload 4, 2) := by decide +kernel
theorem dX12_round_32 : decode cX12_round 32 = .ok (.ldc_w 275, 3) := by decide +kernel
theorem dX12_round_35 : decode cX12_round 35 = .ok (.if_icmp .lt 7, 3) := by decide +kernel
theorem dX12_round_38 : decode cX12_round 38 = .ok (.iconst (-1), 1) := by decide +kernel
theorem dX12_round_39 : decode cX12_round 39 = .ok (.goto 37, 3) := by decide +kernel
theorem dX12_round_42 : decode cX12_round 42 = .ok (.iload_n 3, 1) := by decide +kernel
theorem dX12_round_43 : decode cX12_round 43 = .ok (.iconst (-1), 1) := by decide +kernel
theorem dX12_round_44 : decode cX12_round 44 = .ok (.if_icmp .ne 8, 3) := by decide +kernel
theorem dX12_round_47 : decode cX12_round 47 = .ok (.iload 4, 2) := by decide +kernel
theorem dX12_round_49 : decode cX12_round 49 = .ok (.goto 27, 3) := by decide +kernel
theorem dX12_round_52 : decode cX12_round 52 = .ok (.iload_n 3, 1) := by decide +kernel
theorem dX12_round_53 : decode cX12_round 53 = .ok (.iconst 0, 1) := by decide +kernel
theorem dX12_round_54 : decode cX12_round 54 = .ok (.aload_n 0, 1) := by decide +kernel
theorem dX12_round_55 : decode cX12_round 55 = .ok (.getfield 348, 3) := by decide +kernel
theorem dX12_round_58 : decode cX12_round 58 = .ok (.iconst 1, 1) := by decide +kernel
theorem dX12_round_59 : decode cX12_round 59 = .ok (.isub, 1) := by decide +kernel
theorem dX12_round_60 : decode cX12_round 60 = .ok (.invokestatic 108, 3) := by decide +kernel
theorem dX12_round_63 : decode cX12_round 63 = .ok (.ifCond .eq 12, 3) := by decide +kernel
theorem dX12_round_66 : decode cX12_round 66 = .ok (.aload_n 0, 1) := by decide +kernel
theorem dX12_round_67 : decode cX12_round 67 = .ok (.getfield 71, 3) := by decide +kernel
theorem dX12_round_70 : decode cX12_round 70 = .ok (.iload_n 3, 1) := by decide +kernel
theorem dX12_round_71 : decode cX12_round 71 = .ok (.iaload, 1) := by decide +kernel
theorem dX12_round_72 : decode cX12_round 72 = .ok (.goto 4, 3) := by decide +kernel
theorem dX12_round_75 : decode cX12_round 75 = .ok (.iconst (-1), 1) := by decide +kernel
theorem dX12_round_76 : decode cX12_round 76 = .ok (.ireturn, 1) := by decide +kernel
theorem dX12_firstComes_0 : decode cX12_firstComes 0 = .ok (.aload_n 0, 1) := by decide +kernel
theorem dX12_firstComes_1 : decode cX12_firstComes 1 = .ok (.aload_n 0, 1) := by decide +kernel
theorem dX12_firstComes_2 : decode cX12_firstComes 2 = .ok (.bipush 85, 2) := by decide +kernel
theorem dX12_firstComes_4 : decode cX12_firstComes 4 = .ok (.iload_n 1, 1) := by decide +kernel
theorem dX12_firstComes_5 : decode cX12_firstComes 5 = .ok (.iadd, 1) := by decide +kernel
theorem dX12_firstComes_6 : decode cX12_firstComes 6 = .ok (.invokevirtual 246, 3) := by decide +kernel
theorem dX12_firstComes_9 : decode cX12_firstComes 9 = .ok (.iconst 0, 1) := by decide +kernel
theorem dX12_firstComes_10 : decode cX12_firstComes 10 = .ok (.iload_n 2, 1) := by decide +kernel
theorem dX12_firstComes_11 : decode cX12_firstComes 11 = .ok (.invokevirtual 342, 3) := by decide +kernel
theorem dX12_firstComes_14 : decode cX12_firstComes 14 = .ok (.ireturn, 1) := by decide +kernel
theorem dX12_meetBy_0 : decode cX12_meetBy 0 = .ok (.ldc_w 275, 3) := by decide +kernel
theorem dX12_meetBy_3 : decode cX12_meetBy 3 = .ok (.istore_n 2, 1) := by decide +kernel
theorem dX12_meetBy_4 : decode cX12_meetBy 4 = .ok (.aload_n 0, 1) := by decide +kernel
theorem dX12_meetBy_5 : decode cX12_meetBy 5 = .ok (.iconst (-1), 1) := by decide +kernel
theorem dX12_meetBy_6 : decode cX12_meetBy 6 = .ok (.putfield 360, 3) := by decide +kernel
theorem dX12_meetBy_9 : decode cX12_meetBy 9 = .ok (.iconst 0, 1) := by decide +kernel
theorem dX12_meetBy_10 : decode cX12_meetBy 10 = .ok (.istore_n 3, 1) := by decide +kernel
theorem dX12_meetBy_11 : decode cX12_meetBy 11 = .ok (.iload_n 3, 1) := by decide +kernel
theorem dX12_meetBy_12 : decode cX12_meetBy 12 = .ok (.aload_n 0, 1) := by decide +kernel
theorem dX12_meetBy_13 : decode cX12_meetBy 13 = .ok (.getfield 250, 3) := by decide +kernel
theorem dX12_meetBy_16 : decode cX12_meetBy 16 = .ok (.if_icmp .ge 83, 3) := by decide +kernel
theorem dX12_meetBy_19 : decode cX12_meetBy 19 = .ok (.iconst 0, 1) := by decide +kernel
theorem dX12_meetBy_20 : decode cX12_meetBy 20 = .ok (.istore 4, 2) := by decide +kernel
theorem dX12_meetBy_22 : decode cX12_meetBy 22 = .ok (.iconst 0, 1) := by decide +kernel
theorem dX12_meetBy_23 : decode cX12_meetBy 23 = .ok (.istore 5, 2) := by decide +kernel
theorem dX12_meetBy_25 : decode cX12_meetBy 25 = .ok (.iload 5, 2) := by decide +kernel
theorem dX12_meetBy_27 : decode cX12_meetBy 27 = .ok (.aload_n 0, 1) := by decide +kernel
theorem dX12_meetBy_28 : decode cX12_meetBy 28 = .ok (.getfield 259, 3) := by decide +kernel
theorem dX12_meetBy_31 : decode cX12_meetBy 31 = .ok (.if_icmp .ge 37, 3) := by decide +kernel
theorem dX12_meetBy_34 : decode cX12_meetBy 34 = .ok (.iload_n 1, 1) := by decide +kernel
theorem dX12_meetBy_35 : decode cX12_meetBy 35 = .ok (.iload 5, 2) := by decide +kernel
theorem dX12_meetBy_37 : decode cX12_meetBy 37 = .ok (.invokestatic 100, 3) := by decide +kernel
theorem dX12_meetBy_40 : decode cX12_meetBy 40 = .ok (.ifCond .eq 18, 3) := by decide +kernel
theorem dX12_meetBy_43 : decode cX12_meetBy 43 = .ok (.iload 4, 2) := by decide +kernel
theorem dX12_meetBy_45 : decode cX12_meetBy 45 = .ok (.aload_n 0, 1) := by decide +kernel
theorem dX12_meetBy_46 : decode cX12_meetBy 46 = .ok (.iload 5, 2) := by decide +kernel
theorem dX12_meetBy_48 : decode cX12_meetBy 48 = .ok (.iload_n 3, 1) := by decide +kernel
theorem dX12_meetBy_49 : decode cX12_meetBy 49 = .ok (.invokevirtual 363, 3) := by decide +kernel
theorem dX12_meetBy_52 : decode cX12_meetBy 52 = .ok (.invokestatic 170, 3) := by decide +kernel
theorem dX12_meetBy_55 : decode cX12_meetBy 55 = .ok (.goto 5, 3) := by decide +kernel
theorem dX12_meetBy_58 : decode cX12_meetBy 58 = .ok (.iload 4, 2) := by decide +kernel
theorem dX12_meetBy_60 : decode cX12_meetBy 60 = .ok (.istore 4, 2) := by decide +kernel
theorem dX12_meetBy_62 : decode cX12_meetBy 62 = .ok (.iinc 5 1, 3) := by decide +kernel
theorem dX12_meetBy_65 : decode cX12_meetBy 65 = .ok (.goto (-40), 3) := by decide +kernel
theorem dX12_meetBy_68 : decode cX12_meetBy 68 = .ok (.aload_n 0, 1) := by decide +kernel
theorem dX12_meetBy_69 : decode cX12_meetBy 69 = .ok (.iload 4, 2) := by decide +kernel
theorem dX12_meetBy_71 : decode cX12_meetBy 71 = .ok (.iload_n 2, 1) := by decide +kernel
theorem dX12_meetBy_72 : decode cX12_meetBy 72 = .ok (.if_icmp .ge 7, 3) := by decide +kernel
theorem dX12_meetBy_75 : decode cX12_meetBy 75 = .ok (.iload_n 3, 1) := by decide +kernel
theorem dX12_meetBy_76 : decode cX12_meetBy 76 = .ok (.goto 7, 3) := by decide +kernel
theorem dX12_meetBy_79 : decode cX12_meetBy 79 = .ok (.aload_n 0, 1) := by decide +kernel
theorem dX12_meetBy_80 : decode cX12_meetBy 80 = .ok (.getfield 360, 3) := by decide +kernel
theorem dX12_meetBy_83 : decode cX12_meetBy 83 = .ok (.putfield 360, 3) := by decide +kernel
theorem dX12_meetBy_86 : decode cX12_meetBy 86 = .ok (.iload_n 2, 1) := by decide +kernel
theorem dX12_meetBy_87 : decode cX12_meetBy 87 = .ok (.iload 4, 2) := by decide +kernel
theorem dX12_meetBy_89 : decode cX12_meetBy 89 = .ok (.invokestatic 279, 3) := by decide +kernel
theorem dX12_meetBy_92 : decode cX12_meetBy 92 = .ok (.istore_n 2, 1) := by decide +kernel
theorem dX12_meetBy_93 : decode cX12_meetBy 93 = .ok (.iinc 3 1, 3) := by decide +kernel
theorem dX12_meetBy_96 : decode cX12_meetBy 96 = .ok (.goto (-85), 3) := by decide +kernel
theorem dX12_meetBy_99 : decode cX12_meetBy 99 = .ok (.iload_n 2, 1) := by decide +kernel
theorem dX12_meetBy_100 : decode cX12_meetBy 100 = .ok (.ireturn, 1) := by decide +kernel
theorem dX12_meeting_0 : decode cX12_meeting 0 = .ok (.aload_n 0, 1) := by decide +kernel
theorem dX12_meeting_1 : decode cX12_meeting 1 = .ok (.iconst 0, 1) := by decide +kernel
theorem dX12_meeting_2 : decode cX12_meeting 2 = .ok (.putfield 96, 3) := by decide +kernel
theorem dX12_meeting_5 : decode cX12_meeting 5 = .ok (.aload_n 0, 1) := by decide +kernel
theorem dX12_meeting_6 : decode cX12_meeting 6 = .ok (.iload_n 1, 1) := by decide +kernel
theorem dX12_meeting_7 : decode cX12_meeting 7 = .ok (.invokevirtual 282, 3) := by decide +kernel
theorem dX12_meeting_10 : decode cX12_meeting 10 = .ok (.ifCond .eq 19, 3) := by decide +kernel
theorem dX12_meeting_13 : decode cX12_meeting 13 = .ok (.aload_n 0, 1) := by decide +kernel
theorem dX12_meeting_14 : decode cX12_meeting 14 = .ok (.iload_n 2, 1) := by decide +kernel
theorem dX12_meeting_15 : decode cX12_meeting 15 = .ok (.invokevirtual 306, 3) := by decide +kernel
theorem dX12_meeting_18 : decode cX12_meeting 18 = .ok (.ifCond .eq 11, 3) := by decide +kernel
theorem dX12_meeting_21 : decode cX12_meeting 21 = .ok (.aload_n 0, 1) := by decide +kernel
theorem dX12_meeting_22 : decode cX12_meeting 22 = .ok (.iload_n 3, 1) := by decide +kernel
theorem dX12_meeting_23 : decode cX12_meeting 23 = .ok (.invokevirtual 306, 3) := by decide +kernel
theorem dX12_meeting_26 : decode cX12_meeting 26 = .ok (.ifCond .ne 5, 3) := by decide +kernel
theorem dX12_meeting_29 : decode cX12_meeting 29 = .ok (.iconst (-1), 1) := by decide +kernel
theorem dX12_meeting_30 : decode cX12_meeting 30 = .ok (.ireturn, 1) := by decide +kernel
theorem dX12_meeting_31 : decode cX12_meeting 31 = .ok (.aload_n 0, 1) := by decide +kernel
theorem dX12_meeting_32 : decode cX12_meeting 32 = .ok (.iconst 1, 1) := by decide +kernel
theorem dX12_meeting_33 : decode cX12_meeting 33 = .ok (.iload_n 2, 1) := by decide +kernel
theorem dX12_meeting_34 : decode cX12_meeting 34 = .ok (.ishl, 1) := by decide +kernel
theorem dX12_meeting_35 : decode cX12_meeting 35 = .ok (.iconst 1, 1) := by decide +kernel
theorem dX12_meeting_36 : decode cX12_meeting 36 = .ok (.iload_n 3, 1) := by decide +kernel
theorem dX12_meeting_37 : decode cX12_meeting 37 = .ok (.ishl, 1) := by decide +kernel
theorem dX12_meeting_38 : decode cX12_meeting 38 = .ok (.ior, 1) := by decide +kernel
theorem dX12_meeting_39 : decode cX12_meeting 39 = .ok (.invokevirtual 366, 3) := by decide +kernel
theorem dX12_meeting_42 : decode cX12_meeting 42 = .ok (.istore 5, 2) := by decide +kernel
theorem dX12_meeting_44 : decode cX12_meeting 44 = .ok (.iload 5, 2) := by decide +kernel
theorem dX12_meeting_46 : decode cX12_meeting 46 = .ok (.ldc_w 275, 3) := by decide +kernel
theorem dX12_meeting_49 : decode cX12_meeting 49 = .ok (.if_icmp .lt 7, 3) := by decide +kernel
theorem dX12_meeting_52 : decode cX12_meeting 52 = .ok (.iconst (-1), 1) := by decide +kernel
theorem dX12_meeting_53 : decode cX12_meeting 53 = .ok (.goto 17, 3) := by decide +kernel
theorem dX12_meeting_56 : decode cX12_meeting 56 = .ok (.iload 4, 2) := by decide +kernel
theorem dX12_meeting_58 : decode cX12_meeting 58 = .ok (.ifCond .eq 10, 3) := by decide +kernel
theorem dX12_meeting_61 : decode cX12_meeting 61 = .ok (.aload_n 0, 1) := by decide +kernel
theorem dX12_meeting_62 : decode cX12_meeting 62 = .ok (.getfield 360, 3) := by decide +kernel
theorem dX12_meeting_65 : decode cX12_meeting 65 = .ok (.goto 5, 3) := by decide +kernel
theorem dX12_meeting_68 : decode cX12_meeting 68 = .ok (.iload 5, 2) := by decide +kernel
theorem dX12_meeting_70 : decode cX12_meeting 70 = .ok (.ireturn, 1) := by decide +kernel
theorem dX12_toOffice_0 : decode cX12_toOffice 0 = .ok (.iconst 0, 1) := by decide +kernel
theorem dX12_toOffice_1 : decode cX12_toOffice 1 = .ok (.istore_n 2, 1) := by decide +kernel
theorem dX12_toOffice_2 : decode cX12_toOffice 2 = .ok (.iconst 0, 1) := by decide +kernel
theorem dX12_toOffice_3 : decode cX12_toOffice 3 = .ok (.istore_n 3, 1) := by decide +kernel
theorem dX12_toOffice_4 : decode cX12_toOffice 4 = .ok (.iload_n 3, 1) := by decide +kernel
theorem dX12_toOffice_5 : decode cX12_toOffice 5 = .ok (.aload_n 0, 1) := by decide +kernel
theorem dX12_toOffice_6 : decode cX12_toOffice 6 = .ok (.getfield 250, 3) := by decide +kernel
theorem dX12_toOffice_9 : decode cX12_toOffice 9 = .ok (.if_icmp .ge 72, 3) := by decide +kernel
theorem dX12_toOffice_12 : decode cX12_toOffice 12 = .ok (.ldc_w 275, 3) := by decide +kernel
theorem dX12_toOffice_15 : decode cX12_toOffice 15 = .ok (.istore 4, 2) := by decide +kernel
theorem dX12_toOffice_17 : decode cX12_toOffice 17 = .ok (.iconst 0, 1) := by decide +kernel
theorem dX12_toOffice_18 : decode cX12_toOffice 18 = .ok (.istore 5, 2) := by decide +kernel
theorem dX12_toOffice_20 : decode cX12_toOffice 20 = .ok (.iload 5, 2) := by decide +kernel
theorem dX12_toOffice_22 : decode cX12_toOffice 22 = .ok (.aload_n 0, 1) := by decide +kernel
theorem dX12_toOffice_23 : decode cX12_toOffice 23 = .ok (.getfield 250, 3) := by decide +kernel
theorem dX12_toOffice_26 : decode cX12_toOffice 26 = .ok (.if_icmp .ge 38, 3) := by decide +kernel
theorem dX12_toOffice_29 : decode cX12_toOffice 29 = .ok (.iload_n 1, 1) := by decide +kernel
theorem dX12_toOffice_30 : decode cX12_toOffice 30 = .ok (.iload 5, 2) := by decide +kernel
theorem dX12_toOffice_32 : decode cX12_toOffice 32 = .ok (.invokestatic 100, 3) := by decide +kernel
theorem dX12_toOffice_35 : decode cX12_toOffice 35 = .ok (.ifCond .eq 19, 3) := by decide +kernel
theorem dX12_toOffice_38 : decode cX12_toOffice 38 = .ok (.iload 4, 2) := by decide +kernel
theorem dX12_toOffice_40 : decode cX12_toOffice 40 = .ok (.aload_n 0, 1) := by decide +kernel
theorem dX12_toOffice_41 : decode cX12_toOffice 41 = .ok (.iload_n 3, 1) := by decide +kernel
theorem dX12_toOffice_42 : decode cX12_toOffice 42 = .ok (.iconst 0, 1) := by decide +kernel
theorem dX12_toOffice_43 : decode cX12_toOffice 43 = .ok (.iload 5, 2) := by decide +kernel
theorem dX12_toOffice_45 : decode cX12_toOffice 45 = .ok (.invokevirtual 342, 3) := by decide +kernel
theorem dX12_toOffice_48 : decode cX12_toOffice 48 = .ok (.invokestatic 279, 3) := by decide +kernel
theorem dX12_toOffice_51 : decode cX12_toOffice 51 = .ok (.goto 5, 3) := by decide +kernel
theorem dX12_toOffice_54 : decode cX12_toOffice 54 = .ok (.iload 4, 2) := by decide +kernel
theorem dX12_toOffice_56 : decode cX12_toOffice 56 = .ok (.istore 4, 2) := by decide +kernel
theorem dX12_toOffice_58 : decode cX12_toOffice 58 = .ok (.iinc 5 1, 3) := by decide +kernel
theorem dX12_toOffice_61 : decode cX12_toOffice 61 = .ok (.goto (-41), 3) := by decide +kernel
theorem dX12_toOffice_64 : decode cX12_toOffice 64 = .ok (.ldc_w 275, 3) := by decide +kernel
theorem dX12_toOffice_67 : decode cX12_toOffice 67 = .ok (.iload_n 2, 1) := by decide +kernel
theorem dX12_toOffice_68 : decode cX12_toOffice 68 = .ok (.iload 4, 2) := by decide +kernel
theorem dX12_toOffice_70 : decode cX12_toOffice 70 = .ok (.iadd, 1) := by decide +kernel
theorem dX12_toOffice_71 : decode cX12_toOffice 71 = .ok (.invokestatic 279, 3) := by decide +kernel
theorem dX12_toOffice_74 : decode cX12_toOffice 74 = .ok (.istore_n 2, 1) := by decide +kernel
theorem dX12_toOffice_75 : decode cX12_toOffice 75 = .ok (.iinc 3 1, 3) := by decide +kernel
theorem dX12_toOffice_78 : decode cX12_toOffice 78 = .ok (.goto (-74), 3) := by decide +kernel
theorem dX12_toOffice_81 : decode cX12_toOffice 81 = .ok (.iload_n 2, 1) := by decide +kernel
theorem dX12_toOffice_82 : decode cX12_toOffice 82 = .ok (.ireturn, 1) := by decide +kernel
theorem dX12_offices_0 : decode cX12_offices 0 = .ok (.aload_n 0, 1) := by decide +kernel
theorem dX12_offices_1 : decode cX12_offices 1 = .ok (.iconst 0, 1) := by decide +kernel
theorem dX12_offices_2 : decode cX12_offices 2 = .ok (.putfield 96, 3) := by decide +kernel
theorem dX12_offices_5 : decode cX12_offices 5 = .ok (.iload_n 2, 1) := by decide +kernel
theorem dX12_offices_6 : decode cX12_offices 6 = .ok (.iconst 1, 1) := by decide +kernel
theorem dX12_offices_7 : decode cX12_offices 7 = .ok (.bipush 6, 2) := by decide +kernel
theorem dX12_offices_9 : decode cX12_offices 9 = .ok (.invokestatic 108, 3) := by decide +kernel
theorem dX12_offices_12 : decode cX12_offices 12 = .ok (.ifCond .eq 19, 3) := by decide +kernel
theorem dX12_offices_15 : decode cX12_offices 15 = .ok (.aload_n 0, 1) := by decide +kernel
theorem dX12_offices_16 : decode cX12_offices 16 = .ok (.iload_n 1, 1) := by decide +kernel
theorem dX12_offices_17 : decode cX12_offices 17 = .ok (.invokevirtual 282, 3) := by decide +kernel
theorem dX12_offices_20 : decode cX12_offices 20 = .ok (.ifCond .eq 11, 3) := by decide +kernel
theorem dX12_offices_23 : decode cX12_offices 23 = .ok (.iload_n 2, 1) := by decide +kernel
theorem dX12_offices_24 : decode cX12_offices 24 = .ok (.aload_n 0, 1) := by decide +kernel
theorem dX12_offices_25 : decode cX12_offices 25 = .ok (.getfield 250, 3) := by decide +kernel
theorem dX12_offices_28 : decode cX12_offices 28 = .ok (.if_icmp .le 5, 3) := by decide +kernel
theorem dX12_offices_31 : decode cX12_offices 31 = .ok (.iconst (-1), 1) := by decide +kernel
theorem dX12_offices_32 : decode cX12_offices 32 = .ok (.ireturn, 1) := by decide +kernel
theorem dX12_offices_33 : decode cX12_offices 33 = .ok (.iconst (-1), 1) := by decide +kernel
theorem dX12_offices_34 : decode cX12_offices 34 = .ok (.istore 4, 2) := by decide +kernel
theorem dX12_offices_36 : decode cX12_offices 36 = .ok (.ldc_w 275, 3) := by decide +kernel
theorem dX12_offices_39 : decode cX12_offices 39 = .ok (.istore 5, 2) := by decide +kernel
theorem dX12_offices_41 : decode cX12_offices 41 = .ok (.iconst 0, 1) := by decide +kernel
theorem dX12_offices_42 : decode cX12_offices 42 = .ok (.istore 6, 2) := by decide +kernel
theorem dX12_offices_44 : decode cX12_offices 44 = .ok (.iload 6, 2) := by decide +kernel
theorem dX12_offices_46 : decode cX12_offices 46 = .ok (.iconst 1, 1) := by decide +kernel
theorem dX12_offices_47 : decode cX12_offices 47 = .ok (.aload_n 0, 1) := by decide +kernel
theorem dX12_offices_48 : decode cX12_offices 48 = .ok (.getfield 250, 3) := by decide +kernel
theorem dX12_offices_51 : decode cX12_offices 51 = .ok (.ishl, 1) := by decide +kernel
