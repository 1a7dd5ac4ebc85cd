theorem dX12_init_0 : decode cX12_init 0 = .ok (.aload_n 0, 1) := by decide +kernel
theorem dX12_init_1 : decode cX12_init 1 = .ok (.invokespecial 1, 3) := by decide +kernel
theorem dX12_init_4 : decode cX12_init 4 = .ok (.aload_n 0, 1) := by decide +kernel
theorem dX12_init_5 : decode cX12_init 5 = .ok (.sipush 2400, 3) := by decide +kernel
theorem dX12_init_8 : decode cX12_init 8 = .ok (.newarray .byte, 2) := by decide +kernel
theorem dX12_init_10 : decode cX12_init 10 = .ok (.putfield 7, 3) := by decide +kernel
theorem dX12_init_13 : decode cX12_init 13 = .ok (.aload_n 0, 1) := by decide +kernel
theorem dX12_init_14 : decode cX12_init 14 = .ok (.iconst 4, 1) := by decide +kernel
theorem dX12_init_15 : decode cX12_init 15 = .ok (.newarray .int, 2) := by decide +kernel
theorem dX12_init_17 : decode cX12_init 17 = .ok (.putfield 13, 3) := by decide +kernel
theorem dX12_init_20 : decode cX12_init 20 = .ok (.aload_n 0, 1) := by decide +kernel
theorem dX12_init_21 : decode cX12_init 21 = .ok (.iconst 4, 1) := by decide +kernel
theorem dX12_init_22 : decode cX12_init 22 = .ok (.newarray .int, 2) := by decide +kernel
theorem dX12_init_24 : decode cX12_init 24 = .ok (.putfield 17, 3) := by decide +kernel
theorem dX12_init_27 : decode cX12_init 27 = .ok (.aload_n 0, 1) := by decide +kernel
theorem dX12_init_28 : decode cX12_init 28 = .ok (.iconst 4, 1) := by decide +kernel
theorem dX12_init_29 : decode cX12_init 29 = .ok (.newarray .int, 2) := by decide +kernel
theorem dX12_init_31 : decode cX12_init 31 = .ok (.putfield 20, 3) := by decide +kernel
theorem dX12_init_34 : decode cX12_init 34 = .ok (.aload_n 0, 1) := by decide +kernel
theorem dX12_init_35 : decode cX12_init 35 = .ok (.bipush 12, 2) := by decide +kernel
theorem dX12_init_37 : decode cX12_init 37 = .ok (.newarray .int, 2) := by decide +kernel
theorem dX12_init_39 : decode cX12_init 39 = .ok (.putfield 23, 3) := by decide +kernel
theorem dX12_init_42 : decode cX12_init 42 = .ok (.aload_n 0, 1) := by decide +kernel
theorem dX12_init_43 : decode cX12_init 43 = .ok (.sipush 712, 3) := by decide +kernel
theorem dX12_init_46 : decode cX12_init 46 = .ok (.newarray .int, 2) := by decide +kernel
theorem dX12_init_48 : decode cX12_init 48 = .ok (.putfield 26, 3) := by decide +kernel
theorem dX12_init_51 : decode cX12_init 51 = .ok (.aload_n 0, 1) := by decide +kernel
theorem dX12_init_52 : decode cX12_init 52 = .ok (.sipush 968, 3) := by decide +kernel
theorem dX12_init_55 : decode cX12_init 55 = .ok (.newarray .int, 2) := by decide +kernel
theorem dX12_init_57 : decode cX12_init 57 = .ok (.putfield 29, 3) := by decide +kernel
theorem dX12_init_60 : decode cX12_init 60 = .ok (.aload_n 0, 1) := by decide +kernel
theorem dX12_init_61 : decode cX12_init 61 = .ok (.sipush 136, 3) := by decide +kernel
theorem dX12_init_64 : decode cX12_init 64 = .ok (.newarray .int, 2) := by decide +kernel
theorem dX12_init_66 : decode cX12_init 66 = .ok (.putfield 32, 3) := by decide +kernel
theorem dX12_init_69 : decode cX12_init 69 = .ok (.aload_n 0, 1) := by decide +kernel
theorem dX12_init_70 : decode cX12_init 70 = .ok (.bipush 121, 2) := by decide +kernel
theorem dX12_init_72 : decode cX12_init 72 = .ok (.newarray .int, 2) := by decide +kernel
theorem dX12_init_74 : decode cX12_init 74 = .ok (.putfield 35, 3) := by decide +kernel
theorem dX12_init_77 : decode cX12_init 77 = .ok (.aload_n 0, 1) := by decide +kernel
theorem dX12_init_78 : decode cX12_init 78 = .ok (.iconst 4, 1) := by decide +kernel
theorem dX12_init_79 : decode cX12_init 79 = .ok (.newarray .int, 2) := by decide +kernel
theorem dX12_init_81 : decode cX12_init 81 = .ok (.putfield 38, 3) := by decide +kernel
theorem dX12_init_84 : decode cX12_init 84 = .ok (.aload_n 0, 1) := by decide +kernel
theorem dX12_init_85 : decode cX12_init 85 = .ok (.sipush 432, 3) := by decide +kernel
theorem dX12_init_88 : decode cX12_init 88 = .ok (.newarray .int, 2) := by decide +kernel
theorem dX12_init_90 : decode cX12_init 90 = .ok (.putfield 41, 3) := by decide +kernel
theorem dX12_init_93 : decode cX12_init 93 = .ok (.aload_n 0, 1) := by decide +kernel
theorem dX12_init_94 : decode cX12_init 94 = .ok (.iconst 4, 1) := by decide +kernel
theorem dX12_init_95 : decode cX12_init 95 = .ok (.newarray .int, 2) := by decide +kernel
theorem dX12_init_97 : decode cX12_init 97 = .ok (.putfield 44, 3) := by decide +kernel
theorem dX12_init_100 : decode cX12_init 100 = .ok (.aload_n 0, 1) := by decide +kernel
theorem dX12_init_101 : decode cX12_init 101 = .ok (.iconst 4, 1) := by decide +kernel
theorem dX12_init_102 : decode cX12_init 102 = .ok (.newarray .int, 2) := by decide +kernel
theorem dX12_init_104 : decode cX12_init 104 = .ok (.putfield 47, 3) := by decide +kernel
theorem dX12_init_107 : decode cX12_init 107 = .ok (.aload_n 0, 1) := by decide +kernel
theorem dX12_init_108 : decode cX12_init 108 = .ok (.iconst 4, 1) := by decide +kernel
theorem dX12_init_109 : decode cX12_init 109 = .ok (.newarray .int, 2) := by decide +kernel
theorem dX12_init_111 : decode cX12_init 111 = .ok (.putfield 50, 3) := by decide +kernel
theorem dX12_init_114 : decode cX12_init 114 = .ok (.aload_n 0, 1) := by decide +kernel
theorem dX12_init_115 : decode cX12_init 115 = .ok (.iconst 4, 1) := by decide +kernel
theorem dX12_init_116 : decode cX12_init 116 = .ok (.newarray .int, 2) := by decide +kernel
theorem dX12_init_118 : decode cX12_init 118 = .ok (.putfield 53, 3) := by decide +kernel
theorem dX12_init_121 : decode cX12_init 121 = .ok (.aload_n 0, 1) := by decide +kernel
theorem dX12_init_122 : decode cX12_init 122 = .ok (.iconst 4, 1) := by decide +kernel
theorem dX12_init_123 : decode cX12_init 123 = .ok (.newarray .int, 2) := by decide +kernel
theorem dX12_init_125 : decode cX12_init 125 = .ok (.putfield 56, 3) := by decide +kernel
theorem dX12_init_128 : decode cX12_init 128 = .ok (.aload_n 0, 1) := by decide +kernel
theorem dX12_init_129 : decode cX12_init 129 = .ok (.bipush 8, 2) := by decide +kernel
theorem dX12_init_131 : decode cX12_init 131 = .ok (.newarray .int, 2) := by decide +kernel
theorem dX12_init_133 : decode cX12_init 133 = .ok (.putfield 59, 3) := by decide +kernel
theorem dX12_init_136 : decode cX12_init 136 = .ok (.aload_n 0, 1) := by decide +kernel
theorem dX12_init_137 : decode cX12_init 137 = .ok (.bipush 80, 2) := by decide +kernel
theorem dX12_init_139 : decode cX12_init 139 = .ok (.newarray .int, 2) := by decide +kernel
theorem dX12_init_141 : decode cX12_init 141 = .ok (.putfield 62, 3) := by decide +kernel
theorem dX12_init_144 : decode cX12_init 144 = .ok (.aload_n 0, 1) := by decide +kernel
theorem dX12_init_145 : decode cX12_init 145 = .ok (.bipush 6, 2) := by decide +kernel
theorem dX12_init_147 : decode cX12_init 147 = .ok (.newarray .int, 2) := by decide +kernel
theorem dX12_init_149 : decode cX12_init 149 = .ok (.putfield 65, 3) := by decide +kernel
theorem dX12_init_152 : decode cX12_init 152 = .ok (.aload_n 0, 1) := by decide +kernel
theorem dX12_init_153 : decode cX12_init 153 = .ok (.bipush 6, 2) := by decide +kernel
theorem dX12_init_155 : decode cX12_init 155 = .ok (.newarray .int, 2) := by decide +kernel
theorem dX12_init_157 : decode cX12_init 157 = .ok (.putfield 68, 3) := by decide +kernel
theorem dX12_init_160 : decode cX12_init 160 = .ok (.aload_n 0, 1) := by decide +kernel
theorem dX12_init_161 : decode cX12_init 161 = .ok (.bipush 6, 2) := by decide +kernel
theorem dX12_init_163 : decode cX12_init 163 = .ok (.newarray .int, 2) := by decide +kernel
theorem dX12_init_165 : decode cX12_init 165 = .ok (.putfield 71, 3) := by decide +kernel
theorem dX12_init_168 : decode cX12_init 168 = .ok (.aload_n 0, 1) := by decide +kernel
theorem dX12_init_169 : decode cX12_init 169 = .ok (.bipush 6, 2) := by decide +kernel
theorem dX12_init_171 : decode cX12_init 171 = .ok (.newarray .int, 2) := by decide +kernel
theorem dX12_init_173 : decode cX12_init 173 = .ok (.putfield 74, 3) := by decide +kernel
theorem dX12_init_176 : decode cX12_init 176 = .ok (.aload_n 0, 1) := by decide +kernel
theorem dX12_init_177 : decode cX12_init 177 = .ok (.sipush 750, 3) := by decide +kernel
theorem dX12_init_180 : decode cX12_init 180 = .ok (.newarray .boolean, 2) := by decide +kernel
theorem dX12_init_182 : decode cX12_init 182 = .ok (.putfield 77, 3) := by decide +kernel
theorem dX12_init_185 : decode cX12_init 185 = .ok (.aload_n 0, 1) := by decide +kernel
theorem dX12_init_186 : decode cX12_init 186 = .ok (.sipush 750, 3) := by decide +kernel
theorem dX12_init_189 : decode cX12_init 189 = .ok (.newarray .boolean, 2) := by decide +kernel
theorem dX12_init_191 : decode cX12_init 191 = .ok (.putfield 81, 3) := by decide +kernel
theorem dX12_init_194 : decode cX12_init 194 = .ok (.aload_n 0, 1) := by decide +kernel
theorem dX12_init_195 : decode cX12_init 195 = .ok (.sipush 432, 3) := by decide +kernel
theorem dX12_init_198 : decode cX12_init 198 = .ok (.newarray .int, 2) := by decide +kernel
theorem dX12_init_200 : decode cX12_init 200 = .ok (.putfield 84, 3) := by decide +kernel
theorem dX12_init_203 : decode cX12_init 203 = .ok (.aload_n 0, 1) := by decide +kernel
theorem dX12_init_204 : decode cX12_init 204 = .ok (.bipush 64, 2) := by decide +kernel
theorem dX12_init_206 : decode cX12_init 206 = .ok (.newarray .int, 2) := by decide +kernel
theorem dX12_init_208 : decode cX12_init 208 = .ok (.putfield 87, 3) := by decide +kernel
theorem dX12_init_211 : decode cX12_init 211 = .ok (.aload_n 0, 1) := by decide +kernel
theorem dX12_init_212 : decode cX12_init 212 = .ok (.bipush 6, 2) := by decide +kernel
theorem dX12_init_214 : decode cX12_init 214 = .ok (.newarray .int, 2) := by decide +kernel
theorem dX12_init_216 : decode cX12_init 216 = .ok (.putfield 90, 3) := by decide +kernel
theorem dX12_init_219 : decode cX12_init 219 = .ok (.aload_n 0, 1) := by decide +kernel
theorem dX12_init_220 : decode cX12_init 220 = .ok (.iconst 3, 1) := by decide +kernel
theorem dX12_init_221 : decode cX12_init 221 = .ok (.newarray .boolean, 2) := by decide +kernel
theorem dX12_init_223 : decode cX12_init 223 = .ok (.putfield 93, 3) := by decide +kernel
theorem dX12_init_226 : decode cX12_init 226 = .ok (.aload_n 0, 1) := by decide +kernel
theorem dX12_init_227 : decode cX12_init 227 = .ok (.getfield 20, 3) := by decide +kernel
theorem dX12_init_230 : decode cX12_init 230 = .ok (.iconst 0, 1) := by decide +kernel
theorem dX12_init_231 : decode cX12_init 231 = .ok (.iconst (-1), 1) := by decide +kernel
theorem dX12_init_232 : decode cX12_init 232 = .ok (.iastore, 1) := by decide +kernel
theorem dX12_init_233 : decode cX12_init 233 = .ok (.return_, 1) := by decide +kernel
theorem dX12_in_0 : decode cX12_in 0 = .ok (.iload_n 0, 1) := by decide +kernel
theorem dX12_in_1 : decode cX12_in 1 = .ok (.iload_n 1, 1) := by decide +kernel
theorem dX12_in_2 : decode cX12_in 2 = .ok (.if_icmp .lt 12, 3) := by decide +kernel
theorem dX12_in_5 : decode cX12_in 5 = .ok (.iload_n 0, 1) := by decide +kernel
theorem dX12_in_6 : decode cX12_in 6 = .ok (.iload_n 2, 1) := by decide +kernel
theorem dX12_in_7 : decode cX12_in 7 = .ok (.if_icmp .gt 7, 3) := by decide +kernel
theorem dX12_in_10 : decode cX12_in 10 = .ok (.iconst 1, 1) := by decide +kernel
theorem dX12_in_11 : decode cX12_in 11 = .ok (.goto 4, 3) := by decide +kernel
theorem dX12_in_14 : decode cX12_in 14 = .ok (.iconst 0, 1) := by decide +kernel
theorem dX12_in_15 : decode cX12_in 15 = .ok (.ireturn, 1) := by decide +kernel
theorem dX12_has_0 : decode cX12_has 0 = .ok (.iload_n 0, 1) := by decide +kernel
theorem dX12_has_1 : decode cX12_has 1 = .ok (.iload_n 1, 1) := by decide +kernel
theorem dX12_has_2 : decode cX12_has 2 = .ok (.ishr, 1) := by decide +kernel
theorem dX12_has_3 : decode cX12_has 3 = .ok (.iconst 1, 1) := by decide +kernel
theorem dX12_has_4 : decode cX12_has 4 = .ok (.iand, 1) := by decide +kernel
theorem dX12_has_5 : decode cX12_has 5 = .ok (.iconst 1, 1) := by decide +kernel
theorem dX12_has_6 : decode cX12_has 6 = .ok (.if_icmp .ne 7, 3) := by decide +kernel
theorem dX12_has_9 : decode cX12_has 9 = .ok (.iconst 1, 1) := by decide +kernel
theorem dX12_has_10 : decode cX12_has 10 = .ok (.goto 4, 3) := by decide +kernel
theorem dX12_has_13 : decode cX12_has 13 = .ok (.iconst 0, 1) := by decide +kernel
theorem dX12_has_14 : decode cX12_has 14 = .ok (.ireturn, 1) := by decide +kernel
theorem dX12_greater_0 : decode cX12_greater 0 = .ok (.iload_n 0, 1) := by decide +kernel
theorem dX12_greater_1 : decode cX12_greater 1 = .ok (.iload_n 1, 1) := by decide +kernel
theorem dX12_greater_2 : decode cX12_greater 2 = .ok (.if_icmp .le 7, 3) := by decide +kernel
theorem dX12_greater_5 : decode cX12_greater 5 = .ok (.iload_n 0, 1) := by decide +kernel
theorem dX12_greater_6 : decode cX12_greater 6 = .ok (.goto 4, 3) := by decide +kernel
theorem dX12_greater_9 : decode cX12_greater 9 = .ok (.iload_n 1, 1) := by decide +kernel
theorem dX12_greater_10 : decode cX12_greater 10 = .ok (.ireturn, 1) := by decide +kernel
theorem dX12_lesser_0 : decode cX12_lesser 0 = .ok (.iload_n 0, 1) := by decide +kernel
theorem dX12_lesser_1 : decode cX12_lesser 1 = .ok (.iload_n 1, 1) := by decide +kernel
theorem dX12_lesser_2 : decode cX12_lesser 2 = .ok (.if_icmp .ge 7, 3) := by decide +kernel
theorem dX12_lesser_5 : decode cX12_lesser 5 = .ok (.iload_n 0, 1) := by decide +kernel
theorem dX12_lesser_6 : decode cX12_lesser 6 = .ok (.goto 4, 3) := by decide +kernel
theorem dX12_lesser_9 : decode cX12_lesser 9 = .ok (.iload_n 1, 1) := by decide +kernel
theorem dX12_lesser_10 : decode cX12_lesser 10 = .ok (.ireturn, 1) := by decide +kernel
theorem dX12_ones_0 : decode cX12_ones 0 = .ok (.iconst 0, 1) := by decide +kernel
theorem dX12_ones_1 : decode cX12_ones 1 = .ok (.istore_n 1, 1) := by decide +kernel
theorem dX12_ones_2 : decode cX12_ones 2 = .ok (.iconst 0, 1) := by decide +kernel
theorem dX12_ones_3 : decode cX12_ones 3 = .ok (.istore_n 2, 1) := by decide +kernel
theorem dX12_ones_4 : decode cX12_ones 4 = .ok (.iload_n 2, 1) := by decide +kernel
theorem dX12_ones_5 : decode cX12_ones 5 = .ok (.bipush 6, 2) := by decide +kernel
theorem dX12_ones_7 : decode cX12_ones 7 = .ok (.if_icmp .ge 25, 3) := by decide +kernel
theorem dX12_ones_10 : decode cX12_ones 10 = .ok (.iload_n 1, 1) := by decide +kernel
theorem dX12_ones_11 : decode cX12_ones 11 = .ok (.iload_n 0, 1) := by decide +kernel
theorem dX12_ones_12 : decode cX12_ones 12 = .ok (.iload_n 2, 1) := by decide +kernel
theorem dX12_ones_13 : decode cX12_ones 13 = .ok (.invokestatic 100, 3) := by decide +kernel
theorem dX12_ones_16 : decode cX12_ones 16 = .ok (.ifCond .eq 7, 3) := by decide +kernel
theorem dX12_ones_19 : decode cX12_ones 19 = .ok (.iconst 1, 1) := by decide +kernel
theorem dX12_ones_20 : decode cX12_ones 20 = .ok (.goto 4, 3) := by decide +kernel
theorem dX12_ones_23 : decode cX12_ones 23 = .ok (.iconst 0, 1) := by decide +kernel
theorem dX12_ones_24 : decode cX12_ones 24 = .ok (.iadd, 1) := by decide +kernel
theorem dX12_ones_25 : decode cX12_ones 25 = .ok (.istore_n 1, 1) := by decide +kernel
theorem dX12_ones_26 : decode cX12_ones 26 = .ok (.iinc 2 1, 3) := by decide +kernel
theorem dX12_ones_29 : decode cX12_ones 29 = .ok (.goto (-25), 3) := by decide +kernel
theorem dX12_ones_32 : decode cX12_ones 32 = .ok (.iload_n 1, 1) := by decide +kernel
theorem dX12_ones_33 : decode cX12_ones 33 = .ok (.ireturn, 1) := by decide +kernel
theorem dX12_copyRow_0 : decode cX12_copyRow 0 = .ok (.iconst 0, 1) := by decide +kernel
theorem dX12_copyRow_1 : decode cX12_copyRow 1 = .ok (.istore 4, 2) := by decide +kernel
theorem dX12_copyRow_3 : decode cX12_copyRow 3 = .ok (.iload 4, 2) := by decide +kernel
theorem dX12_copyRow_5 : decode cX12_copyRow 5 = .ok (.iload_n 1, 1) := by decide +kernel
theorem dX12_copyRow_6 : decode cX12_copyRow 6 = .ok (.if_icmp .ge 25, 3) := by decide +kernel
theorem dX12_copyRow_9 : decode cX12_copyRow 9 = .ok (.aload_n 0, 1) := by decide +kernel
theorem dX12_copyRow_10 : decode cX12_copyRow 10 = .ok (.iload_n 1, 1) := by decide +kernel
theorem dX12_copyRow_11 : decode cX12_copyRow 11 = .ok (.iload_n 3, 1) := by decide +kernel
theorem dX12_copyRow_12 : decode cX12_copyRow 12 = .ok (.imul, 1) := by decide +kernel
theorem dX12_copyRow_13 : decode cX12_copyRow 13 = .ok (.iload 4, 2) := by decide +kernel
theorem dX12_copyRow_15 : decode cX12_copyRow 15 = .ok (.iadd, 1) := by decide +kernel
theorem dX12_copyRow_16 : decode cX12_copyRow 16 = .ok (.aload_n 0, 1) := by decide +kernel
theorem dX12_copyRow_17 : decode cX12_copyRow 17 = .ok (.iload_n 1, 1) := by decide +kernel
theorem dX12_copyRow_18 : decode cX12_copyRow 18 = .ok (.iload_n 2, 1) := by decide +kernel
theorem dX12_copyRow_19 : decode cX12_copyRow 19 = .ok (.imul, 1) := by decide +kernel
theorem dX12_copyRow_20 : decode cX12_copyRow 20 = .ok (.iload 4, 2) := by decide +kernel
theorem dX12_copyRow_22 : decode cX12_copyRow 22 = .ok (.iadd, 1) := by decide +kernel
theorem dX12_copyRow_23 : decode cX12_copyRow 23 = .ok (.iaload, 1) := by decide +kernel
theorem dX12_copyRow_24 : decode cX12_copyRow 24 = .ok (.iastore, 1) := by decide +kernel
theorem dX12_copyRow_25 : decode cX12_copyRow 25 = .ok (.iinc 4 1, 3) := by decide +kernel
theorem dX12_copyRow_28 : decode cX12_copyRow 28 = .ok (.goto (-25), 3) := by decide +kernel
theorem dX12_copyRow_31 : decode cX12_copyRow 31 = .ok (.return_, 1) := by decide +kernel
theorem dX12_copyAll_0 : decode cX12_copyAll 0 = .ok (.iconst 0, 1) := by decide +kernel
theorem dX12_copyAll_1 : decode cX12_copyAll 1 = .ok (.istore_n 3, 1) := by decide +kernel
theorem dX12_copyAll_2 : decode cX12_copyAll 2 = .ok (.iload_n 3, 1) := by decide +kernel
theorem dX12_copyAll_3 : decode cX12_copyAll 3 = .ok (.sipush 600, 3) := by decide +kernel
theorem dX12_copyAll_6 : decode cX12_copyAll 6 = .ok (.if_icmp .ge 33, 3) := by decide +kernel
theorem dX12_copyAll_9 : decode cX12_copyAll 9 = .ok (.aload_n 0, 1) := by decide +kernel
theorem dX12_copyAll_10 : decode cX12_copyAll 10 = .ok (.getfield 7, 3) := by decide +kernel
theorem dX12_copyAll_13 : decode cX12_copyAll 13 = .ok (.sipush 600, 3) := by decide +kernel
theorem dX12_copyAll_16 : decode cX12_copyAll 16 = .ok (.iload_n 2, 1) := by decide +kernel
theorem dX12_copyAll_17 : decode cX12_copyAll 17 = .ok (.imul, 1) := by decide +kernel
theorem dX12_copyAll_18 : decode cX12_copyAll 18 = .ok (.iload_n 3, 1) := by decide +kernel
theorem dX12_copyAll_19 : decode cX12_copyAll 19 = .ok (.iadd, 1) := by decide +kernel
theorem dX12_copyAll_20 : decode cX12_copyAll 20 = .ok (.aload_n 0, 1) := by decide +kernel
theorem dX12_copyAll_21 : decode cX12_copyAll 21 = .ok (.getfield 7, 3) := by decide +kernel
theorem dX12_copyAll_24 : decode cX12_copyAll 24 = .ok (.sipush 600, 3) := by decide +kernel
theorem dX12_copyAll_27 : decode cX12_copyAll 27 = .ok (.iload_n 1, 1) := by decide +kernel
theorem dX12_copyAll_28 : decode cX12_copyAll 28 = .ok (.imul, 1) := by decide +kernel
theorem dX12_copyAll_29 : decode cX12_copyAll 29 = .ok (.iload_n 3, 1) := by decide +kernel
theorem dX12_copyAll_30 : decode cX12_copyAll 30 = .ok (.iadd, 1) := by decide +kernel
theorem dX12_copyAll_31 : decode cX12_copyAll 31 = .ok (.baload, 1) := by decide +kernel
theorem dX12_copyAll_32 : decode cX12_copyAll 32 = .ok (.bastore, 1) := by decide +kernel
theorem dX12_copyAll_33 : decode cX12_copyAll 33 = .ok (.iinc 3 1, 3) := by decide +kernel
theorem dX12_copyAll_36 : decode cX12_copyAll 36 = .ok (.goto (-34), 3) := by decide +kernel
theorem dX12_copyAll_39 : decode cX12_copyAll 39 = .ok (.aload_n 0, 1) := by decide +kernel
theorem dX12_copyAll_40 : decode cX12_copyAll 40 = .ok (.getfield 13, 3) := by decide +kernel
theorem dX12_copyAll_43 : decode cX12_copyAll 43 = .ok (.iconst 1, 1) := by decide +kernel
theorem dX12_copyAll_44 : decode cX12_copyAll 44 = .ok (.iload_n 1, 1) := by decide +kernel
theorem dX12_copyAll_45 : decode cX12_copyAll 45 = .ok (.iload_n 2, 1) := by decide +kernel
theorem dX12_copyAll_46 : decode cX12_copyAll 46 = .ok (.invokestatic 104, 3) := by decide +kernel
theorem dX12_copyAll_49 : decode cX12_copyAll 49 = .ok (.aload_n 0, 1) := by decide +kernel
theorem dX12_copyAll_50 : decode cX12_copyAll 50 = .ok (.getfield 17, 3) := by decide +kernel
theorem dX12_copyAll_53 : decode cX12_copyAll 53 = .ok (.iconst 1, 1) := by decide +kernel
theorem dX12_copyAll_54 : decode cX12_copyAll 54 = .ok (.iload_n 1, 1) := by decide +kernel
theorem dX12_copyAll_55 : decode cX12_copyAll 55 = .ok (.iload_n 2, 1) := by decide +kernel
theorem dX12_copyAll_56 : decode cX12_copyAll 56 = .ok (.invokestatic 104, 3) := by decide +kernel
theorem dX12_copyAll_59 : decode cX12_copyAll 59 = .ok (.aload_n 0, 1) := by decide +kernel
theorem dX12_copyAll_60 : decode cX12_copyAll 60 = .ok (.getfield 20, 3) := by decide +kernel
theorem dX12_copyAll_63 : decode cX12_copyAll 63 = .ok (.iconst 1, 1) := by decide +kernel
theorem dX12_copyAll_64 : decode cX12_copyAll 64 = .ok (.iload_n 1, 1) := by decide +kernel
theorem dX12_copyAll_65 : decode cX12_copyAll 65 = .ok (.iload_n 2, 1) := by decide +kernel
theorem dX12_copyAll_66 : decode cX12_copyAll 66 = .ok (.invokestatic 104, 3) := by decide +kernel
theorem dX12_copyAll_69 : decode cX12_copyAll 69 = .ok (.aload_n 0, 1) := by decide +kernel
theorem dX12_copyAll_70 : decode cX12_copyAll 70 = .ok (.getfield 23, 3) := by decide +kernel
theorem dX12_copyAll_73 : decode cX12_copyAll 73 = .ok (.iconst 3, 1) := by decide +kernel
theorem dX12_copyAll_74 : decode cX12_copyAll 74 = .ok (.iload_n 1, 1) := by decide +kernel
theorem dX12_copyAll_75 : decode cX12_copyAll 75 = .ok (.iload_n 2, 1) := by decide +kernel
theorem dX12_copyAll_76 : decode cX12_copyAll 76 = .ok (.invokestatic 104, 3) := by decide +kernel
theorem dX12_copyAll_79 : decode cX12_copyAll 79 = .ok (.aload_n 0, 1) := by decide +kernel
theorem dX12_copyAll_80 : decode cX12_copyAll 80 = .ok (.getfield 26, 3) := by decide +kernel
theorem dX12_copyAll_83 : decode cX12_copyAll 83 = .ok (.sipush 178, 3) := by decide +kernel
theorem dX12_copyAll_86 : decode cX12_copyAll 86 = .ok (.iload_n 1, 1) := by decide +kernel
theorem dX12_copyAll_87 : decode cX12_copyAll 87 = .ok (.iload_n 2, 1) := by decide +kernel
theorem dX12_copyAll_88 : decode cX12_copyAll 88 = .ok (.invokestatic 104, 3) := by decide +kernel
theorem dX12_copyAll_91 : decode cX12_copyAll 91 = .ok (.aload_n 0, 1) := by decide +kernel
theorem dX12_copyAll_92 : decode cX12_copyAll 92 = .ok (.getfield 29, 3) := by decide +kernel
theorem dX12_copyAll_95 : decode cX12_copyAll 95 = .ok (.sipush 242, 3) := by decide +kernel
theorem dX12_copyAll_98 : decode cX12_copyAll 98 = .ok (.iload_n 1, 1) := by decide +kernel
theorem dX12_copyAll_99 : decode cX12_copyAll 99 = .ok (.iload_n 2, 1) := by decide +kernel
theorem dX12_copyAll_100 : decode cX12_copyAll 100 = .ok (.invokestatic 104, 3) := by decide +kernel
theorem dX12_copyAll_103 : decode cX12_copyAll 103 = .ok (.aload_n 0, 1) := by decide +kernel
theorem dX12_copyAll_104 : decode cX12_copyAll 104 = .ok (.getfield 32, 3) := by decide +kernel
theorem dX12_copyAll_107 : decode cX12_copyAll 107 = .ok (.bipush 34, 2) := by decide +kernel
theorem dX12_copyAll_109 : decode cX12_copyAll 109 = .ok (.iload_n 1, 1) := by decide +kernel
theorem dX12_copyAll_110 : decode cX12_copyAll 110 = .ok (.iload_n 2, 1) := by decide +kernel
theorem dX12_copyAll_111 : decode cX12_copyAll 111 = .ok (.invokestatic 104, 3) := by decide +kernel
theorem dX12_copyAll_114 : decode cX12_copyAll 114 = .ok (.return_, 1) := by decide +kernel
theorem dX12_is_0 : decode cX12_is 0 = .ok (.iload_n 2, 1) := by decide +kernel
theorem dX12_is_1 : decode cX12_is 1 = .ok (.iconst 0, 1) := by decide +kernel
theorem dX12_is_2 : decode cX12_is 2 = .ok (.aload_n 0, 1) := by decide +kernel
theorem dX12_is_3 : decode cX12_is 3 = .ok (.getfield 23, 3) := by decide +kernel
theorem dX12_is_6 : decode cX12_is 6 = .ok (.iload_n 1, 1) := by decide +kernel
theorem dX12_is_7 : decode cX12_is 7 = .ok (.iaload, 1) := by decide +kernel
theorem dX12_is_8 : decode cX12_is 8 = .ok (.iconst 1, 1) := by decide +kernel
theorem dX12_is_9 : decode cX12_is 9 = .ok (.isub, 1) := by decide +kernel
theorem dX12_is_10 : decode cX12_is 10 = .ok (.invokestatic 108, 3) := by decide +kernel
theorem dX12_is_13 : decode cX12_is 13 = .ok (.ireturn, 1) := by decide +kernel
theorem dX12_feed_0 : decode cX12_feed 0 = .ok (.aload_n 0, 1) := by decide +kernel
theorem dX12_feed_1 : decode cX12_feed 1 = .ok (.iconst 0, 1) := by decide +kernel
theorem dX12_feed_2 : decode cX12_feed 2 = .ok (.putfield 96, 3) := by decide +kernel
theorem dX12_feed_5 : decode cX12_feed 5 = .ok (.aload_n 0, 1) := by decide +kernel
theorem dX12_feed_6 : decode cX12_feed 6 = .ok (.getfield 13, 3) := by decide +kernel
theorem dX12_feed_9 : decode cX12_feed 9 = .ok (.iconst 0, 1) := by decide +kernel
theorem dX12_feed_10 : decode cX12_feed 10 = .ok (.iaload, 1) := by decide +kernel
theorem dX12_feed_11 : decode cX12_feed 11 = .ok (.bipush 20, 2) := by decide +kernel
theorem dX12_feed_13 : decode cX12_feed 13 = .ok (.iadd, 1) := by decide +kernel
theorem dX12_feed_14 : decode cX12_feed 14 = .ok (.sipush 600, 3) := by decide +kernel
theorem dX12_feed_17 : decode cX12_feed 17 = .ok (.if_icmp .le 5, 3) := by decide +kernel
theorem dX12_feed_20 : decode cX12_feed 20 = .ok (.iconst (-1), 1) := by decide +kernel
theorem dX12_feed_21 : decode cX12_feed 21 = .ok (.ireturn, 1) := by decide +kernel
theorem dX12_feed_22 : decode cX12_feed 22 = .ok (.aload_n 0, 1) := by decide +kernel
theorem dX12_feed_23 : decode cX12_feed 23 = .ok (.iload_n 1, 1) := by decide +kernel
theorem dX12_feed_24 : decode cX12_feed 24 = .ok (.invokevirtual 112, 3) := by decide +kernel
theorem dX12_feed_27 : decode cX12_feed 27 = .ok (.aload_n 0, 1) := by decide +kernel
theorem dX12_feed_28 : decode cX12_feed 28 = .ok (.iload_n 2, 1) := by decide +kernel
theorem dX12_feed_29 : decode cX12_feed 29 = .ok (.invokevirtual 112, 3) := by decide +kernel
theorem dX12_feed_32 : decode cX12_feed 32 = .ok (.aload_n 0, 1) := by decide +kernel
theorem dX12_feed_33 : decode cX12_feed 33 = .ok (.iload_n 3, 1) := by decide +kernel
theorem dX12_feed_34 : decode cX12_feed 34 = .ok (.invokevirtual 112, 3) := by decide +kernel
theorem dX12_feed_37 : decode cX12_feed 37 = .ok (.aload_n 0, 1) := by decide +kernel
theorem dX12_feed_38 : decode cX12_feed 38 = .ok (.iload 4, 2) := by decide +kernel
theorem dX12_feed_40 : decode cX12_feed 40 = .ok (.invokevirtual 112, 3) := by decide +kernel
theorem dX12_feed_43 : decode cX12_feed 43 = .ok (.aload_n 0, 1) := by decide +kernel
theorem dX12_feed_44 : decode cX12_feed 44 = .ok (.iload 5, 2) := by decide +kernel
theorem dX12_feed_46 : decode cX12_feed 46 = .ok (.invokevirtual 112, 3) := by decide +kernel
theorem dX12_feed_49 : decode cX12_feed 49 = .ok (.aload_n 0, 1) := by decide +kernel
theorem dX12_feed_50 : decode cX12_feed 50 = .ok (.getfield 13, 3) := by decide +kernel
theorem dX12_feed_53 : decode cX12_feed 53 = .ok (.iconst 0, 1) := by decide +kernel
theorem dX12_feed_54 : decode cX12_feed 54 = .ok (.iaload, 1) := by decide +kernel
theorem dX12_feed_55 : decode cX12_feed 55 = .ok (.ireturn, 1) := by decide +kernel
theorem dX12_four_0 : decode cX12_four 0 = .ok (.bipush 24, 2) := by decide +kernel
theorem dX12_four_2 : decode cX12_four 2 = .ok (.istore_n 2, 1) := by decide +kernel
theorem dX12_four_3 : decode cX12_four 3 = .ok (.iload_n 2, 1) := by decide +kernel
theorem dX12_four_4 : decode cX12_four 4 = .ok (.ifCond .lt 34, 3) := by decide +kernel
theorem dX12_four_7 : decode cX12_four 7 = .ok (.aload_n 0, 1) := by decide +kernel
theorem dX12_four_8 : decode cX12_four 8 = .ok (.getfield 7, 3) := by decide +kernel
theorem dX12_four_11 : decode cX12_four 11 = .ok (.aload_n 0, 1) := by decide +kernel
theorem dX12_four_12 : decode cX12_four 12 = .ok (.getfield 13, 3) := by decide +kernel
theorem dX12_four_15 : decode cX12_four 15 = .ok (.iconst 0, 1) := by decide +kernel
theorem dX12_four_16 : decode cX12_four 16 = .ok (.iaload, 1) := by decide +kernel
theorem dX12_four_17 : decode cX12_four 17 = .ok (.iload_n 1, 1) := by decide +kernel
theorem dX12_four_18 : decode cX12_four 18 = .ok (.iload_n 2, 1) := by decide +kernel
theorem dX12_four_19 : decode cX12_four 19 = .ok (.ishr, 1) := by decide +kernel
theorem dX12_four_20 : decode cX12_four 20 = .ok (.i2b, 1) := by decide +kernel
theorem dX12_four_21 : decode cX12_four 21 = .ok (.bastore, 1) := by decide +kernel
theorem dX12_four_22 : decode cX12_four 22 = .ok (.aload_n 0, 1) := by decide +kernel
theorem dX12_four_23 : decode cX12_four 23 = .ok (.getfield 13, 3) := by decide +kernel
theorem dX12_four_26 : decode cX12_four 26 = .ok (.iconst 0, 1) := by decide +kernel
theorem dX12_four_27 : decode cX12_four 27 = .ok (.dup2, 1) := by decide +kernel
theorem dX12_four_28 : decode cX12_four 28 = .ok (.iaload, 1) := by decide +kernel
theorem dX12_four_29 : decode cX12_four 29 = .ok (.iconst 1, 1) := by decide +kernel
theorem dX12_four_30 : decode cX12_four 30 = .ok (.iadd, 1) := by decide +kernel
theorem dX12_four_31 : decode cX12_four 31 = .ok (.iastore, 1) := by decide +kernel
theorem dX12_four_32 : decode cX12_four 32 = .ok (.iinc 2 (-8), 3) := by decide +kernel
theorem dX12_four_35 : decode cX12_four 35 = .ok (.goto (-32), 3) := by decide +kernel
theorem dX12_four_38 : decode cX12_four 38 = .ok (.return_, 1) := by decide +kernel
theorem dX12_end_0 : decode cX12_end 0 = .ok (.aload_n 0, 1) := by decide +kernel
theorem dX12_end_1 : decode cX12_end 1 = .ok (.iconst 0, 1) := by decide +kernel
theorem dX12_end_2 : decode cX12_end 2 = .ok (.putfield 96, 3) := by decide +kernel
theorem dX12_end_5 : decode cX12_end 5 = .ok (.iload_n 1, 1) := by decide +kernel
theorem dX12_end_6 : decode cX12_end 6 = .ok (.iconst 0, 1) := by decide +kernel
theorem dX12_end_7 : decode cX12_end 7 = .ok (.aload_n 0, 1) := by decide +kernel
theorem dX12_end_8 : decode cX12_end 8 = .ok (.getfield 13, 3) := by decide +kernel
theorem dX12_end_11 : decode cX12_end 11 = .ok (.iconst 0, 1) := by decide +kernel
theorem dX12_end_12 : decode cX12_end 12 = .ok (.iaload, 1) := by decide +kernel
theorem dX12_end_13 : decode cX12_end 13 = .ok (.invokestatic 108, 3) := by decide +kernel
theorem dX12_end_16 : decode cX12_end 16 = .ok (.ifCond .ne 5, 3) := by decide +kernel
theorem dX12_end_19 : decode cX12_end 19 = .ok (.iconst (-1), 1) := by decide +kernel
theorem dX12_end_20 : decode cX12_end 20 = .ok (.ireturn, 1) := by decide +kernel
theorem dX12_end_21 : decode cX12_end 21 = .ok (.aload_n 0, 1) := by decide +kernel
theorem dX12_end_22 : decode cX12_end 22 = .ok (.getfield 13, 3) := by decide +kernel
theorem dX12_end_25 : decode cX12_end 25 = .ok (.iconst 0, 1) := by decide +kernel
theorem dX12_end_26 : decode cX12_end 26 = .ok (.iload_n 1, 1) := by decide +kernel
theorem dX12_end_27 : decode cX12_end 27 = .ok (.iastore, 1) := by decide +kernel
theorem dX12_end_28 : decode cX12_end 28 = .ok (.iload_n 1, 1) := by decide +kernel
theorem dX12_end_29 : decode cX12_end 29 = .ok (.ireturn, 1) := by decide +kernel
theorem dX12_see_0 : decode cX12_see 0 = .ok (.aload_n 0, 1) := by decide +kernel
theorem dX12_see_1 : decode cX12_see 1 = .ok (.getfield 116, 3) := by decide +kernel
theorem dX12_see_4 : decode cX12_see 4 = .ok (.aload_n 0, 1) := by decide +kernel
theorem dX12_see_5 : decode cX12_see 5 = .ok (.getfield 119, 3) := by decide +kernel
theorem dX12_see_8 : decode cX12_see 8 = .ok (.if_icmp .ge 19, 3) := by decide +kernel
theorem dX12_see_11 : decode cX12_see 11 = .ok (.aload_n 0, 1) := by decide +kernel
theorem dX12_see_12 : decode cX12_see 12 = .ok (.getfield 7, 3) := by decide +kernel
theorem dX12_see_15 : decode cX12_see 15 = .ok (.aload_n 0, 1) := by decide +kernel
theorem dX12_see_16 : decode cX12_see 16 = .ok (.getfield 116, 3) := by decide +kernel
theorem dX12_see_19 : decode cX12_see 19 = .ok (.baload, 1) := by decide +kernel
theorem dX12_see_20 : decode cX12_see 20 = .ok (.sipush 255, 3) := by decide +kernel
theorem dX12_see_23 : decode cX12_see 23 = .ok (.iand, 1) := by decide +kernel
theorem dX12_see_24 : decode cX12_see 24 = .ok (.goto 4, 3) := by decide +kernel
theorem dX12_see_27 : decode cX12_see 27 = .ok (.iconst (-1), 1) := by decide +kernel
theorem dX12_see_28 : decode cX12_see 28 = .ok (.ireturn, 1) := by decide +kernel
theorem dX12_token_0 : decode cX12_token 0 = .ok (.aload_n 0, 1) := by decide +kernel
theorem dX12_token_1 : decode cX12_token 1 = .ok (.invokevirtual 122, 3) := by decide +kernel
theorem dX12_token_4 : decode cX12_token 4 = .ok (.bipush 10, 2) := by decide +kernel
theorem dX12_token_6 : decode cX12_token 6 = .ok (.if_icmp .eq 12, 3) := by decide +kernel
theorem dX12_token_9 : decode cX12_token 9 = .ok (.aload_n 0, 1) := by decide +kernel
theorem dX12_token_10 : decode cX12_token 10 = .ok (.invokevirtual 122, 3) := by decide +kernel
theorem dX12_token_13 : decode cX12_token 13 = .ok (.bipush 32, 2) := by decide +kernel
theorem dX12_token_15 : decode cX12_token 15 = .ok (.if_icmp .ne 16, 3) := by decide +kernel
theorem dX12_token_18 : decode cX12_token 18 = .ok (.aload_n 0, 1) := by decide +kernel
theorem dX12_token_19 : decode cX12_token 19 = .ok (.dup, 1) := by decide +kernel
theorem dX12_token_20 : decode cX12_token 20 = .ok (.getfield 116, 3) := by decide +kernel
theorem dX12_token_23 : decode cX12_token 23 = .ok (.iconst 1, 1) := by decide +kernel
theorem dX12_token_24 : decode cX12_token 24 = .ok (.iadd, 1) := by decide +kernel
theorem dX12_token_25 : decode cX12_token 25 = .ok (.putfield 116, 3) := by decide +kernel
theorem dX12_token_28 : decode cX12_token 28 = .ok (.goto (-28), 3) := by decide +kernel
theorem dX12_token_31 : decode cX12_token 31 = .ok (.aload_n 0, 1) := by decide +kernel
theorem dX12_token_32 : decode cX12_token 32 = .ok (.aload_n 0, 1) := by decide +kernel
theorem dX12_token_33 : decode cX12_token 33 = .ok (.getfield 116, 3) := by decide +kernel
theorem dX12_token_36 : decode cX12_token 36 = .ok (.putfield 126, 3) := by decide +kernel
theorem dX12_token_39 : decode cX12_token 39 = .ok (.aload_n 0, 1) := by decide +kernel
theorem dX12_token_40 : decode cX12_token 40 = .ok (.invokevirtual 122, 3) := by decide +kernel
theorem dX12_token_43 : decode cX12_token 43 = .ok (.istore_n 1, 1) := by decide +kernel
theorem dX12_token_44 : decode cX12_token 44 = .ok (.aload_n 0, 1) := by decide +kernel
theorem dX12_token_45 : decode cX12_token 45 = .ok (.lconst 0, 1) := by decide +kernel
theorem dX12_token_46 : decode cX12_token 46 = .ok (.putfield 129, 3) := by decide +kernel
theorem dX12_token_49 : decode cX12_token 49 = .ok (.iconst 0, 1) := by decide +kernel
theorem dX12_token_50 : decode cX12_token 50 = .ok (.istore_n 2, 1) := by decide +kernel
theorem dX12_token_51 : decode cX12_token 51 = .ok (.iload_n 1, 1) := by decide +kernel
theorem dX12_token_52 : decode cX12_token 52 = .ok (.ifCond .ge 11, 3) := by decide +kernel
theorem dX12_token_55 : decode cX12_token 55 = .ok (.aload_n 0, 1) := by decide +kernel
theorem dX12_token_56 : decode cX12_token 56 = .ok (.iconst 0, 1) := by decide +kernel
theorem dX12_token_57 : decode cX12_token 57 = .ok (.putfield 133, 3) := by decide +kernel
theorem dX12_token_60 : decode cX12_token 60 = .ok (.goto 206, 3) := by decide +kernel
theorem dX12_token_63 : decode cX12_token 63 = .ok (.iload_n 1, 1) := by decide +kernel
theorem dX12_token_64 : decode cX12_token 64 = .ok (.bipush 97, 2) := by decide +kernel
theorem dX12_token_66 : decode cX12_token 66 = .ok (.bipush 122, 2) := by decide +kernel
theorem dX12_token_68 : decode cX12_token 68 = .ok (.invokestatic 108, 3) := by decide +kernel
theorem dX12_token_71 : decode cX12_token 71 = .ok (.ifCond .eq 76, 3) := by decide +kernel
theorem dX12_token_74 : decode cX12_token 74 = .ok (.aload_n 0, 1) := by decide +kernel
theorem dX12_token_75 : decode cX12_token 75 = .ok (.invokevirtual 122, 3) := by decide +kernel
theorem dX12_token_78 : decode cX12_token 78 = .ok (.bipush 97, 2) := by decide +kernel
theorem dX12_token_80 : decode cX12_token 80 = .ok (.bipush 122, 2) := by decide +kernel
theorem dX12_token_82 : decode cX12_token 82 = .ok (.invokestatic 108, 3) := by decide +kernel
theorem dX12_token_85 : decode cX12_token 85 = .ok (.ifCond .eq 36, 3) := by decide +kernel
theorem dX12_token_88 : decode cX12_token 88 = .ok (.aload_n 0, 1) := by decide +kernel
theorem dX12_token_89 : decode cX12_token 89 = .ok (.aload_n 0, 1) := by decide +kernel
theorem dX12_token_90 : decode cX12_token 90 = .ok (.getfield 129, 3) := by decide +kernel
theorem dX12_token_93 : decode cX12_token 93 = .ok (.bipush 8, 2) := by decide +kernel
theorem dX12_token_95 : decode cX12_token 95 = .ok (.lshl, 1) := by decide +kernel
theorem dX12_token_96 : decode cX12_token 96 = .ok (.aload_n 0, 1) := by decide +kernel
theorem dX12_token_97 : decode cX12_token 97 = .ok (.invokevirtual 122, 3) := by decide +kernel
theorem dX12_token_100 : decode cX12_token 100 = .ok (.i2l, 1) := by decide +kernel
theorem dX12_token_101 : decode cX12_token 101 = .ok (.lor, 1) := by decide +kernel
theorem dX12_token_102 : decode cX12_token 102 = .ok (.putfield 129, 3) := by decide +kernel
theorem dX12_token_105 : decode cX12_token 105 = .ok (.aload_n 0, 1) := by decide +kernel
theorem dX12_token_106 : decode cX12_token 106 = .ok (.dup, 1) := by decide +kernel
theorem dX12_token_107 : decode cX12_token 107 = .ok (.getfield 116, 3) := by decide +kernel
theorem dX12_token_110 : decode cX12_token 110 = .ok (.iconst 1, 1) := by decide +kernel
theorem dX12_token_111 : decode cX12_token 111 = .ok (.iadd, 1) := by decide +kernel
theorem dX12_token_112 : decode cX12_token 112 = .ok (.putfield 116, 3) := by decide +kernel
theorem dX12_token_115 : decode cX12_token 115 = .ok (.iinc 2 1, 3) := by decide +kernel
theorem dX12_token_118 : decode cX12_token 118 = .ok (.goto (-44), 3) := by decide +kernel
theorem dX12_token_121 : decode cX12_token 121 = .ok (.aload_n 0, 1) := by decide +kernel
theorem dX12_token_122 : decode cX12_token 122 = .ok (.iload_n 2, 1) := by decide +kernel
theorem dX12_token_123 : decode cX12_token 123 = .ok (.bipush 8, 2) := by decide +kernel
theorem dX12_token_125 : decode cX12_token 125 = .ok (.if_icmp .le 7, 3) := by decide +kernel
theorem dX12_token_128 : decode cX12_token 128 = .ok (.lconst 0, 1) := by decide +kernel
theorem dX12_token_129 : decode cX12_token 129 = .ok (.goto 7, 3) := by decide +kernel
theorem dX12_token_132 : decode cX12_token 132 = .ok (.aload_n 0, 1) := by decide +kernel
theorem dX12_token_133 : decode cX12_token 133 = .ok (.getfield 129, 3) := by decide +kernel
theorem dX12_token_136 : decode cX12_token 136 = .ok (.putfield 129, 3) := by decide +kernel
theorem dX12_token_139 : decode cX12_token 139 = .ok (.aload_n 0, 1) := by decide +kernel
theorem dX12_token_140 : decode cX12_token 140 = .ok (.iconst 2, 1) := by decide +kernel
theorem dX12_token_141 : decode cX12_token 141 = .ok (.putfield 133, 3) := by decide +kernel
theorem dX12_token_144 : decode cX12_token 144 = .ok (.goto 122, 3) := by decide +kernel
theorem dX12_token_147 : decode cX12_token 147 = .ok (.iload_n 1, 1) := by decide +kernel
theorem dX12_token_148 : decode cX12_token 148 = .ok (.bipush 48, 2) := by decide +kernel
theorem dX12_token_150 : decode cX12_token 150 = .ok (.bipush 57, 2) := by decide +kernel
theorem dX12_token_152 : decode cX12_token 152 = .ok (.invokestatic 108, 3) := by decide +kernel
theorem dX12_token_155 : decode cX12_token 155 = .ok (.ifCond .eq 86, 3) := by decide +kernel
theorem dX12_token_158 : decode cX12_token 158 = .ok (.aload_n 0, 1) := by decide +kernel
theorem dX12_token_159 : decode cX12_token 159 = .ok (.iconst 0, 1) := by decide +kernel
theorem dX12_token_160 : decode cX12_token 160 = .ok (.putfield 136, 3) := by decide +kernel
theorem dX12_token_163 : decode cX12_token 163 = .ok (.aload_n 0, 1) := by decide +kernel
theorem dX12_token_164 : decode cX12_token 164 = .ok (.invokevirtual 122, 3) := by decide +kernel
theorem dX12_token_167 : decode cX12_token 167 = .ok (.bipush 48, 2) := by decide +kernel
theorem dX12_token_169 : decode cX12_token 169 = .ok (.bipush 57, 2) := by decide +kernel
theorem dX12_token_171 : decode cX12_token 171 = .ok (.invokestatic 108, 3) := by decide +kernel
theorem dX12_token_174 : decode cX12_token 174 = .ok (.ifCond .eq 50, 3) := by decide +kernel
theorem dX12_token_177 : decode cX12_token 177 = .ok (.aload_n 0, 1) := by decide +kernel
theorem dX12_token_178 : decode cX12_token 178 = .ok (.iload_n 2, 1) := by decide +kernel
theorem dX12_token_179 : decode cX12_token 179 = .ok (.iconst 2, 1) := by decide +kernel
theorem dX12_token_180 : decode cX12_token 180 = .ok (.if_icmp .ge 21, 3) := by decide +kernel
theorem dX12_token_183 : decode cX12_token 183 = .ok (.bipush 10, 2) := by decide +kernel
theorem dX12_token_185 : decode cX12_token 185 = .ok (.aload_n 0, 1) := by decide +kernel
theorem dX12_token_186 : decode cX12_token 186 = .ok (.getfield 136, 3) := by decide +kernel
theorem dX12_token_189 : decode cX12_token 189 = .ok (.imul, 1) := by decide +kernel
theorem dX12_token_190 : decode cX12_token 190 = .ok (.aload_n 0, 1) := by decide +kernel
theorem dX12_token_191 : decode cX12_token 191 = .ok (.invokevirtual 122, 3) := by decide +kernel
theorem dX12_token_194 : decode cX12_token 194 = .ok (.iadd, 1) := by decide +kernel
theorem dX12_token_195 : decode cX12_token 195 = .ok (.bipush 48, 2) := by decide +kernel
theorem dX12_token_197 : decode cX12_token 197 = .ok (.isub, 1) := by decide +kernel
theorem dX12_token_198 : decode cX12_token 198 = .ok (.goto 7, 3) := by decide +kernel
theorem dX12_token_201 : decode cX12_token 201 = .ok (.aload_n 0, 1) := by decide +kernel
theorem dX12_token_202 : decode cX12_token 202 = .ok (.getfield 136, 3) := by decide +kernel
theorem dX12_token_205 : decode cX12_token 205 = .ok (.putfield 136, 3) := by decide +kernel
theorem dX12_token_208 : decode cX12_token 208 = .ok (.aload_n 0, 1) := by decide +kernel
theorem dX12_token_209 : decode cX12_token 209 = .ok (.dup, 1) := by decide +kernel
theorem dX12_token_210 : decode cX12_token 210 = .ok (.getfield 116, 3) := by decide +kernel
theorem dX12_token_213 : decode cX12_token 213 = .ok (.iconst 1, 1) := by decide +kernel
theorem dX12_token_214 : decode cX12_token 214 = .ok (.iadd, 1) := by decide +kernel
theorem dX12_token_215 : decode cX12_token 215 = .ok (.putfield 116, 3) := by decide +kernel
theorem dX12_token_218 : decode cX12_token 218 = .ok (.iinc 2 1, 3) := by decide +kernel
theorem dX12_token_221 : decode cX12_token 221 = .ok (.goto (-58), 3) := by decide +kernel
theorem dX12_token_224 : decode cX12_token 224 = .ok (.aload_n 0, 1) := by decide +kernel
theorem dX12_token_225 : decode cX12_token 225 = .ok (.iload_n 2, 1) := by decide +kernel
theorem dX12_token_226 : decode cX12_token 226 = .ok (.iconst 2, 1) := by decide +kernel
theorem dX12_token_227 : decode cX12_token 227 = .ok (.if_icmp .le 7, 3) := by decide +kernel
theorem dX12_token_230 : decode cX12_token 230 = .ok (.iconst 1, 1) := by decide +kernel
theorem dX12_token_231 : decode cX12_token 231 = .ok (.goto 4, 3) := by decide +kernel
theorem dX12_token_234 : decode cX12_token 234 = .ok (.iconst 3, 1) := by decide +kernel
theorem dX12_token_235 : decode cX12_token 235 = .ok (.putfield 133, 3) := by decide +kernel
theorem dX12_token_238 : decode cX12_token 238 = .ok (.goto 28, 3) := by decide +kernel
theorem dX12_token_241 : decode cX12_token 241 = .ok (.aload_n 0, 1) := by decide +kernel
theorem dX12_token_242 : decode cX12_token 242 = .ok (.dup, 1) := by decide +kernel
theorem dX12_token_243 : decode cX12_token 243 = .ok (.getfield 116, 3) := by decide +kernel
theorem dX12_token_246 : decode cX12_token 246 = .ok (.iconst 1, 1) := by decide +kernel
theorem dX12_token_247 : decode cX12_token 247 = .ok (.iadd, 1) := by decide +kernel
theorem dX12_token_248 : decode cX12_token 248 = .ok (.putfield 116, 3) := by decide +kernel
theorem dX12_token_251 : decode cX12_token 251 = .ok (.aload_n 0, 1) := by decide +kernel
theorem dX12_token_252 : decode cX12_token 252 = .ok (.iload_n 1, 1) := by decide +kernel
theorem dX12_token_253 : decode cX12_token 253 = .ok (.bipush 59, 2) := by decide +kernel
theorem dX12_token_255 : decode cX12_token 255 = .ok (.if_icmp .ne 7, 3) := by decide +kernel
theorem dX12_token_258 : decode cX12_token 258 = .ok (.iconst 4, 1) := by decide +kernel
theorem dX12_token_259 : decode cX12_token 259 = .ok (.goto 4, 3) := by decide +kernel
theorem dX12_token_262 : decode cX12_token 262 = .ok (.iconst 1, 1) := by decide +kernel
theorem dX12_token_263 : decode cX12_token 263 = .ok (.putfield 133, 3) := by decide +kernel
theorem dX12_token_266 : decode cX12_token 266 = .ok (.return_, 1) := by decide +kernel
theorem dX12_fails_0 : decode cX12_fails 0 = .ok (.aload_n 0, 1) := by decide +kernel
theorem dX12_fails_1 : decode cX12_fails 1 = .ok (.aload_n 0, 1) := by decide +kernel
theorem dX12_fails_2 : decode cX12_fails 2 = .ok (.getfield 126, 3) := by decide +kernel
theorem dX12_fails_5 : decode cX12_fails 5 = .ok (.putfield 139, 3) := by decide +kernel
theorem dX12_fails_8 : decode cX12_fails 8 = .ok (.iconst 0, 1) := by decide +kernel
theorem dX12_fails_9 : decode cX12_fails 9 = .ok (.ireturn, 1) := by decide +kernel
theorem dX12_later_0 : decode cX12_later 0 = .ok (.aload_n 0, 1) := by decide +kernel
theorem dX12_later_1 : decode cX12_later 1 = .ok (.getfield 142, 3) := by decide +kernel
theorem dX12_later_4 : decode cX12_later 4 = .ok (.ifCond .eq 27, 3) := by decide +kernel
theorem dX12_later_7 : decode cX12_later 7 = .ok (.iload_n 2, 1) := by decide +kernel
theorem dX12_later_8 : decode cX12_later 8 = .ok (.aload_n 0, 1) := by decide +kernel
theorem dX12_later_9 : decode cX12_later 9 = .ok (.getfield 145, 3) := by decide +kernel
theorem dX12_later_12 : decode cX12_later 12 = .ok (.if_icmp .lt 19, 3) := by decide +kernel
theorem dX12_later_15 : decode cX12_later 15 = .ok (.iload_n 2, 1) := by decide +kernel
theorem dX12_later_16 : decode cX12_later 16 = .ok (.aload_n 0, 1) := by decide +kernel
theorem dX12_later_17 : decode cX12_later 17 = .ok (.getfield 145, 3) := by decide +kernel
theorem dX12_later_20 : decode cX12_later 20 = .ok (.if_icmp .ne 21, 3) := by decide +kernel
theorem dX12_later_23 : decode cX12_later 23 = .ok (.iload_n 1, 1) := by decide +kernel
theorem dX12_later_24 : decode cX12_later 24 = .ok (.aload_n 0, 1) := by decide +kernel
theorem dX12_later_25 : decode cX12_later 25 = .ok (.getfield 142, 3) := by decide +kernel
theorem dX12_later_28 : decode cX12_later 28 = .ok (.if_icmp .ge 13, 3) := by decide +kernel
theorem dX12_later_31 : decode cX12_later 31 = .ok (.aload_n 0, 1) := by decide +kernel
theorem dX12_later_32 : decode cX12_later 32 = .ok (.iload_n 1, 1) := by decide +kernel
theorem dX12_later_33 : decode cX12_later 33 = .ok (.putfield 142, 3) := by decide +kernel
theorem dX12_later_36 : decode cX12_later 36 = .ok (.aload_n 0, 1) := by decide +kernel
theorem dX12_later_37 : decode cX12_later 37 = .ok (.iload_n 2, 1) := by decide +kernel
theorem dX12_later_38 : decode cX12_later 38 = .ok (.putfield 145, 3) := by decide +kernel
theorem dX12_later_41 : decode cX12_later 41 = .ok (.return_, 1) := by decide +kernel
theorem dX12_takeBut_0 : decode cX12_takeBut 0 = .ok (.aload_n 0, 1) := by decide +kernel
theorem dX12_takeBut_1 : decode cX12_takeBut 1 = .ok (.getfield 133, 3) := by decide +kernel
theorem dX12_takeBut_4 : decode cX12_takeBut 4 = .ok (.iconst 3, 1) := by decide +kernel
theorem dX12_takeBut_5 : decode cX12_takeBut 5 = .ok (.if_icmp .eq 8, 3) := by decide +kernel
theorem dX12_takeBut_8 : decode cX12_takeBut 8 = .ok (.aload_n 0, 1) := by decide +kernel
theorem dX12_takeBut_9 : decode cX12_takeBut 9 = .ok (.invokevirtual 148, 3) := by decide +kernel
theorem dX12_takeBut_12 : decode cX12_takeBut 12 = .ok (.ireturn, 1) := by decide +kernel
theorem dX12_takeBut_13 : decode cX12_takeBut 13 = .ok (.aload_n 0, 1) := by decide +kernel
theorem dX12_takeBut_14 : decode cX12_takeBut 14 = .ok (.getfield 38, 3) := by decide +kernel
theorem dX12_takeBut_17 : decode cX12_takeBut 17 = .ok (.iload_n 1, 1) := by decide +kernel
theorem dX12_takeBut_18 : decode cX12_takeBut 18 = .ok (.aload_n 0, 1) := by decide +kernel
theorem dX12_takeBut_19 : decode cX12_takeBut 19 = .ok (.getfield 136, 3) := by decide +kernel
theorem dX12_takeBut_22 : decode cX12_takeBut 22 = .ok (.iastore, 1) := by decide +kernel
theorem dX12_takeBut_23 : decode cX12_takeBut 23 = .ok (.aload_n 0, 1) := by decide +kernel
theorem dX12_takeBut_24 : decode cX12_takeBut 24 = .ok (.getfield 136, 3) := by decide +kernel
theorem dX12_takeBut_27 : decode cX12_takeBut 27 = .ok (.iload_n 2, 1) := by decide +kernel
theorem dX12_takeBut_28 : decode cX12_takeBut 28 = .ok (.iload_n 3, 1) := by decide +kernel
theorem dX12_takeBut_29 : decode cX12_takeBut 29 = .ok (.invokestatic 108, 3) := by decide +kernel
theorem dX12_takeBut_32 : decode cX12_takeBut 32 = .ok (.ifCond .eq 12, 3) := by decide +kernel
theorem dX12_takeBut_35 : decode cX12_takeBut 35 = .ok (.aload_n 0, 1) := by decide +kernel
theorem dX12_takeBut_36 : decode cX12_takeBut 36 = .ok (.getfield 136, 3) := by decide +kernel
theorem dX12_takeBut_39 : decode cX12_takeBut 39 = .ok (.iload 4, 2) := by decide +kernel
theorem dX12_takeBut_41 : decode cX12_takeBut 41 = .ok (.if_icmp .ne 17, 3) := by decide +kernel
theorem dX12_takeBut_44 : decode cX12_takeBut 44 = .ok (.aload_n 0, 1) := by decide +kernel
theorem dX12_takeBut_45 : decode cX12_takeBut 45 = .ok (.iconst 2, 1) := by decide +kernel
theorem dX12_takeBut_46 : decode cX12_takeBut 46 = .ok (.aload_n 0, 1) := by decide +kernel
theorem dX12_takeBut_47 : decode cX12_takeBut 47 = .ok (.getfield 126, 3) := by decide +kernel
theorem dX12_takeBut_50 : decode cX12_takeBut 50 = .ok (.invokevirtual 152, 3) := by decide +kernel
theorem dX12_takeBut_53 : decode cX12_takeBut 53 = .ok (.aload_n 0, 1) := by decide +kernel
theorem dX12_takeBut_54 : decode cX12_takeBut 54 = .ok (.iconst 0, 1) := by decide +kernel
theorem dX12_takeBut_55 : decode cX12_takeBut 55 = .ok (.putfield 156, 3) := by decide +kernel
theorem dX12_takeBut_58 : decode cX12_takeBut 58 = .ok (.aload_n 0, 1) := by decide +kernel
theorem dX12_takeBut_59 : decode cX12_takeBut 59 = .ok (.invokevirtual 160, 3) := by decide +kernel
theorem dX12_takeBut_62 : decode cX12_takeBut 62 = .ok (.iconst 1, 1) := by decide +kernel
theorem dX12_takeBut_63 : decode cX12_takeBut 63 = .ok (.ireturn, 1) := by decide +kernel
theorem dX12_take_0 : decode cX12_take 0 = .ok (.aload_n 0, 1) := by decide +kernel
theorem dX12_take_1 : decode cX12_take 1 = .ok (.iload_n 1, 1) := by decide +kernel
theorem dX12_take_2 : decode cX12_take 2 = .ok (.iload_n 2, 1) := by decide +kernel
theorem dX12_take_3 : decode cX12_take 3 = .ok (.iload_n 3, 1) := by decide +kernel
theorem dX12_take_4 : decode cX12_take 4 = .ok (.iconst (-1), 1) := by decide +kernel
theorem dX12_take_5 : decode cX12_take 5 = .ok (.invokevirtual 163, 3) := by decide +kernel
theorem dX12_take_8 : decode cX12_take 8 = .ok (.ireturn, 1) := by decide +kernel
theorem dX12_takeLand_0 : decode cX12_takeLand 0 = .ok (.aload_n 0, 1) := by decide +kernel
theorem dX12_takeLand_1 : decode cX12_takeLand 1 = .ok (.iload_n 1, 1) := by decide +kernel
theorem dX12_takeLand_2 : decode cX12_takeLand 2 = .ok (.iconst 0, 1) := by decide +kernel
theorem dX12_takeLand_3 : decode cX12_takeLand 3 = .ok (.iconst 5, 1) := by decide +kernel
theorem dX12_takeLand_4 : decode cX12_takeLand 4 = .ok (.iload_n 2, 1) := by decide +kernel
theorem dX12_takeLand_5 : decode cX12_takeLand 5 = .ok (.invokevirtual 163, 3) := by decide +kernel
theorem dX12_takeLand_8 : decode cX12_takeLand 8 = .ok (.ifCond .ne 5, 3) := by decide +kernel
theorem dX12_takeLand_11 : decode cX12_takeLand 11 = .ok (.iconst 0, 1) := by decide +kernel
theorem dX12_takeLand_12 : decode cX12_takeLand 12 = .ok (.ireturn, 1) := by decide +kernel
theorem dX12_takeLand_13 : decode cX12_takeLand 13 = .ok (.aload_n 0, 1) := by decide +kernel
theorem dX12_takeLand_14 : decode cX12_takeLand 14 = .ok (.aload_n 0, 1) := by decide +kernel
theorem dX12_takeLand_15 : decode cX12_takeLand 15 = .ok (.getfield 167, 3) := by decide +kernel
theorem dX12_takeLand_18 : decode cX12_takeLand 18 = .ok (.aload_n 0, 1) := by decide +kernel
theorem dX12_takeLand_19 : decode cX12_takeLand 19 = .ok (.getfield 38, 3) := by decide +kernel
theorem dX12_takeLand_22 : decode cX12_takeLand 22 = .ok (.iload_n 1, 1) := by decide +kernel
theorem dX12_takeLand_23 : decode cX12_takeLand 23 = .ok (.iaload, 1) := by decide +kernel
theorem dX12_takeLand_24 : decode cX12_takeLand 24 = .ok (.invokestatic 170, 3) := by decide +kernel
theorem dX12_takeLand_27 : decode cX12_takeLand 27 = .ok (.putfield 167, 3) := by decide +kernel
theorem dX12_takeLand_30 : decode cX12_takeLand 30 = .ok (.iconst 1, 1) := by decide +kernel
theorem dX12_takeLand_31 : decode cX12_takeLand 31 = .ok (.ireturn, 1) := by decide +kernel
theorem dX12_full_0 : decode cX12_full 0 = .ok (.aload_n 0, 1) := by decide +kernel
theorem dX12_full_1 : decode cX12_full 1 = .ok (.getfield 35, 3) := by decide +kernel
theorem dX12_full_4 : decode cX12_full 4 = .ok (.iload_n 1, 1) := by decide +kernel
theorem dX12_full_5 : decode cX12_full 5 = .ok (.iaload, 1) := by decide +kernel
theorem dX12_full_6 : decode cX12_full 6 = .ok (.iload_n 2, 1) := by decide +kernel
theorem dX12_full_7 : decode cX12_full 7 = .ok (.if_icmp .ne 9, 3) := by decide +kernel
theorem dX12_full_10 : decode cX12_full 10 = .ok (.aload_n 0, 1) := by decide +kernel
theorem dX12_full_11 : decode cX12_full 11 = .ok (.iconst 3, 1) := by decide +kernel
theorem dX12_full_12 : decode cX12_full 12 = .ok (.iload_n 3, 1) := by decide +kernel
theorem dX12_full_13 : decode cX12_full 13 = .ok (.invokevirtual 152, 3) := by decide +kernel
theorem dX12_full_16 : decode cX12_full 16 = .ok (.return_, 1) := by decide +kernel
theorem dX12_keep_0 : decode cX12_keep 0 = .ok (.aload_n 0, 1) := by decide +kernel
theorem dX12_keep_1 : decode cX12_keep 1 = .ok (.getfield 35, 3) := by decide +kernel
theorem dX12_keep_4 : decode cX12_keep 4 = .ok (.iload_n 1, 1) := by decide +kernel
theorem dX12_keep_5 : decode cX12_keep 5 = .ok (.iaload, 1) := by decide +kernel
theorem dX12_keep_6 : decode cX12_keep 6 = .ok (.istore 5, 2) := by decide +kernel
theorem dX12_keep_8 : decode cX12_keep 8 = .ok (.iconst 0, 1) := by decide +kernel
theorem dX12_keep_9 : decode cX12_keep 9 = .ok (.istore 6, 2) := by decide +kernel
theorem dX12_keep_11 : decode cX12_keep 11 = .ok (.iload 6, 2) := by decide +kernel
theorem dX12_keep_13 : decode cX12_keep 13 = .ok (.iload_n 3, 1) := by decide +kernel
theorem dX12_keep_14 : decode cX12_keep 14 = .ok (.if_icmp .ge 38, 3) := by decide +kernel
theorem dX12_keep_17 : decode cX12_keep 17 = .ok (.iload 5, 2) := by decide +kernel
theorem dX12_keep_19 : decode cX12_keep 19 = .ok (.iload 4, 2) := by decide +kernel
theorem dX12_keep_21 : decode cX12_keep 21 = .ok (.if_icmp .ge 31, 3) := by decide +kernel
theorem dX12_keep_24 : decode cX12_keep 24 = .ok (.aload_n 0, 1) := by decide +kernel
theorem dX12_keep_25 : decode cX12_keep 25 = .ok (.getfield 35, 3) := by decide +kernel
theorem dX12_keep_28 : decode cX12_keep 28 = .ok (.iload_n 2, 1) := by decide +kernel
theorem dX12_keep_29 : decode cX12_keep 29 = .ok (.iload 4, 2) := by decide +kernel
theorem dX12_keep_31 : decode cX12_keep 31 = .ok (.iload 6, 2) := by decide +kernel
theorem dX12_keep_33 : decode cX12_keep 33 = .ok (.imul, 1) := by decide +kernel
theorem dX12_keep_34 : decode cX12_keep 34 = .ok (.iadd, 1) := by decide +kernel
theorem dX12_keep_35 : decode cX12_keep 35 = .ok (.iload 5, 2) := by decide +kernel
theorem dX12_keep_37 : decode cX12_keep 37 = .ok (.iadd, 1) := by decide +kernel
theorem dX12_keep_38 : decode cX12_keep 38 = .ok (.aload_n 0, 1) := by decide +kernel
theorem dX12_keep_39 : decode cX12_keep 39 = .ok (.getfield 38, 3) := by decide +kernel
theorem dX12_keep_42 : decode cX12_keep 42 = .ok (.iload 6, 2) := by decide +kernel
theorem dX12_keep_44 : decode cX12_keep 44 = .ok (.iaload, 1) := by decide +kernel
theorem dX12_keep_45 : decode cX12_keep 45 = .ok (.iastore, 1) := by decide +kernel
theorem dX12_keep_46 : decode cX12_keep 46 = .ok (.iinc 6 1, 3) := by decide +kernel
theorem dX12_keep_49 : decode cX12_keep 49 = .ok (.goto (-38), 3) := by decide +kernel
theorem dX12_keep_52 : decode cX12_keep 52 = .ok (.aload_n 0, 1) := by decide +kernel
theorem dX12_keep_53 : decode cX12_keep 53 = .ok (.getfield 35, 3) := by decide +kernel
theorem dX12_keep_56 : decode cX12_keep 56 = .ok (.iload_n 1, 1) := by decide +kernel
theorem dX12_keep_57 : decode cX12_keep 57 = .ok (.dup2, 1) := by decide +kernel
theorem dX12_keep_58 : decode cX12_keep 58 = .ok (.iaload, 1) := by decide +kernel
theorem dX12_keep_59 : decode cX12_keep 59 = .ok (.iload 5, 2) := by decide +kernel
theorem dX12_keep_61 : decode cX12_keep 61 = .ok (.iload 4, 2) := by decide +kernel
theorem dX12_keep_63 : decode cX12_keep 63 = .ok (.if_icmp .ge 7, 3) := by decide +kernel
theorem dX12_keep_66 : decode cX12_keep 66 = .ok (.iconst 1, 1) := by decide +kernel
theorem dX12_keep_67 : decode cX12_keep 67 = .ok (.goto 4, 3) := by decide +kernel
theorem dX12_keep_70 : decode cX12_keep 70 = .ok (.iconst 0, 1) := by decide +kernel
theorem dX12_keep_71 : decode cX12_keep 71 = .ok (.iadd, 1) := by decide +kernel
theorem dX12_keep_72 : decode cX12_keep 72 = .ok (.iastore, 1) := by decide +kernel
theorem dX12_keep_73 : decode cX12_keep 73 = .ok (.iconst 1, 1) := by decide +kernel
theorem dX12_keep_74 : decode cX12_keep 74 = .ok (.ireturn, 1) := by decide +kernel
theorem dX12_needsLine_0 : decode cX12_needsLine 0 = .ok (.aload_n 0, 1) := by decide +kernel
theorem dX12_needsLine_1 : decode cX12_needsLine 1 = .ok (.iconst 0, 1) := by decide +kernel
theorem dX12_needsLine_2 : decode cX12_needsLine 2 = .ok (.iconst 0, 1) := by decide +kernel
theorem dX12_needsLine_3 : decode cX12_needsLine 3 = .ok (.bipush 7, 2) := by decide +kernel
theorem dX12_needsLine_5 : decode cX12_needsLine 5 = .ok (.invokevirtual 174, 3) := by decide +kernel
theorem dX12_needsLine_8 : decode cX12_needsLine 8 = .ok (.ifCond .eq 12, 3) := by decide +kernel
theorem dX12_needsLine_11 : decode cX12_needsLine 11 = .ok (.aload_n 0, 1) := by decide +kernel
theorem dX12_needsLine_12 : decode cX12_needsLine 12 = .ok (.iconst 1, 1) := by decide +kernel
theorem dX12_needsLine_13 : decode cX12_needsLine 13 = .ok (.iconst (-1), 1) := by decide +kernel
theorem dX12_needsLine_14 : decode cX12_needsLine 14 = .ok (.invokevirtual 177, 3) := by decide +kernel
theorem dX12_needsLine_17 : decode cX12_needsLine 17 = .ok (.ifCond .ne 5, 3) := by decide +kernel
theorem dX12_needsLine_20 : decode cX12_needsLine 20 = .ok (.iconst 0, 1) := by decide +kernel
theorem dX12_needsLine_21 : decode cX12_needsLine 21 = .ok (.ireturn, 1) := by decide +kernel
theorem dX12_needsLine_22 : decode cX12_needsLine 22 = .ok (.aload_n 0, 1) := by decide +kernel
theorem dX12_needsLine_23 : decode cX12_needsLine 23 = .ok (.aload_n 0, 1) := by decide +kernel
theorem dX12_needsLine_24 : decode cX12_needsLine 24 = .ok (.getfield 180, 3) := by decide +kernel
theorem dX12_needsLine_27 : decode cX12_needsLine 27 = .ok (.aload_n 0, 1) := by decide +kernel
theorem dX12_needsLine_28 : decode cX12_needsLine 28 = .ok (.getfield 38, 3) := by decide +kernel
theorem dX12_needsLine_31 : decode cX12_needsLine 31 = .ok (.iconst 0, 1) := by decide +kernel
theorem dX12_needsLine_32 : decode cX12_needsLine 32 = .ok (.iaload, 1) := by decide +kernel
theorem dX12_needsLine_33 : decode cX12_needsLine 33 = .ok (.invokestatic 170, 3) := by decide +kernel
theorem dX12_needsLine_36 : decode cX12_needsLine 36 = .ok (.putfield 180, 3) := by decide +kernel
theorem dX12_needsLine_39 : decode cX12_needsLine 39 = .ok (.aload_n 0, 1) := by decide +kernel
theorem dX12_needsLine_40 : decode cX12_needsLine 40 = .ok (.getfield 156, 3) := by decide +kernel
theorem dX12_needsLine_43 : decode cX12_needsLine 43 = .ok (.ifCond .eq 28, 3) := by decide +kernel
theorem dX12_needsLine_46 : decode cX12_needsLine 46 = .ok (.aload_n 0, 1) := by decide +kernel
theorem dX12_needsLine_47 : decode cX12_needsLine 47 = .ok (.getfield 35, 3) := by decide +kernel
theorem dX12_needsLine_50 : decode cX12_needsLine 50 = .ok (.bipush 61, 2) := by decide +kernel
theorem dX12_needsLine_52 : decode cX12_needsLine 52 = .ok (.aload_n 0, 1) := by decide +kernel
theorem dX12_needsLine_53 : decode cX12_needsLine 53 = .ok (.getfield 38, 3) := by decide +kernel
theorem dX12_needsLine_56 : decode cX12_needsLine 56 = .ok (.iconst 0, 1) := by decide +kernel
theorem dX12_needsLine_57 : decode cX12_needsLine 57 = .ok (.iaload, 1) := by decide +kernel
theorem dX12_needsLine_58 : decode cX12_needsLine 58 = .ok (.iadd, 1) := by decide +kernel
theorem dX12_needsLine_59 : decode cX12_needsLine 59 = .ok (.dup2, 1) := by decide +kernel
theorem dX12_needsLine_60 : decode cX12_needsLine 60 = .ok (.iaload, 1) := by decide +kernel
theorem dX12_needsLine_61 : decode cX12_needsLine 61 = .ok (.iconst 1, 1) := by decide +kernel
theorem dX12_needsLine_62 : decode cX12_needsLine 62 = .ok (.aload_n 0, 1) := by decide +kernel
theorem dX12_needsLine_63 : decode cX12_needsLine 63 = .ok (.getfield 38, 3) := by decide +kernel
theorem dX12_needsLine_66 : decode cX12_needsLine 66 = .ok (.iconst 1, 1) := by decide +kernel
theorem dX12_needsLine_67 : decode cX12_needsLine 67 = .ok (.iaload, 1) := by decide +kernel
theorem dX12_needsLine_68 : decode cX12_needsLine 68 = .ok (.ishl, 1) := by decide +kernel
theorem dX12_needsLine_69 : decode cX12_needsLine 69 = .ok (.ior, 1) := by decide +kernel
theorem dX12_needsLine_70 : decode cX12_needsLine 70 = .ok (.iastore, 1) := by decide +kernel
theorem dX12_needsLine_71 : decode cX12_needsLine 71 = .ok (.iconst 1, 1) := by decide +kernel
theorem dX12_needsLine_72 : decode cX12_needsLine 72 = .ok (.ireturn, 1) := by decide +kernel
theorem dX12_railLine_0 : decode cX12_railLine 0 = .ok (.lload_n 1, 1) := by decide +kernel
theorem dX12_railLine_1 : decode cX12_railLine 1 = .ok (.ldc2_w 183, 3) := by decide +kernel
theorem dX12_railLine_4 : decode cX12_railLine 4 = .ok (.lcmp, 1) := by decide +kernel
theorem dX12_railLine_5 : decode cX12_railLine 5 = .ok (.ifCond .ne 7, 3) := by decide +kernel
theorem dX12_railLine_8 : decode cX12_railLine 8 = .ok (.iconst 0, 1) := by decide +kernel
theorem dX12_railLine_9 : decode cX12_railLine 9 = .ok (.goto 64, 3) := by decide +kernel
theorem dX12_railLine_12 : decode cX12_railLine 12 = .ok (.lload_n 1, 1) := by decide +kernel
theorem dX12_railLine_13 : decode cX12_railLine 13 = .ok (.ldc2_w 185, 3) := by decide +kernel
theorem dX12_railLine_16 : decode cX12_railLine 16 = .ok (.lcmp, 1) := by decide +kernel
theorem dX12_railLine_17 : decode cX12_railLine 17 = .ok (.ifCond .ne 7, 3) := by decide +kernel
theorem dX12_railLine_20 : decode cX12_railLine 20 = .ok (.iconst 1, 1) := by decide +kernel
theorem dX12_railLine_21 : decode cX12_railLine 21 = .ok (.goto 52, 3) := by decide +kernel
theorem dX12_railLine_24 : decode cX12_railLine 24 = .ok (.lload_n 1, 1) := by decide +kernel
theorem dX12_railLine_25 : decode cX12_railLine 25 = .ok (.ldc2_w 187, 3) := by decide +kernel
theorem dX12_railLine_28 : decode cX12_railLine 28 = .ok (.lcmp, 1) := by decide +kernel
theorem dX12_railLine_29 : decode cX12_railLine 29 = .ok (.ifCond .ne 7, 3) := by decide +kernel
theorem dX12_railLine_32 : decode cX12_railLine 32 = .ok (.iconst 2, 1) := by decide +kernel
theorem dX12_railLine_33 : decode cX12_railLine 33 = .ok (.goto 40, 3) := by decide +kernel
theorem dX12_railLine_36 : decode cX12_railLine 36 = .ok (.lload_n 1, 1) := by decide +kernel
theorem dX12_railLine_37 : decode cX12_railLine 37 = .ok (.ldc2_w 189, 3) := by decide +kernel
theorem dX12_railLine_40 : decode cX12_railLine 40 = .ok (.lcmp, 1) := by decide +kernel
theorem dX12_railLine_41 : decode cX12_railLine 41 = .ok (.ifCond .ne 7, 3) := by decide +kernel
theorem dX12_railLine_44 : decode cX12_railLine 44 = .ok (.iconst 3, 1) := by decide +kernel
theorem dX12_railLine_45 : decode cX12_railLine 45 = .ok (.goto 28, 3) := by decide +kernel
theorem dX12_railLine_48 : decode cX12_railLine 48 = .ok (.lload_n 1, 1) := by decide +kernel
theorem dX12_railLine_49 : decode cX12_railLine 49 = .ok (.ldc2_w 191, 3) := by decide +kernel
theorem dX12_railLine_52 : decode cX12_railLine 52 = .ok (.lcmp, 1) := by decide +kernel
theorem dX12_railLine_53 : decode cX12_railLine 53 = .ok (.ifCond .ne 7, 3) := by decide +kernel
theorem dX12_railLine_56 : decode cX12_railLine 56 = .ok (.iconst 4, 1) := by decide +kernel
theorem dX12_railLine_57 : decode cX12_railLine 57 = .ok (.goto 16, 3) := by decide +kernel
theorem dX12_railLine_60 : decode cX12_railLine 60 = .ok (.lload_n 1, 1) := by decide +kernel
theorem dX12_railLine_61 : decode cX12_railLine 61 = .ok (.ldc2_w 193, 3) := by decide +kernel
theorem dX12_railLine_64 : decode cX12_railLine 64 = .ok (.lcmp, 1) := by decide +kernel
theorem dX12_railLine_65 : decode cX12_railLine 65 = .ok (.ifCond .ne 7, 3) := by decide +kernel
theorem dX12_railLine_68 : decode cX12_railLine 68 = .ok (.iconst 5, 1) := by decide +kernel
theorem dX12_railLine_69 : decode cX12_railLine 69 = .ok (.goto 4, 3) := by decide +kernel
theorem dX12_railLine_72 : decode cX12_railLine 72 = .ok (.iconst (-1), 1) := by decide +kernel
theorem dX12_railLine_73 : decode cX12_railLine 73 = .ok (.istore 4, 2) := by decide +kernel
theorem dX12_railLine_75 : decode cX12_railLine 75 = .ok (.iload 4, 2) := by decide +kernel
theorem dX12_railLine_77 : decode cX12_railLine 77 = .ok (.iconst (-1), 1) := by decide +kernel
theorem dX12_railLine_78 : decode cX12_railLine 78 = .ok (.if_icmp .ne 8, 3) := by decide +kernel
theorem dX12_railLine_81 : decode cX12_railLine 81 = .ok (.aload_n 0, 1) := by decide +kernel
theorem dX12_railLine_82 : decode cX12_railLine 82 = .ok (.invokevirtual 148, 3) := by decide +kernel
theorem dX12_railLine_85 : decode cX12_railLine 85 = .ok (.ireturn, 1) := by decide +kernel
theorem dX12_railLine_86 : decode cX12_railLine 86 = .ok (.iload 4, 2) := by decide +kernel
theorem dX12_railLine_88 : decode cX12_railLine 88 = .ok (.iconst 1, 1) := by decide +kernel
theorem dX12_railLine_89 : decode cX12_railLine 89 = .ok (.iconst 4, 1) := by decide +kernel
theorem dX12_railLine_90 : decode cX12_railLine 90 = .ok (.invokestatic 108, 3) := by decide +kernel
theorem dX12_railLine_93 : decode cX12_railLine 93 = .ok (.ifCond .eq 44, 3) := by decide +kernel
theorem dX12_railLine_96 : decode cX12_railLine 96 = .ok (.aload_n 0, 1) := by decide +kernel
theorem dX12_railLine_97 : decode cX12_railLine 97 = .ok (.iload 4, 2) := by decide +kernel
theorem dX12_railLine_99 : decode cX12_railLine 99 = .ok (.iload 4, 2) := by decide +kernel
theorem dX12_railLine_101 : decode cX12_railLine 101 = .ok (.iconst 1, 1) := by decide +kernel
theorem dX12_railLine_102 : decode cX12_railLine 102 = .ok (.if_icmp .ne 8, 3) := by decide +kernel
theorem dX12_railLine_105 : decode cX12_railLine 105 = .ok (.bipush 12, 2) := by decide +kernel
theorem dX12_railLine_107 : decode cX12_railLine 107 = .ok (.goto 26, 3) := by decide +kernel
theorem dX12_railLine_110 : decode cX12_railLine 110 = .ok (.iload 4, 2) := by decide +kernel
theorem dX12_railLine_112 : decode cX12_railLine 112 = .ok (.iconst 2, 1) := by decide +kernel
theorem dX12_railLine_113 : decode cX12_railLine 113 = .ok (.if_icmp .ne 8, 3) := by decide +kernel
theorem dX12_railLine_116 : decode cX12_railLine 116 = .ok (.bipush 8, 2) := by decide +kernel
theorem dX12_railLine_118 : decode cX12_railLine 118 = .ok (.goto 15, 3) := by decide +kernel
theorem dX12_railLine_121 : decode cX12_railLine 121 = .ok (.iload 4, 2) := by decide +kernel
theorem dX12_railLine_123 : decode cX12_railLine 123 = .ok (.iconst 3, 1) := by decide +kernel
theorem dX12_railLine_124 : decode cX12_railLine 124 = .ok (.if_icmp .ne 8, 3) := by decide +kernel
theorem dX12_railLine_127 : decode cX12_railLine 127 = .ok (.bipush 6, 2) := by decide +kernel
theorem dX12_railLine_129 : decode cX12_railLine 129 = .ok (.goto 4, 3) := by decide +kernel
theorem dX12_railLine_132 : decode cX12_railLine 132 = .ok (.iconst 4, 1) := by decide +kernel
theorem dX12_railLine_133 : decode cX12_railLine 133 = .ok (.iload_n 3, 1) := by decide +kernel
theorem dX12_railLine_134 : decode cX12_railLine 134 = .ok (.invokevirtual 195, 3) := by decide +kernel
theorem dX12_railLine_137 : decode cX12_railLine 137 = .ok (.aload_n 0, 1) := by decide +kernel
theorem dX12_railLine_138 : decode cX12_railLine 138 = .ok (.invokevirtual 160, 3) := by decide +kernel
theorem dX12_railLine_141 : decode cX12_railLine 141 = .ok (.iload 4, 2) := by decide +kernel
theorem dX12_railLine_143 : decode cX12_railLine 143 = .ok (.tableswitch 229 0 4 #[33, 60, 123, 151, 193], 33) := by decide +kernel
theorem dX12_railLine_176 : decode cX12_railLine 176 = .ok (.aload_n 0, 1) := by decide +kernel
theorem dX12_railLine_177 : decode cX12_railLine 177 = .ok (.iconst 0, 1) := by decide +kernel
theorem dX12_railLine_178 : decode cX12_railLine 178 = .ok (.iconst 2, 1) := by decide +kernel
theorem dX12_railLine_179 : decode cX12_railLine 179 = .ok (.bipush 6, 2) := by decide +kernel
theorem dX12_railLine_181 : decode cX12_railLine 181 = .ok (.invokevirtual 174, 3) := by decide +kernel
theorem dX12_railLine_184 : decode cX12_railLine 184 = .ok (.ifCond .ne 5, 3) := by decide +kernel
theorem dX12_railLine_187 : decode cX12_railLine 187 = .ok (.iconst 0, 1) := by decide +kernel
theorem dX12_railLine_188 : decode cX12_railLine 188 = .ok (.ireturn, 1) := by decide +kernel
theorem dX12_railLine_189 : decode cX12_railLine 189 = .ok (.aload_n 0, 1) := by decide +kernel
theorem dX12_railLine_190 : decode cX12_railLine 190 = .ok (.getfield 35, 3) := by decide +kernel
theorem dX12_railLine_193 : decode cX12_railLine 193 = .ok (.iconst 0, 1) := by decide +kernel
theorem dX12_railLine_194 : decode cX12_railLine 194 = .ok (.aload_n 0, 1) := by decide +kernel
theorem dX12_railLine_195 : decode cX12_railLine 195 = .ok (.getfield 38, 3) := by decide +kernel
theorem dX12_railLine_198 : decode cX12_railLine 198 = .ok (.iconst 0, 1) := by decide +kernel
theorem dX12_railLine_199 : decode cX12_railLine 199 = .ok (.iaload, 1) := by decide +kernel
theorem dX12_railLine_200 : decode cX12_railLine 200 = .ok (.iastore, 1) := by decide +kernel
theorem dX12_railLine_201 : decode cX12_railLine 201 = .ok (.iconst 1, 1) := by decide +kernel
theorem dX12_railLine_202 : decode cX12_railLine 202 = .ok (.ireturn, 1) := by decide +kernel
theorem dX12_railLine_203 : decode cX12_railLine 203 = .ok (.aload_n 0, 1) := by decide +kernel
theorem dX12_railLine_204 : decode cX12_railLine 204 = .ok (.iconst 0, 1) := by decide +kernel
theorem dX12_railLine_205 : decode cX12_railLine 205 = .ok (.iconst (-1), 1) := by decide +kernel
theorem dX12_railLine_206 : decode cX12_railLine 206 = .ok (.invokevirtual 177, 3) := by decide +kernel
theorem dX12_railLine_209 : decode cX12_railLine 209 = .ok (.ifCond .eq 55, 3) := by decide +kernel
theorem dX12_railLine_212 : decode cX12_railLine 212 = .ok (.aload_n 0, 1) := by decide +kernel
theorem dX12_railLine_213 : decode cX12_railLine 213 = .ok (.iconst 1, 1) := by decide +kernel
theorem dX12_railLine_214 : decode cX12_railLine 214 = .ok (.aload_n 0, 1) := by decide +kernel
theorem dX12_railLine_215 : decode cX12_railLine 215 = .ok (.getfield 38, 3) := by decide +kernel
theorem dX12_railLine_218 : decode cX12_railLine 218 = .ok (.iconst 0, 1) := by decide +kernel
theorem dX12_railLine_219 : decode cX12_railLine 219 = .ok (.iaload, 1) := by decide +kernel
theorem dX12_railLine_220 : decode cX12_railLine 220 = .ok (.invokevirtual 177, 3) := by decide +kernel
theorem dX12_railLine_223 : decode cX12_railLine 223 = .ok (.ifCond .eq 41, 3) := by decide +kernel
theorem dX12_railLine_226 : decode cX12_railLine 226 = .ok (.aload_n 0, 1) := by decide +kernel
theorem dX12_railLine_227 : decode cX12_railLine 227 = .ok (.iconst 2, 1) := by decide +kernel
theorem dX12_railLine_228 : decode cX12_railLine 228 = .ok (.iconst 0, 1) := by decide +kernel
theorem dX12_railLine_229 : decode cX12_railLine 229 = .ok (.bipush 11, 2) := by decide +kernel
theorem dX12_railLine_231 : decode cX12_railLine 231 = .ok (.invokevirtual 174, 3) := by decide +kernel
theorem dX12_railLine_234 : decode cX12_railLine 234 = .ok (.ifCond .eq 30, 3) := by decide +kernel
theorem dX12_railLine_237 : decode cX12_railLine 237 = .ok (.aload_n 0, 1) := by decide +kernel
theorem dX12_railLine_238 : decode cX12_railLine 238 = .ok (.iconst 3, 1) := by decide +kernel
theorem dX12_railLine_239 : decode cX12_railLine 239 = .ok (.iconst 1, 1) := by decide +kernel
theorem dX12_railLine_240 : decode cX12_railLine 240 = .ok (.bipush 24, 2) := by decide +kernel
theorem dX12_railLine_242 : decode cX12_railLine 242 = .ok (.invokevirtual 174, 3) := by decide +kernel
theorem dX12_railLine_245 : decode cX12_railLine 245 = .ok (.ifCond .eq 19, 3) := by decide +kernel
theorem dX12_railLine_248 : decode cX12_railLine 248 = .ok (.aload_n 0, 1) := by decide +kernel
theorem dX12_railLine_249 : decode cX12_railLine 249 = .ok (.iconst 1, 1) := by decide +kernel
theorem dX12_railLine_250 : decode cX12_railLine 250 = .ok (.iconst 5, 1) := by decide +kernel
theorem dX12_railLine_251 : decode cX12_railLine 251 = .ok (.iconst 4, 1) := by decide +kernel
theorem dX12_railLine_252 : decode cX12_railLine 252 = .ok (.bipush 12, 2) := by decide +kernel
theorem dX12_railLine_254 : decode cX12_railLine 254 = .ok (.invokevirtual 199, 3) := by decide +kernel
theorem dX12_railLine_257 : decode cX12_railLine 257 = .ok (.ifCond .eq 7, 3) := by decide +kernel
theorem dX12_railLine_260 : decode cX12_railLine 260 = .ok (.iconst 1, 1) := by decide +kernel
theorem dX12_railLine_261 : decode cX12_railLine 261 = .ok (.goto 4, 3) := by decide +kernel
theorem dX12_railLine_264 : decode cX12_railLine 264 = .ok (.iconst 0, 1) := by decide +kernel
theorem dX12_railLine_265 : decode cX12_railLine 265 = .ok (.ireturn, 1) := by decide +kernel
theorem dX12_railLine_266 : decode cX12_railLine 266 = .ok (.aload_n 0, 1) := by decide +kernel
theorem dX12_railLine_267 : decode cX12_railLine 267 = .ok (.iconst 0, 1) := by decide +kernel
theorem dX12_railLine_268 : decode cX12_railLine 268 = .ok (.iconst (-1), 1) := by decide +kernel
theorem dX12_railLine_269 : decode cX12_railLine 269 = .ok (.invokevirtual 177, 3) := by decide +kernel
theorem dX12_railLine_272 : decode cX12_railLine 272 = .ok (.ifCond .eq 20, 3) := by decide +kernel
theorem dX12_railLine_275 : decode cX12_railLine 275 = .ok (.aload_n 0, 1) := by decide +kernel
theorem dX12_railLine_276 : decode cX12_railLine 276 = .ok (.iconst 2, 1) := by decide +kernel
theorem dX12_railLine_277 : decode cX12_railLine 277 = .ok (.bipush 53, 2) := by decide +kernel
theorem dX12_railLine_279 : decode cX12_railLine 279 = .ok (.iconst 1, 1) := by decide +kernel
theorem dX12_railLine_280 : decode cX12_railLine 280 = .ok (.bipush 8, 2) := by decide +kernel
theorem dX12_railLine_282 : decode cX12_railLine 282 = .ok (.invokevirtual 199, 3) := by decide +kernel
theorem dX12_railLine_285 : decode cX12_railLine 285 = .ok (.ifCond .eq 7, 3) := by decide +kernel
theorem dX12_railLine_288 : decode cX12_railLine 288 = .ok (.iconst 1, 1) := by decide +kernel
theorem dX12_railLine_289 : decode cX12_railLine 289 = .ok (.goto 4, 3) := by decide +kernel
theorem dX12_railLine_292 : decode cX12_railLine 292 = .ok (.iconst 0, 1) := by decide +kernel
theorem dX12_railLine_293 : decode cX12_railLine 293 = .ok (.ireturn, 1) := by decide +kernel
theorem dX12_railLine_294 : decode cX12_railLine 294 = .ok (.aload_n 0, 1) := by decide +kernel
theorem dX12_railLine_295 : decode cX12_railLine 295 = .ok (.iconst 0, 1) := by decide +kernel
theorem dX12_railLine_296 : decode cX12_railLine 296 = .ok (.iconst (-1), 1) := by decide +kernel
theorem dX12_railLine_297 : decode cX12_railLine 297 = .ok (.invokevirtual 177, 3) := by decide +kernel
theorem dX12_railLine_300 : decode cX12_railLine 300 = .ok (.ifCond .eq 34, 3) := by decide +kernel
theorem dX12_railLine_303 : decode cX12_railLine 303 = .ok (.aload_n 0, 1) := by decide +kernel
theorem dX12_railLine_304 : decode cX12_railLine 304 = .ok (.iconst 1, 1) := by decide +kernel
theorem dX12_railLine_305 : decode cX12_railLine 305 = .ok (.aload_n 0, 1) := by decide +kernel
theorem dX12_railLine_306 : decode cX12_railLine 306 = .ok (.getfield 38, 3) := by decide +kernel
theorem dX12_railLine_309 : decode cX12_railLine 309 = .ok (.iconst 0, 1) := by decide +kernel
theorem dX12_railLine_310 : decode cX12_railLine 310 = .ok (.iaload, 1) := by decide +kernel
theorem dX12_railLine_311 : decode cX12_railLine 311 = .ok (.invokevirtual 177, 3) := by decide +kernel
theorem dX12_railLine_314 : decode cX12_railLine 314 = .ok (.ifCond .eq 20, 3) := by decide +kernel
theorem dX12_railLine_317 : decode cX12_railLine 317 = .ok (.aload_n 0, 1) := by decide +kernel
theorem dX12_railLine_318 : decode cX12_railLine 318 = .ok (.iconst 3, 1) := by decide +kernel
theorem dX12_railLine_319 : decode cX12_railLine 319 = .ok (.bipush 69, 2) := by decide +kernel
theorem dX12_railLine_321 : decode cX12_railLine 321 = .ok (.iconst 2, 1) := by decide +kernel
theorem dX12_railLine_322 : decode cX12_railLine 322 = .ok (.bipush 6, 2) := by decide +kernel
theorem dX12_railLine_324 : decode cX12_railLine 324 = .ok (.invokevirtual 199, 3) := by decide +kernel
theorem dX12_railLine_327 : decode cX12_railLine 327 = .ok (.ifCond .eq 7, 3) := by decide +kernel
theorem dX12_railLine_330 : decode cX12_railLine 330 = .ok (.iconst 1, 1) := by decide +kernel
theorem dX12_railLine_331 : decode cX12_railLine 331 = .ok (.goto 4, 3) := by decide +kernel
theorem dX12_railLine_334 : decode cX12_railLine 334 = .ok (.iconst 0, 1) := by decide +kernel
theorem dX12_railLine_335 : decode cX12_railLine 335 = .ok (.ireturn, 1) := by decide +kernel
theorem dX12_railLine_336 : decode cX12_railLine 336 = .ok (.aload_n 0, 1) := by decide +kernel
theorem dX12_railLine_337 : decode cX12_railLine 337 = .ok (.iconst 0, 1) := by decide +kernel
theorem dX12_railLine_338 : decode cX12_railLine 338 = .ok (.iconst (-1), 1) := by decide +kernel
theorem dX12_railLine_339 : decode cX12_railLine 339 = .ok (.invokevirtual 177, 3) := by decide +kernel
theorem dX12_railLine_342 : decode cX12_railLine 342 = .ok (.ifCond .eq 28, 3) := by decide +kernel
theorem dX12_railLine_345 : decode cX12_railLine 345 = .ok (.aload_n 0, 1) := by decide +kernel
theorem dX12_railLine_346 : decode cX12_railLine 346 = .ok (.iconst 1, 1) := by decide +kernel
theorem dX12_railLine_347 : decode cX12_railLine 347 = .ok (.iconst (-1), 1) := by decide +kernel
theorem dX12_railLine_348 : decode cX12_railLine 348 = .ok (.invokevirtual 177, 3) := by decide +kernel
theorem dX12_railLine_351 : decode cX12_railLine 351 = .ok (.ifCond .eq 19, 3) := by decide +kernel
theorem dX12_railLine_354 : decode cX12_railLine 354 = .ok (.aload_n 0, 1) := by decide +kernel
theorem dX12_railLine_355 : decode cX12_railLine 355 = .ok (.iconst 4, 1) := by decide +kernel
theorem dX12_railLine_356 : decode cX12_railLine 356 = .ok (.bipush 81, 2) := by decide +kernel
theorem dX12_railLine_358 : decode cX12_railLine 358 = .ok (.iconst 2, 1) := by decide +kernel
theorem dX12_railLine_359 : decode cX12_railLine 359 = .ok (.iconst 4, 1) := by decide +kernel
theorem dX12_railLine_360 : decode cX12_railLine 360 = .ok (.invokevirtual 199, 3) := by decide +kernel
theorem dX12_railLine_363 : decode cX12_railLine 363 = .ok (.ifCond .eq 7, 3) := by decide +kernel
theorem dX12_railLine_366 : decode cX12_railLine 366 = .ok (.iconst 1, 1) := by decide +kernel
theorem dX12_railLine_367 : decode cX12_railLine 367 = .ok (.goto 4, 3) := by decide +kernel
theorem dX12_railLine_370 : decode cX12_railLine 370 = .ok (.iconst 0, 1) := by decide +kernel
theorem dX12_railLine_371 : decode cX12_railLine 371 = .ok (.ireturn, 1) := by decide +kernel
theorem dX12_railLine_372 : decode cX12_railLine 372 = .ok (.aload_n 0, 1) := by decide +kernel
theorem dX12_railLine_373 : decode cX12_railLine 373 = .ok (.invokevirtual 202, 3) := by decide +kernel
theorem dX12_railLine_376 : decode cX12_railLine 376 = .ok (.ireturn, 1) := by decide +kernel
theorem dX12_keepRow_0 : decode cX12_keepRow 0 = .ok (.aload_n 0, 1) := by decide +kernel
theorem dX12_keepRow_1 : decode cX12_keepRow 1 = .ok (.getfield 35, 3) := by decide +kernel
theorem dX12_keepRow_4 : decode cX12_keepRow 4 = .ok (.iconst 0, 1) := by decide +kernel
theorem dX12_keepRow_5 : decode cX12_keepRow 5 = .ok (.iaload, 1) := by decide +kernel
theorem dX12_keepRow_6 : decode cX12_keepRow 6 = .ok (.istore_n 3, 1) := by decide +kernel
theorem dX12_keepRow_7 : decode cX12_keepRow 7 = .ok (.iload_n 3, 1) := by decide +kernel
theorem dX12_keepRow_8 : decode cX12_keepRow 8 = .ok (.iload_n 2, 1) := by decide +kernel
theorem dX12_keepRow_9 : decode cX12_keepRow 9 = .ok (.if_icmp .ne 4, 3) := by decide +kernel
theorem dX12_keepRow_12 : decode cX12_keepRow 12 = .ok (.return_, 1) := by decide +kernel
theorem dX12_keepRow_13 : decode cX12_keepRow 13 = .ok (.iconst 0, 1) := by decide +kernel
theorem dX12_keepRow_14 : decode cX12_keepRow 14 = .ok (.istore 4, 2) := by decide +kernel
theorem dX12_keepRow_16 : decode cX12_keepRow 16 = .ok (.iload 4, 2) := by decide +kernel
theorem dX12_keepRow_18 : decode cX12_keepRow 18 = .ok (.iload_n 1, 1) := by decide +kernel
theorem dX12_keepRow_19 : decode cX12_keepRow 19 = .ok (.if_icmp .ge 29, 3) := by decide +kernel
theorem dX12_keepRow_22 : decode cX12_keepRow 22 = .ok (.aload_n 0, 1) := by decide +kernel
theorem dX12_keepRow_23 : decode cX12_keepRow 23 = .ok (.getfield 35, 3) := by decide +kernel
theorem dX12_keepRow_26 : decode cX12_keepRow 26 = .ok (.iconst 1, 1) := by decide +kernel
theorem dX12_keepRow_27 : decode cX12_keepRow 27 = .ok (.iload_n 1, 1) := by decide +kernel
theorem dX12_keepRow_28 : decode cX12_keepRow 28 = .ok (.iload_n 3, 1) := by decide +kernel
theorem dX12_keepRow_29 : decode cX12_keepRow 29 = .ok (.imul, 1) := by decide +kernel
theorem dX12_keepRow_30 : decode cX12_keepRow 30 = .ok (.iadd, 1) := by decide +kernel
theorem dX12_keepRow_31 : decode cX12_keepRow 31 = .ok (.iload 4, 2) := by decide +kernel
theorem dX12_keepRow_33 : decode cX12_keepRow 33 = .ok (.iadd, 1) := by decide +kernel
theorem dX12_keepRow_34 : decode cX12_keepRow 34 = .ok (.aload_n 0, 1) := by decide +kernel
theorem dX12_keepRow_35 : decode cX12_keepRow 35 = .ok (.getfield 38, 3) := by decide +kernel
theorem dX12_keepRow_38 : decode cX12_keepRow 38 = .ok (.iload 4, 2) := by decide +kernel
theorem dX12_keepRow_40 : decode cX12_keepRow 40 = .ok (.iaload, 1) := by decide +kernel
theorem dX12_keepRow_41 : decode cX12_keepRow 41 = .ok (.iastore, 1) := by decide +kernel
theorem dX12_keepRow_42 : decode cX12_keepRow 42 = .ok (.iinc 4 1, 3) := by decide +kernel
theorem dX12_keepRow_45 : decode cX12_keepRow 45 = .ok (.goto (-29), 3) := by decide +kernel
theorem dX12_keepRow_48 : decode cX12_keepRow 48 = .ok (.aload_n 0, 1) := by decide +kernel
theorem dX12_keepRow_49 : decode cX12_keepRow 49 = .ok (.getfield 35, 3) := by decide +kernel
theorem dX12_keepRow_52 : decode cX12_keepRow 52 = .ok (.iconst 0, 1) := by decide +kernel
theorem dX12_keepRow_53 : decode cX12_keepRow 53 = .ok (.dup2, 1) := by decide +kernel
theorem dX12_keepRow_54 : decode cX12_keepRow 54 = .ok (.iaload, 1) := by decide +kernel
theorem dX12_keepRow_55 : decode cX12_keepRow 55 = .ok (.iconst 1, 1) := by decide +kernel
theorem dX12_keepRow_56 : decode cX12_keepRow 56 = .ok (.iadd, 1) := by decide +kernel
theorem dX12_keepRow_57 : decode cX12_keepRow 57 = .ok (.iastore, 1) := by decide +kernel
theorem dX12_keepRow_58 : decode cX12_keepRow 58 = .ok (.return_, 1) := by decide +kernel
theorem dX12_monthLine_0 : decode cX12_monthLine 0 = .ok (.lload_n 1, 1) := by decide +kernel
theorem dX12_monthLine_1 : decode cX12_monthLine 1 = .ok (.ldc2_w 205, 3) := by decide +kernel
theorem dX12_monthLine_4 : decode cX12_monthLine 4 = .ok (.lcmp, 1) := by decide +kernel
theorem dX12_monthLine_5 : decode cX12_monthLine 5 = .ok (.ifCond .ne 7, 3) := by decide +kernel
theorem dX12_monthLine_8 : decode cX12_monthLine 8 = .ok (.iconst 0, 1) := by decide +kernel
theorem dX12_monthLine_9 : decode cX12_monthLine 9 = .ok (.goto 28, 3) := by decide +kernel
theorem dX12_monthLine_12 : decode cX12_monthLine 12 = .ok (.lload_n 1, 1) := by decide +kernel
theorem dX12_monthLine_13 : decode cX12_monthLine 13 = .ok (.ldc2_w 207, 3) := by decide +kernel
theorem dX12_monthLine_16 : decode cX12_monthLine 16 = .ok (.lcmp, 1) := by decide +kernel
theorem dX12_monthLine_17 : decode cX12_monthLine 17 = .ok (.ifCond .ne 7, 3) := by decide +kernel
theorem dX12_monthLine_20 : decode cX12_monthLine 20 = .ok (.iconst 1, 1) := by decide +kernel
theorem dX12_monthLine_21 : decode cX12_monthLine 21 = .ok (.goto 16, 3) := by decide +kernel
theorem dX12_monthLine_24 : decode cX12_monthLine 24 = .ok (.lload_n 1, 1) := by decide +kernel
theorem dX12_monthLine_25 : decode cX12_monthLine 25 = .ok (.ldc2_w 209, 3) := by decide +kernel
theorem dX12_monthLine_28 : decode cX12_monthLine 28 = .ok (.lcmp, 1) := by decide +kernel
theorem dX12_monthLine_29 : decode cX12_monthLine 29 = .ok (.ifCond .ne 7, 3) := by decide +kernel
theorem dX12_monthLine_32 : decode cX12_monthLine 32 = .ok (.iconst 2, 1) := by decide +kernel
theorem dX12_monthLine_33 : decode cX12_monthLine 33 = .ok (.goto 4, 3) := by decide +kernel
theorem dX12_monthLine_36 : decode cX12_monthLine 36 = .ok (.iconst (-1), 1) := by decide +kernel
theorem dX12_monthLine_37 : decode cX12_monthLine 37 = .ok (.istore 4, 2) := by decide +kernel
theorem dX12_monthLine_39 : decode cX12_monthLine 39 = .ok (.iload 4, 2) := by decide +kernel
theorem dX12_monthLine_41 : decode cX12_monthLine 41 = .ok (.iconst (-1), 1) := by decide +kernel
theorem dX12_monthLine_42 : decode cX12_monthLine 42 = .ok (.if_icmp .ne 8, 3) := by decide +kernel
theorem dX12_monthLine_45 : decode cX12_monthLine 45 = .ok (.aload_n 0, 1) := by decide +kernel
theorem dX12_monthLine_46 : decode cX12_monthLine 46 = .ok (.invokevirtual 148, 3) := by decide +kernel
theorem dX12_monthLine_49 : decode cX12_monthLine 49 = .ok (.ireturn, 1) := by decide +kernel
theorem dX12_monthLine_50 : decode cX12_monthLine 50 = .ok (.aload_n 0, 1) := by decide +kernel
theorem dX12_monthLine_51 : decode cX12_monthLine 51 = .ok (.iconst 0, 1) := by decide +kernel
theorem dX12_monthLine_52 : decode cX12_monthLine 52 = .ok (.bipush 40, 2) := by decide +kernel
theorem dX12_monthLine_54 : decode cX12_monthLine 54 = .ok (.iload_n 3, 1) := by decide +kernel
theorem dX12_monthLine_55 : decode cX12_monthLine 55 = .ok (.invokevirtual 195, 3) := by decide +kernel
theorem dX12_monthLine_58 : decode cX12_monthLine 58 = .ok (.aload_n 0, 1) := by decide +kernel
theorem dX12_monthLine_59 : decode cX12_monthLine 59 = .ok (.invokevirtual 160, 3) := by decide +kernel
theorem dX12_monthLine_62 : decode cX12_monthLine 62 = .ok (.aload_n 0, 1) := by decide +kernel
theorem dX12_monthLine_63 : decode cX12_monthLine 63 = .ok (.iconst 1, 1) := by decide +kernel
theorem dX12_monthLine_64 : decode cX12_monthLine 64 = .ok (.iconst 0, 1) := by decide +kernel
theorem dX12_monthLine_65 : decode cX12_monthLine 65 = .ok (.iconst 3, 1) := by decide +kernel
theorem dX12_monthLine_66 : decode cX12_monthLine 66 = .ok (.invokevirtual 174, 3) := by decide +kernel
theorem dX12_monthLine_69 : decode cX12_monthLine 69 = .ok (.ifCond .eq 45, 3) := by decide +kernel
theorem dX12_monthLine_72 : decode cX12_monthLine 72 = .ok (.aload_n 0, 1) := by decide +kernel
theorem dX12_monthLine_73 : decode cX12_monthLine 73 = .ok (.iconst 2, 1) := by decide +kernel
theorem dX12_monthLine_74 : decode cX12_monthLine 74 = .ok (.iload 4, 2) := by decide +kernel
theorem dX12_monthLine_76 : decode cX12_monthLine 76 = .ok (.iconst 1, 1) := by decide +kernel
theorem dX12_monthLine_77 : decode cX12_monthLine 77 = .ok (.if_icmp .ne 7, 3) := by decide +kernel
theorem dX12_monthLine_80 : decode cX12_monthLine 80 = .ok (.iconst 1, 1) := by decide +kernel
theorem dX12_monthLine_81 : decode cX12_monthLine 81 = .ok (.goto 4, 3) := by decide +kernel
theorem dX12_monthLine_84 : decode cX12_monthLine 84 = .ok (.iconst 0, 1) := by decide +kernel
theorem dX12_monthLine_85 : decode cX12_monthLine 85 = .ok (.iload 4, 2) := by decide +kernel
theorem dX12_monthLine_87 : decode cX12_monthLine 87 = .ok (.ifCond .ne 8, 3) := by decide +kernel
theorem dX12_monthLine_90 : decode cX12_monthLine 90 = .ok (.bipush 11, 2) := by decide +kernel
theorem dX12_monthLine_92 : decode cX12_monthLine 92 = .ok (.goto 16, 3) := by decide +kernel
theorem dX12_monthLine_95 : decode cX12_monthLine 95 = .ok (.iload 4, 2) := by decide +kernel
theorem dX12_monthLine_97 : decode cX12_monthLine 97 = .ok (.iconst 1, 1) := by decide +kernel
theorem dX12_monthLine_98 : decode cX12_monthLine 98 = .ok (.if_icmp .ne 8, 3) := by decide +kernel
theorem dX12_monthLine_101 : decode cX12_monthLine 101 = .ok (.bipush 24, 2) := by decide +kernel
theorem dX12_monthLine_103 : decode cX12_monthLine 103 = .ok (.goto 5, 3) := by decide +kernel
theorem dX12_monthLine_106 : decode cX12_monthLine 106 = .ok (.bipush 7, 2) := by decide +kernel
theorem dX12_monthLine_108 : decode cX12_monthLine 108 = .ok (.invokevirtual 174, 3) := by decide +kernel
theorem dX12_monthLine_111 : decode cX12_monthLine 111 = .ok (.ifCond .ne 5, 3) := by decide +kernel
theorem dX12_monthLine_114 : decode cX12_monthLine 114 = .ok (.iconst 0, 1) := by decide +kernel
theorem dX12_monthLine_115 : decode cX12_monthLine 115 = .ok (.ireturn, 1) := by decide +kernel
theorem dX12_monthLine_116 : decode cX12_monthLine 116 = .ok (.aload_n 0, 1) := by decide +kernel
theorem dX12_monthLine_117 : decode cX12_monthLine 117 = .ok (.getfield 38, 3) := by decide +kernel
theorem dX12_monthLine_120 : decode cX12_monthLine 120 = .ok (.iconst 0, 1) := by decide +kernel
theorem dX12_monthLine_121 : decode cX12_monthLine 121 = .ok (.iload 4, 2) := by decide +kernel
theorem dX12_monthLine_123 : decode cX12_monthLine 123 = .ok (.iastore, 1) := by decide +kernel
theorem dX12_monthLine_124 : decode cX12_monthLine 124 = .ok (.aload_n 0, 1) := by decide +kernel
theorem dX12_monthLine_125 : decode cX12_monthLine 125 = .ok (.iconst 3, 1) := by decide +kernel
theorem dX12_monthLine_126 : decode cX12_monthLine 126 = .ok (.bipush 40, 2) := by decide +kernel
theorem dX12_monthLine_128 : decode cX12_monthLine 128 = .ok (.invokevirtual 211, 3) := by decide +kernel
theorem dX12_monthLine_131 : decode cX12_monthLine 131 = .ok (.iconst 1, 1) := by decide +kernel
theorem dX12_monthLine_132 : decode cX12_monthLine 132 = .ok (.ireturn, 1) := by decide +kernel
theorem dX12_logLine_0 : decode cX12_logLine 0 = .ok (.lload_n 1, 1) := by decide +kernel
theorem dX12_logLine_1 : decode cX12_logLine 1 = .ok (.ldc2_w 214, 3) := by decide +kernel
theorem dX12_logLine_4 : decode cX12_logLine 4 = .ok (.lcmp, 1) := by decide +kernel
theorem dX12_logLine_5 : decode cX12_logLine 5 = .ok (.ifCond .eq 8, 3) := by decide +kernel
theorem dX12_logLine_8 : decode cX12_logLine 8 = .ok (.aload_n 0, 1) := by decide +kernel
theorem dX12_logLine_9 : decode cX12_logLine 9 = .ok (.invokevirtual 148, 3) := by decide +kernel
theorem dX12_logLine_12 : decode cX12_logLine 12 = .ok (.ireturn, 1) := by decide +kernel
theorem dX12_logLine_13 : decode cX12_logLine 13 = .ok (.aload_n 0, 1) := by decide +kernel
theorem dX12_logLine_14 : decode cX12_logLine 14 = .ok (.iconst 0, 1) := by decide +kernel
theorem dX12_logLine_15 : decode cX12_logLine 15 = .ok (.bipush 8, 2) := by decide +kernel
theorem dX12_logLine_17 : decode cX12_logLine 17 = .ok (.iload_n 3, 1) := by decide +kernel
theorem dX12_logLine_18 : decode cX12_logLine 18 = .ok (.invokevirtual 195, 3) := by decide +kernel
theorem dX12_logLine_21 : decode cX12_logLine 21 = .ok (.aload_n 0, 1) := by decide +kernel
theorem dX12_logLine_22 : decode cX12_logLine 22 = .ok (.invokevirtual 160, 3) := by decide +kernel
theorem dX12_logLine_25 : decode cX12_logLine 25 = .ok (.aload_n 0, 1) := by decide +kernel
theorem dX12_logLine_26 : decode cX12_logLine 26 = .ok (.iconst 0, 1) := by decide +kernel
theorem dX12_logLine_27 : decode cX12_logLine 27 = .ok (.iconst (-1), 1) := by decide +kernel
theorem dX12_logLine_28 : decode cX12_logLine 28 = .ok (.invokevirtual 177, 3) := by decide +kernel
theorem dX12_logLine_31 : decode cX12_logLine 31 = .ok (.ifCond .eq 14, 3) := by decide +kernel
theorem dX12_logLine_34 : decode cX12_logLine 34 = .ok (.aload_n 0, 1) := by decide +kernel
theorem dX12_logLine_35 : decode cX12_logLine 35 = .ok (.iconst 1, 1) := by decide +kernel
theorem dX12_logLine_36 : decode cX12_logLine 36 = .ok (.iconst 0, 1) := by decide +kernel
theorem dX12_logLine_37 : decode cX12_logLine 37 = .ok (.bipush 99, 2) := by decide +kernel
theorem dX12_logLine_39 : decode cX12_logLine 39 = .ok (.invokevirtual 174, 3) := by decide +kernel
theorem dX12_logLine_42 : decode cX12_logLine 42 = .ok (.ifCond .ne 5, 3) := by decide +kernel
theorem dX12_logLine_45 : decode cX12_logLine 45 = .ok (.iconst 0, 1) := by decide +kernel
theorem dX12_logLine_46 : decode cX12_logLine 46 = .ok (.ireturn, 1) := by decide +kernel
theorem dX12_logLine_47 : decode cX12_logLine 47 = .ok (.aload_n 0, 1) := by decide +kernel
theorem dX12_logLine_48 : decode cX12_logLine 48 = .ok (.iconst 2, 1) := by decide +kernel
theorem dX12_logLine_49 : decode cX12_logLine 49 = .ok (.bipush 8, 2) := by decide +kernel
theorem dX12_logLine_51 : decode cX12_logLine 51 = .ok (.invokevirtual 211, 3) := by decide +kernel
theorem dX12_logLine_54 : decode cX12_logLine 54 = .ok (.iconst 1, 1) := by decide +kernel
theorem dX12_logLine_55 : decode cX12_logLine 55 = .ok (.ireturn, 1) := by decide +kernel
theorem dX12_lines_0 : decode cX12_lines 0 = .ok (.iconst 1, 1) := by decide +kernel
theorem dX12_lines_1 : decode cX12_lines 1 = .ok (.istore_n 2, 1) := by decide +kernel
theorem dX12_lines_2 : decode cX12_lines 2 = .ok (.iload_n 2, 1) := by decide +kernel
theorem dX12_lines_3 : decode cX12_lines 3 = .ok (.ifCond .eq 103, 3) := by decide +kernel
theorem dX12_lines_6 : decode cX12_lines 6 = .ok (.aload_n 0, 1) := by decide +kernel
theorem dX12_lines_7 : decode cX12_lines 7 = .ok (.getfield 133, 3) := by decide +kernel
theorem dX12_lines_10 : decode cX12_lines 10 = .ok (.ifCond .eq 96, 3) := by decide +kernel
theorem dX12_lines_13 : decode cX12_lines 13 = .ok (.aload_n 0, 1) := by decide +kernel
theorem dX12_lines_14 : decode cX12_lines 14 = .ok (.getfield 126, 3) := by decide +kernel
theorem dX12_lines_17 : decode cX12_lines 17 = .ok (.istore_n 3, 1) := by decide +kernel
theorem dX12_lines_18 : decode cX12_lines 18 = .ok (.aload_n 0, 1) := by decide +kernel
theorem dX12_lines_19 : decode cX12_lines 19 = .ok (.getfield 133, 3) := by decide +kernel
theorem dX12_lines_22 : decode cX12_lines 22 = .ok (.iconst 2, 1) := by decide +kernel
theorem dX12_lines_23 : decode cX12_lines 23 = .ok (.if_icmp .ne 10, 3) := by decide +kernel
theorem dX12_lines_26 : decode cX12_lines 26 = .ok (.aload_n 0, 1) := by decide +kernel
theorem dX12_lines_27 : decode cX12_lines 27 = .ok (.getfield 129, 3) := by decide +kernel
theorem dX12_lines_30 : decode cX12_lines 30 = .ok (.goto 4, 3) := by decide +kernel
theorem dX12_lines_33 : decode cX12_lines 33 = .ok (.lconst 0, 1) := by decide +kernel
theorem dX12_lines_34 : decode cX12_lines 34 = .ok (.lstore 4, 2) := by decide +kernel
theorem dX12_lines_36 : decode cX12_lines 36 = .ok (.aload_n 0, 1) := by decide +kernel
theorem dX12_lines_37 : decode cX12_lines 37 = .ok (.iconst 1, 1) := by decide +kernel
theorem dX12_lines_38 : decode cX12_lines 38 = .ok (.putfield 156, 3) := by decide +kernel
theorem dX12_lines_41 : decode cX12_lines 41 = .ok (.iload_n 1, 1) := by decide +kernel
theorem dX12_lines_42 : decode cX12_lines 42 = .ok (.ifCond .ne 13, 3) := by decide +kernel
theorem dX12_lines_45 : decode cX12_lines 45 = .ok (.aload_n 0, 1) := by decide +kernel
theorem dX12_lines_46 : decode cX12_lines 46 = .ok (.lload 4, 2) := by decide +kernel
theorem dX12_lines_48 : decode cX12_lines 48 = .ok (.iload_n 3, 1) := by decide +kernel
theorem dX12_lines_49 : decode cX12_lines 49 = .ok (.invokevirtual 216, 3) := by decide +kernel
theorem dX12_lines_52 : decode cX12_lines 52 = .ok (.goto 25, 3) := by decide +kernel
theorem dX12_lines_55 : decode cX12_lines 55 = .ok (.iload_n 1, 1) := by decide +kernel
theorem dX12_lines_56 : decode cX12_lines 56 = .ok (.iconst 1, 1) := by decide +kernel
theorem dX12_lines_57 : decode cX12_lines 57 = .ok (.if_icmp .ne 13, 3) := by decide +kernel
theorem dX12_lines_60 : decode cX12_lines 60 = .ok (.aload_n 0, 1) := by decide +kernel
theorem dX12_lines_61 : decode cX12_lines 61 = .ok (.lload 4, 2) := by decide +kernel
theorem dX12_lines_63 : decode cX12_lines 63 = .ok (.iload_n 3, 1) := by decide +kernel
theorem dX12_lines_64 : decode cX12_lines 64 = .ok (.invokevirtual 220, 3) := by decide +kernel
theorem dX12_lines_67 : decode cX12_lines 67 = .ok (.goto 10, 3) := by decide +kernel
theorem dX12_lines_70 : decode cX12_lines 70 = .ok (.aload_n 0, 1) := by decide +kernel
theorem dX12_lines_71 : decode cX12_lines 71 = .ok (.lload 4, 2) := by decide +kernel
theorem dX12_lines_73 : decode cX12_lines 73 = .ok (.iload_n 3, 1) := by decide +kernel
theorem dX12_lines_74 : decode cX12_lines 74 = .ok (.invokevirtual 223, 3) := by decide +kernel
theorem dX12_lines_77 : decode cX12_lines 77 = .ok (.istore_n 2, 1) := by decide +kernel
theorem dX12_lines_78 : decode cX12_lines 78 = .ok (.iload_n 2, 1) := by decide +kernel
theorem dX12_lines_79 : decode cX12_lines 79 = .ok (.ifCond .eq 16, 3) := by decide +kernel
theorem dX12_lines_82 : decode cX12_lines 82 = .ok (.aload_n 0, 1) := by decide +kernel
theorem dX12_lines_83 : decode cX12_lines 83 = .ok (.getfield 133, 3) := by decide +kernel
theorem dX12_lines_86 : decode cX12_lines 86 = .ok (.iconst 4, 1) := by decide +kernel
theorem dX12_lines_87 : decode cX12_lines 87 = .ok (.if_icmp .eq 8, 3) := by decide +kernel
theorem dX12_lines_90 : decode cX12_lines 90 = .ok (.aload_n 0, 1) := by decide +kernel
theorem dX12_lines_91 : decode cX12_lines 91 = .ok (.invokevirtual 148, 3) := by decide +kernel
theorem dX12_lines_94 : decode cX12_lines 94 = .ok (.istore_n 2, 1) := by decide +kernel
theorem dX12_lines_95 : decode cX12_lines 95 = .ok (.iload_n 2, 1) := by decide +kernel
theorem dX12_lines_96 : decode cX12_lines 96 = .ok (.ifCond .eq 7, 3) := by decide +kernel
theorem dX12_lines_99 : decode cX12_lines 99 = .ok (.aload_n 0, 1) := by decide +kernel
theorem dX12_lines_100 : decode cX12_lines 100 = .ok (.invokevirtual 160, 3) := by decide +kernel
theorem dX12_lines_103 : decode cX12_lines 103 = .ok (.goto (-101), 3) := by decide +kernel
theorem dX12_lines_106 : decode cX12_lines 106 = .ok (.iload_n 2, 1) := by decide +kernel
theorem dX12_lines_107 : decode cX12_lines 107 = .ok (.ireturn, 1) := by decide +kernel
theorem dX12_needsOwn_0 : decode cX12_needsOwn 0 = .ok (.iconst 0, 1) := by decide +kernel
theorem dX12_needsOwn_1 : decode cX12_needsOwn 1 = .ok (.istore_n 1, 1) := by decide +kernel
theorem dX12_needsOwn_2 : decode cX12_needsOwn 2 = .ok (.iload_n 1, 1) := by decide +kernel
theorem dX12_needsOwn_3 : decode cX12_needsOwn 3 = .ok (.aload_n 0, 1) := by decide +kernel
theorem dX12_needsOwn_4 : decode cX12_needsOwn 4 = .ok (.getfield 35, 3) := by decide +kernel
theorem dX12_needsOwn_7 : decode cX12_needsOwn 7 = .ok (.iconst 2, 1) := by decide +kernel
theorem dX12_needsOwn_8 : decode cX12_needsOwn 8 = .ok (.iaload, 1) := by decide +kernel
theorem dX12_needsOwn_9 : decode cX12_needsOwn 9 = .ok (.if_icmp .ge 35, 3) := by decide +kernel
theorem dX12_needsOwn_12 : decode cX12_needsOwn 12 = .ok (.aload_n 0, 1) := by decide +kernel
theorem dX12_needsOwn_13 : decode cX12_needsOwn 13 = .ok (.getfield 35, 3) := by decide +kernel
theorem dX12_needsOwn_16 : decode cX12_needsOwn 16 = .ok (.bipush 61, 2) := by decide +kernel
theorem dX12_needsOwn_18 : decode cX12_needsOwn 18 = .ok (.iload_n 1, 1) := by decide +kernel
theorem dX12_needsOwn_19 : decode cX12_needsOwn 19 = .ok (.iadd, 1) := by decide +kernel
theorem dX12_needsOwn_20 : decode cX12_needsOwn 20 = .ok (.iaload, 1) := by decide +kernel
theorem dX12_needsOwn_21 : decode cX12_needsOwn 21 = .ok (.aload_n 0, 1) := by decide +kernel
theorem dX12_needsOwn_22 : decode cX12_needsOwn 22 = .ok (.getfield 35, 3) := by decide +kernel
theorem dX12_needsOwn_25 : decode cX12_needsOwn 25 = .ok (.bipush 53, 2) := by decide +kernel
theorem dX12_needsOwn_27 : decode cX12_needsOwn 27 = .ok (.iload_n 1, 1) := by decide +kernel
theorem dX12_needsOwn_28 : decode cX12_needsOwn 28 = .ok (.iadd, 1) := by decide +kernel
theorem dX12_needsOwn_29 : decode cX12_needsOwn 29 = .ok (.iaload, 1) := by decide +kernel
theorem dX12_needsOwn_30 : decode cX12_needsOwn 30 = .ok (.invokestatic 100, 3) := by decide +kernel
theorem dX12_needsOwn_33 : decode cX12_needsOwn 33 = .ok (.ifCond .eq 5, 3) := by decide +kernel
theorem dX12_needsOwn_36 : decode cX12_needsOwn 36 = .ok (.iconst 1, 1) := by decide +kernel
theorem dX12_needsOwn_37 : decode cX12_needsOwn 37 = .ok (.ireturn, 1) := by decide +kernel
theorem dX12_needsOwn_38 : decode cX12_needsOwn 38 = .ok (.iinc 1 1, 3) := by decide +kernel
theorem dX12_needsOwn_41 : decode cX12_needsOwn 41 = .ok (.goto (-39), 3) := by decide +kernel
theorem dX12_needsOwn_44 : decode cX12_needsOwn 44 = .ok (.iconst 0, 1) := by decide +kernel
theorem dX12_needsOwn_45 : decode cX12_needsOwn 45 = .ok (.ireturn, 1) := by decide +kernel
theorem dX12_readText_0 : decode cX12_readText 0 = .ok (.iconst 0, 1) := by decide +kernel
theorem dX12_readText_1 : decode cX12_readText 1 = .ok (.istore_n 2, 1) := by decide +kernel
theorem dX12_readText_2 : decode cX12_readText 2 = .ok (.iload_n 2, 1) := by decide +kernel
theorem dX12_readText_3 : decode cX12_readText 3 = .ok (.bipush 121, 2) := by decide +kernel
theorem dX12_readText_5 : decode cX12_readText 5 = .ok (.if_icmp .ge 16, 3) := by decide +kernel
theorem dX12_readText_8 : decode cX12_readText 8 = .ok (.aload_n 0, 1) := by decide +kernel
theorem dX12_readText_9 : decode cX12_readText 9 = .ok (.getfield 35, 3) := by decide +kernel
theorem dX12_readText_12 : decode cX12_readText 12 = .ok (.iload_n 2, 1) := by decide +kernel
theorem dX12_readText_13 : decode cX12_readText 13 = .ok (.iconst 0, 1) := by decide +kernel
theorem dX12_readText_14 : decode cX12_readText 14 = .ok (.iastore, 1) := by decide +kernel
theorem dX12_readText_15 : decode cX12_readText 15 = .ok (.iinc 2 1, 3) := by decide +kernel
theorem dX12_readText_18 : decode cX12_readText 18 = .ok (.goto (-16), 3) := by decide +kernel
theorem dX12_readText_21 : decode cX12_readText 21 = .ok (.aload_n 0, 1) := by decide +kernel
theorem dX12_readText_22 : decode cX12_readText 22 = .ok (.getfield 35, 3) := by decide +kernel
theorem dX12_readText_25 : decode cX12_readText 25 = .ok (.iconst 0, 1) := by decide +kernel
theorem dX12_readText_26 : decode cX12_readText 26 = .ok (.iload_n 1, 1) := by decide +kernel
theorem dX12_readText_27 : decode cX12_readText 27 = .ok (.ifCond .ne 7, 3) := by decide +kernel
theorem dX12_readText_30 : decode cX12_readText 30 = .ok (.iconst 3, 1) := by decide +kernel
theorem dX12_readText_31 : decode cX12_readText 31 = .ok (.goto 4, 3) := by decide +kernel
theorem dX12_readText_34 : decode cX12_readText 34 = .ok (.iconst 0, 1) := by decide +kernel
theorem dX12_readText_35 : decode cX12_readText 35 = .ok (.iastore, 1) := by decide +kernel
theorem dX12_readText_36 : decode cX12_readText 36 = .ok (.aload_n 0, 1) := by decide +kernel
theorem dX12_readText_37 : decode cX12_readText 37 = .ok (.iconst (-1), 1) := by decide +kernel
theorem dX12_readText_38 : decode cX12_readText 38 = .ok (.putfield 167, 3) := by decide +kernel
theorem dX12_readText_41 : decode cX12_readText 41 = .ok (.aload_n 0, 1) := by decide +kernel
theorem dX12_readText_42 : decode cX12_readText 42 = .ok (.iconst (-1), 1) := by decide +kernel
theorem dX12_readText_43 : decode cX12_readText 43 = .ok (.putfield 180, 3) := by decide +kernel
theorem dX12_readText_46 : decode cX12_readText 46 = .ok (.aload_n 0, 1) := by decide +kernel
theorem dX12_readText_47 : decode cX12_readText 47 = .ok (.iconst 0, 1) := by decide +kernel
theorem dX12_readText_48 : decode cX12_readText 48 = .ok (.putfield 116, 3) := by decide +kernel
theorem dX12_readText_51 : decode cX12_readText 51 = .ok (.aload_n 0, 1) := by decide +kernel
theorem dX12_readText_52 : decode cX12_readText 52 = .ok (.iconst 0, 1) := by decide +kernel
theorem dX12_readText_53 : decode cX12_readText 53 = .ok (.putfield 142, 3) := by decide +kernel
theorem dX12_readText_56 : decode cX12_readText 56 = .ok (.aload_n 0, 1) := by decide +kernel
theorem dX12_readText_57 : decode cX12_readText 57 = .ok (.invokevirtual 160, 3) := by decide +kernel
theorem dX12_readText_60 : decode cX12_readText 60 = .ok (.aload_n 0, 1) := by decide +kernel
theorem dX12_readText_61 : decode cX12_readText 61 = .ok (.iload_n 1, 1) := by decide +kernel
theorem dX12_readText_62 : decode cX12_readText 62 = .ok (.invokevirtual 226, 3) := by decide +kernel
theorem dX12_readText_65 : decode cX12_readText 65 = .ok (.istore_n 2, 1) := by decide +kernel
theorem dX12_readText_66 : decode cX12_readText 66 = .ok (.iload_n 2, 1) := by decide +kernel
theorem dX12_readText_67 : decode cX12_readText 67 = .ok (.ifCond .eq 68, 3) := by decide +kernel
theorem dX12_readText_70 : decode cX12_readText 70 = .ok (.iload_n 1, 1) := by decide +kernel
theorem dX12_readText_71 : decode cX12_readText 71 = .ok (.ifCond .ne 64, 3) := by decide +kernel
theorem dX12_readText_74 : decode cX12_readText 74 = .ok (.aload_n 0, 1) := by decide +kernel
theorem dX12_readText_75 : decode cX12_readText 75 = .ok (.getfield 142, 3) := by decide +kernel
theorem dX12_readText_78 : decode cX12_readText 78 = .ok (.ifCond .ne 57, 3) := by decide +kernel
theorem dX12_readText_81 : decode cX12_readText 81 = .ok (.aload_n 0, 1) := by decide +kernel
theorem dX12_readText_82 : decode cX12_readText 82 = .ok (.getfield 167, 3) := by decide +kernel
theorem dX12_readText_85 : decode cX12_readText 85 = .ok (.aload_n 0, 1) := by decide +kernel
theorem dX12_readText_86 : decode cX12_readText 86 = .ok (.getfield 35, 3) := by decide +kernel
theorem dX12_readText_89 : decode cX12_readText 89 = .ok (.iconst 0, 1) := by decide +kernel
theorem dX12_readText_90 : decode cX12_readText 90 = .ok (.iaload, 1) := by decide +kernel
theorem dX12_readText_91 : decode cX12_readText 91 = .ok (.if_icmp .ge 16, 3) := by decide +kernel
theorem dX12_readText_94 : decode cX12_readText 94 = .ok (.aload_n 0, 1) := by decide +kernel
theorem dX12_readText_95 : decode cX12_readText 95 = .ok (.getfield 180, 3) := by decide +kernel
theorem dX12_readText_98 : decode cX12_readText 98 = .ok (.aload_n 0, 1) := by decide +kernel
theorem dX12_readText_99 : decode cX12_readText 99 = .ok (.getfield 35, 3) := by decide +kernel
theorem dX12_readText_102 : decode cX12_readText 102 = .ok (.iconst 2, 1) := by decide +kernel
theorem dX12_readText_103 : decode cX12_readText 103 = .ok (.iaload, 1) := by decide +kernel
theorem dX12_readText_104 : decode cX12_readText 104 = .ok (.if_icmp .lt 15, 3) := by decide +kernel
theorem dX12_readText_107 : decode cX12_readText 107 = .ok (.aload_n 0, 1) := by decide +kernel
theorem dX12_readText_108 : decode cX12_readText 108 = .ok (.iconst 4, 1) := by decide +kernel
theorem dX12_readText_109 : decode cX12_readText 109 = .ok (.aload_n 0, 1) := by decide +kernel
theorem dX12_readText_110 : decode cX12_readText 110 = .ok (.getfield 126, 3) := by decide +kernel
theorem dX12_readText_113 : decode cX12_readText 113 = .ok (.invokevirtual 152, 3) := by decide +kernel
theorem dX12_readText_116 : decode cX12_readText 116 = .ok (.goto 19, 3) := by decide +kernel
theorem dX12_readText_119 : decode cX12_readText 119 = .ok (.aload_n 0, 1) := by decide +kernel
theorem dX12_readText_120 : decode cX12_readText 120 = .ok (.invokevirtual 230, 3) := by decide +kernel
theorem dX12_readText_123 : decode cX12_readText 123 = .ok (.ifCond .eq 12, 3) := by decide +kernel
theorem dX12_readText_126 : decode cX12_readText 126 = .ok (.aload_n 0, 1) := by decide +kernel
theorem dX12_readText_127 : decode cX12_readText 127 = .ok (.iconst 5, 1) := by decide +kernel
theorem dX12_readText_128 : decode cX12_readText 128 = .ok (.aload_n 0, 1) := by decide +kernel
theorem dX12_readText_129 : decode cX12_readText 129 = .ok (.getfield 126, 3) := by decide +kernel
theorem dX12_readText_132 : decode cX12_readText 132 = .ok (.invokevirtual 152, 3) := by decide +kernel
theorem dX12_readText_135 : decode cX12_readText 135 = .ok (.aload_n 0, 1) := by decide +kernel
theorem dX12_readText_136 : decode cX12_readText 136 = .ok (.getfield 17, 3) := by decide +kernel
theorem dX12_readText_139 : decode cX12_readText 139 = .ok (.iconst 0, 1) := by decide +kernel
theorem dX12_readText_140 : decode cX12_readText 140 = .ok (.iload_n 2, 1) := by decide +kernel
theorem dX12_readText_141 : decode cX12_readText 141 = .ok (.ifCond .eq 10, 3) := by decide +kernel
theorem dX12_readText_144 : decode cX12_readText 144 = .ok (.aload_n 0, 1) := by decide +kernel
theorem dX12_readText_145 : decode cX12_readText 145 = .ok (.getfield 142, 3) := by decide +kernel
theorem dX12_readText_148 : decode cX12_readText 148 = .ok (.goto 4, 3) := by decide +kernel
theorem dX12_readText_151 : decode cX12_readText 151 = .ok (.iconst 1, 1) := by decide +kernel
theorem dX12_readText_152 : decode cX12_readText 152 = .ok (.iastore, 1) := by decide +kernel
theorem dX12_readText_153 : decode cX12_readText 153 = .ok (.aload_n 0, 1) := by decide +kernel
theorem dX12_readText_154 : decode cX12_readText 154 = .ok (.getfield 20, 3) := by decide +kernel
theorem dX12_readText_157 : decode cX12_readText 157 = .ok (.iconst 0, 1) := by decide +kernel
theorem dX12_readText_158 : decode cX12_readText 158 = .ok (.iload_n 2, 1) := by decide +kernel
theorem dX12_readText_159 : decode cX12_readText 159 = .ok (.ifCond .ne 10, 3) := by decide +kernel
theorem dX12_readText_162 : decode cX12_readText 162 = .ok (.aload_n 0, 1) := by decide +kernel
theorem dX12_readText_163 : decode cX12_readText 163 = .ok (.getfield 139, 3) := by decide +kernel
theorem dX12_readText_166 : decode cX12_readText 166 = .ok (.goto 18, 3) := by decide +kernel
theorem dX12_readText_169 : decode cX12_readText 169 = .ok (.aload_n 0, 1) := by decide +kernel
theorem dX12_readText_170 : decode cX12_readText 170 = .ok (.getfield 142, 3) := by decide +kernel
theorem dX12_readText_173 : decode cX12_readText 173 = .ok (.ifCond .le 10, 3) := by decide +kernel
theorem dX12_readText_176 : decode cX12_readText 176 = .ok (.aload_n 0, 1) := by decide +kernel
theorem dX12_readText_177 : decode cX12_readText 177 = .ok (.getfield 145, 3) := by decide +kernel
theorem dX12_readText_180 : decode cX12_readText 180 = .ok (.goto 4, 3) := by decide +kernel
theorem dX12_readText_183 : decode cX12_readText 183 = .ok (.iconst (-1), 1) := by decide +kernel
theorem dX12_readText_184 : decode cX12_readText 184 = .ok (.iastore, 1) := by decide +kernel
theorem dX12_readText_185 : decode cX12_readText 185 = .ok (.aload_n 0, 1) := by decide +kernel
theorem dX12_readText_186 : decode cX12_readText 186 = .ok (.getfield 17, 3) := by decide +kernel
theorem dX12_readText_189 : decode cX12_readText 189 = .ok (.iconst 0, 1) := by decide +kernel
theorem dX12_readText_190 : decode cX12_readText 190 = .ok (.iaload, 1) := by decide +kernel
theorem dX12_readText_191 : decode cX12_readText 191 = .ok (.ifCond .ne 7, 3) := by decide +kernel
theorem dX12_readText_194 : decode cX12_readText 194 = .ok (.iconst 1, 1) := by decide +kernel
theorem dX12_readText_195 : decode cX12_readText 195 = .ok (.goto 4, 3) := by decide +kernel
theorem dX12_readText_198 : decode cX12_readText 198 = .ok (.iconst 0, 1) := by decide +kernel
theorem dX12_readText_199 : decode cX12_readText 199 = .ok (.ireturn, 1) := by decide +kernel
theorem dX12_store_0 : decode cX12_store 0 = .ok (.iconst 0, 1) := by decide +kernel
theorem dX12_store_1 : decode cX12_store 1 = .ok (.istore 4, 2) := by decide +kernel
theorem dX12_store_3 : decode cX12_store 3 = .ok (.iload 4, 2) := by decide +kernel
theorem dX12_store_5 : decode cX12_store 5 = .ok (.iload_n 2, 1) := by decide +kernel
theorem dX12_store_6 : decode cX12_store 6 = .ok (.if_icmp .ge 24, 3) := by decide +kernel
theorem dX12_store_9 : decode cX12_store 9 = .ok (.aload_n 1, 1) := by decide +kernel
theorem dX12_store_10 : decode cX12_store 10 = .ok (.iload_n 2, 1) := by decide +kernel
theorem dX12_store_11 : decode cX12_store 11 = .ok (.iload_n 3, 1) := by decide +kernel
theorem dX12_store_12 : decode cX12_store 12 = .ok (.imul, 1) := by decide +kernel
theorem dX12_store_13 : decode cX12_store 13 = .ok (.iload 4, 2) := by decide +kernel
theorem dX12_store_15 : decode cX12_store 15 = .ok (.iadd, 1) := by decide +kernel
theorem dX12_store_16 : decode cX12_store 16 = .ok (.aload_n 0, 1) := by decide +kernel
theorem dX12_store_17 : decode cX12_store 17 = .ok (.getfield 35, 3) := by decide +kernel
theorem dX12_store_20 : decode cX12_store 20 = .ok (.iload 4, 2) := by decide +kernel
theorem dX12_store_22 : decode cX12_store 22 = .ok (.iaload, 1) := by decide +kernel
theorem dX12_store_23 : decode cX12_store 23 = .ok (.iastore, 1) := by decide +kernel
theorem dX12_store_24 : decode cX12_store 24 = .ok (.iinc 4 1, 3) := by decide +kernel
theorem dX12_store_27 : decode cX12_store 27 = .ok (.goto (-24), 3) := by decide +kernel
theorem dX12_store_30 : decode cX12_store 30 = .ok (.return_, 1) := by decide +kernel
theorem dX12_text_0 : decode cX12_text 0 = .ok (.aload_n 0, 1) := by decide +kernel
theorem dX12_text_1 : decode cX12_text 1 = .ok (.iconst 0, 1) := by decide +kernel
theorem dX12_text_2 : decode cX12_text 2 = .ok (.putfield 96, 3) := by decide +kernel
theorem dX12_text_5 : decode cX12_text 5 = .ok (.aload_n 0, 1) := by decide +kernel
theorem dX12_text_6 : decode cX12_text 6 = .ok (.aload_n 0, 1) := by decide +kernel
theorem dX12_text_7 : decode cX12_text 7 = .ok (.getfield 13, 3) := by decide +kernel
theorem dX12_text_10 : decode cX12_text 10 = .ok (.iconst 0, 1) := by decide +kernel
theorem dX12_text_11 : decode cX12_text 11 = .ok (.iaload, 1) := by decide +kernel
theorem dX12_text_12 : decode cX12_text 12 = .ok (.putfield 119, 3) := by decide +kernel
theorem dX12_text_15 : decode cX12_text 15 = .ok (.aload_n 0, 1) := by decide +kernel
theorem dX12_text_16 : decode cX12_text 16 = .ok (.getfield 13, 3) := by decide +kernel
theorem dX12_text_19 : decode cX12_text 19 = .ok (.iconst 0, 1) := by decide +kernel
theorem dX12_text_20 : decode cX12_text 20 = .ok (.iconst 0, 1) := by decide +kernel
theorem dX12_text_21 : decode cX12_text 21 = .ok (.iastore, 1) := by decide +kernel
theorem dX12_text_22 : decode cX12_text 22 = .ok (.aload_n 0, 1) := by decide +kernel
theorem dX12_text_23 : decode cX12_text 23 = .ok (.getfield 17, 3) := by decide +kernel
theorem dX12_text_26 : decode cX12_text 26 = .ok (.iconst 0, 1) := by decide +kernel
theorem dX12_text_27 : decode cX12_text 27 = .ok (.iconst 0, 1) := by decide +kernel
theorem dX12_text_28 : decode cX12_text 28 = .ok (.iastore, 1) := by decide +kernel
theorem dX12_text_29 : decode cX12_text 29 = .ok (.aload_n 0, 1) := by decide +kernel
theorem dX12_text_30 : decode cX12_text 30 = .ok (.getfield 20, 3) := by decide +kernel
theorem dX12_text_33 : decode cX12_text 33 = .ok (.iconst 0, 1) := by decide +kernel
theorem dX12_text_34 : decode cX12_text 34 = .ok (.iconst (-1), 1) := by decide +kernel
theorem dX12_text_35 : decode cX12_text 35 = .ok (.iastore, 1) := by decide +kernel
theorem dX12_text_36 : decode cX12_text 36 = .ok (.iload_n 1, 1) := by decide +kernel
theorem dX12_text_37 : decode cX12_text 37 = .ok (.iconst 0, 1) := by decide +kernel
theorem dX12_text_38 : decode cX12_text 38 = .ok (.iconst 2, 1) := by decide +kernel
theorem dX12_text_39 : decode cX12_text 39 = .ok (.invokestatic 108, 3) := by decide +kernel
theorem dX12_text_42 : decode cX12_text 42 = .ok (.ifCond .eq 30, 3) := by decide +kernel
theorem dX12_text_45 : decode cX12_text 45 = .ok (.iload_n 2, 1) := by decide +kernel
theorem dX12_text_46 : decode cX12_text 46 = .ok (.iconst (-1), 1) := by decide +kernel
theorem dX12_text_47 : decode cX12_text 47 = .ok (.if_icmp .ne 16, 3) := by decide +kernel
theorem dX12_text_50 : decode cX12_text 50 = .ok (.aload_n 0, 1) := by decide +kernel
theorem dX12_text_51 : decode cX12_text 51 = .ok (.getfield 23, 3) := by decide +kernel
theorem dX12_text_54 : decode cX12_text 54 = .ok (.iload_n 1, 1) := by decide +kernel
theorem dX12_text_55 : decode cX12_text 55 = .ok (.iaload, 1) := by decide +kernel
theorem dX12_text_56 : decode cX12_text 56 = .ok (.iconst 2, 1) := by decide +kernel
theorem dX12_text_57 : decode cX12_text 57 = .ok (.if_icmp .ne 18, 3) := by decide +kernel
theorem dX12_text_60 : decode cX12_text 60 = .ok (.goto 12, 3) := by decide +kernel
theorem dX12_text_63 : decode cX12_text 63 = .ok (.aload_n 0, 1) := by decide +kernel
theorem dX12_text_64 : decode cX12_text 64 = .ok (.iload_n 1, 1) := by decide +kernel
theorem dX12_text_65 : decode cX12_text 65 = .ok (.iload_n 2, 1) := by decide +kernel
theorem dX12_text_66 : decode cX12_text 66 = .ok (.invokevirtual 233, 3) := by decide +kernel
theorem dX12_text_69 : decode cX12_text 69 = .ok (.ifCond .ne 6, 3) := by decide +kernel
theorem dX12_text_72 : decode cX12_text 72 = .ok (.bipush (-2), 2) := by decide +kernel
theorem dX12_text_74 : decode cX12_text 74 = .ok (.ireturn, 1) := by decide +kernel
theorem dX12_text_75 : decode cX12_text 75 = .ok (.aload_n 0, 1) := by decide +kernel
theorem dX12_text_76 : decode cX12_text 76 = .ok (.iload_n 1, 1) := by decide +kernel
theorem dX12_text_77 : decode cX12_text 77 = .ok (.invokevirtual 236, 3) := by decide +kernel
theorem dX12_text_80 : decode cX12_text 80 = .ok (.ifCond .ne 5, 3) := by decide +kernel
theorem dX12_text_83 : decode cX12_text 83 = .ok (.iconst (-1), 1) := by decide +kernel
theorem dX12_text_84 : decode cX12_text 84 = .ok (.ireturn, 1) := by decide +kernel
theorem dX12_text_85 : decode cX12_text 85 = .ok (.iload_n 2, 1) := by decide +kernel
theorem dX12_text_86 : decode cX12_text 86 = .ok (.iconst (-1), 1) := by decide +kernel
theorem dX12_text_87 : decode cX12_text 87 = .ok (.if_icmp .ne 12, 3) := by decide +kernel
theorem dX12_text_90 : decode cX12_text 90 = .ok (.aload_n 0, 1) := by decide +kernel
theorem dX12_text_91 : decode cX12_text 91 = .ok (.getfield 23, 3) := by decide +kernel
theorem dX12_text_94 : decode cX12_text 94 = .ok (.iload_n 1, 1) := by decide +kernel
theorem dX12_text_95 : decode cX12_text 95 = .ok (.iaload, 1) := by decide +kernel
theorem dX12_text_96 : decode cX12_text 96 = .ok (.goto 4, 3) := by decide +kernel
theorem dX12_text_99 : decode cX12_text 99 = .ok (.iload_n 2, 1) := by decide +kernel
theorem dX12_text_100 : decode cX12_text 100 = .ok (.istore_n 3, 1) := by decide +kernel
theorem dX12_text_101 : decode cX12_text 101 = .ok (.aload_n 0, 1) := by decide +kernel
theorem dX12_text_102 : decode cX12_text 102 = .ok (.getfield 23, 3) := by decide +kernel
theorem dX12_text_105 : decode cX12_text 105 = .ok (.iload_n 1, 1) := by decide +kernel
theorem dX12_text_106 : decode cX12_text 106 = .ok (.dup2, 1) := by decide +kernel
theorem dX12_text_107 : decode cX12_text 107 = .ok (.iaload, 1) := by decide +kernel
theorem dX12_text_108 : decode cX12_text 108 = .ok (.iload_n 2, 1) := by decide +kernel
theorem dX12_text_109 : decode cX12_text 109 = .ok (.iconst (-1), 1) := by decide +kernel
theorem dX12_text_110 : decode cX12_text 110 = .ok (.if_icmp .ne 7, 3) := by decide +kernel
theorem dX12_text_113 : decode cX12_text 113 = .ok (.iconst 1, 1) := by decide +kernel
theorem dX12_text_114 : decode cX12_text 114 = .ok (.goto 4, 3) := by decide +kernel
theorem dX12_text_117 : decode cX12_text 117 = .ok (.iconst 0, 1) := by decide +kernel
theorem dX12_text_118 : decode cX12_text 118 = .ok (.iadd, 1) := by decide +kernel
theorem dX12_text_119 : decode cX12_text 119 = .ok (.iastore, 1) := by decide +kernel
theorem dX12_text_120 : decode cX12_text 120 = .ok (.iload_n 1, 1) := by decide +kernel
theorem dX12_text_121 : decode cX12_text 121 = .ok (.ifCond .ne 17, 3) := by decide +kernel
theorem dX12_text_124 : decode cX12_text 124 = .ok (.aload_n 0, 1) := by decide +kernel
theorem dX12_text_125 : decode cX12_text 125 = .ok (.aload_n 0, 1) := by decide +kernel
theorem dX12_text_126 : decode cX12_text 126 = .ok (.getfield 26, 3) := by decide +kernel
theorem dX12_text_129 : decode cX12_text 129 = .ok (.bipush 89, 2) := by decide +kernel
theorem dX12_text_131 : decode cX12_text 131 = .ok (.iload_n 3, 1) := by decide +kernel
theorem dX12_text_132 : decode cX12_text 132 = .ok (.invokevirtual 239, 3) := by decide +kernel
theorem dX12_text_135 : decode cX12_text 135 = .ok (.goto 33, 3) := by decide +kernel
theorem dX12_text_138 : decode cX12_text 138 = .ok (.iload_n 1, 1) := by decide +kernel
theorem dX12_text_139 : decode cX12_text 139 = .ok (.iconst 1, 1) := by decide +kernel
theorem dX12_text_140 : decode cX12_text 140 = .ok (.if_icmp .ne 17, 3) := by decide +kernel
theorem dX12_text_143 : decode cX12_text 143 = .ok (.aload_n 0, 1) := by decide +kernel
theorem dX12_text_144 : decode cX12_text 144 = .ok (.aload_n 0, 1) := by decide +kernel
theorem dX12_text_145 : decode cX12_text 145 = .ok (.getfield 29, 3) := by decide +kernel
theorem dX12_text_148 : decode cX12_text 148 = .ok (.bipush 121, 2) := by decide +kernel
theorem dX12_text_150 : decode cX12_text 150 = .ok (.iload_n 3, 1) := by decide +kernel
theorem dX12_text_151 : decode cX12_text 151 = .ok (.invokevirtual 239, 3) := by decide +kernel
theorem dX12_text_154 : decode cX12_text 154 = .ok (.goto 14, 3) := by decide +kernel
theorem dX12_text_157 : decode cX12_text 157 = .ok (.aload_n 0, 1) := by decide +kernel
theorem dX12_text_158 : decode cX12_text 158 = .ok (.aload_n 0, 1) := by decide +kernel
theorem dX12_text_159 : decode cX12_text 159 = .ok (.getfield 32, 3) := by decide +kernel
theorem dX12_text_162 : decode cX12_text 162 = .ok (.bipush 17, 2) := by decide +kernel
theorem dX12_text_164 : decode cX12_text 164 = .ok (.iload_n 3, 1) := by decide +kernel
theorem dX12_text_165 : decode cX12_text 165 = .ok (.invokevirtual 239, 3) := by decide +kernel
theorem dX12_text_168 : decode cX12_text 168 = .ok (.iload_n 3, 1) := by decide +kernel
theorem dX12_text_169 : decode cX12_text 169 = .ok (.ireturn, 1) := by decide +kernel
theorem dX12_fault_0 : decode cX12_fault 0 = .ok (.aload_n 0, 1) := by decide +kernel
theorem dX12_fault_1 : decode cX12_fault 1 = .ok (.iconst 0, 1) := by decide +kernel
theorem dX12_fault_2 : decode cX12_fault 2 = .ok (.putfield 96, 3) := by decide +kernel
theorem dX12_fault_5 : decode cX12_fault 5 = .ok (.iload_n 1, 1) := by decide +kernel
theorem dX12_fault_6 : decode cX12_fault 6 = .ok (.ifCond .ne 12, 3) := by decide +kernel
theorem dX12_fault_9 : decode cX12_fault 9 = .ok (.aload_n 0, 1) := by decide +kernel
theorem dX12_fault_10 : decode cX12_fault 10 = .ok (.getfield 17, 3) := by decide +kernel
theorem dX12_fault_13 : decode cX12_fault 13 = .ok (.iconst 0, 1) := by decide +kernel
theorem dX12_fault_14 : decode cX12_fault 14 = .ok (.iaload, 1) := by decide +kernel
theorem dX12_fault_15 : decode cX12_fault 15 = .ok (.goto 18, 3) := by decide +kernel
theorem dX12_fault_18 : decode cX12_fault 18 = .ok (.iload_n 1, 1) := by decide +kernel
theorem dX12_fault_19 : decode cX12_fault 19 = .ok (.iconst 1, 1) := by decide +kernel
theorem dX12_fault_20 : decode cX12_fault 20 = .ok (.if_icmp .ne 12, 3) := by decide +kernel
theorem dX12_fault_23 : decode cX12_fault 23 = .ok (.aload_n 0, 1) := by decide +kernel
theorem dX12_fault_24 : decode cX12_fault 24 = .ok (.getfield 20, 3) := by decide +kernel
theorem dX12_fault_27 : decode cX12_fault 27 = .ok (.iconst 0, 1) := by decide +kernel
theorem dX12_fault_28 : decode cX12_fault 28 = .ok (.iaload, 1) := by decide +kernel
theorem dX12_fault_29 : decode cX12_fault 29 = .ok (.goto 4, 3) := by decide +kernel
theorem dX12_fault_32 : decode cX12_fault 32 = .ok (.iconst (-1), 1) := by decide +kernel
theorem dX12_fault_33 : decode cX12_fault 33 = .ok (.ireturn, 1) := by decide +kernel
theorem dX12_of_0 : decode cX12_of 0 = .ok (.aload_n 0, 1) := by decide +kernel
theorem dX12_of_1 : decode cX12_of 1 = .ok (.getfield 26, 3) := by decide +kernel
theorem dX12_of_4 : decode cX12_of 4 = .ok (.bipush 89, 2) := by decide +kernel
theorem dX12_of_6 : decode cX12_of 6 = .ok (.aload_n 0, 1) := by decide +kernel
theorem dX12_of_7 : decode cX12_of 7 = .ok (.getfield 243, 3) := by decide +kernel
theorem dX12_of_10 : decode cX12_of 10 = .ok (.imul, 1) := by decide +kernel
theorem dX12_of_11 : decode cX12_of 11 = .ok (.iload_n 1, 1) := by decide +kernel
theorem dX12_of_12 : decode cX12_of 12 = .ok (.iadd, 1) := by decide +kernel
theorem dX12_of_13 : decode cX12_of 13 = .ok (.iaload, 1) := by decide +kernel
theorem dX12_of_14 : decode cX12_of 14 = .ok (.ireturn, 1) := by decide +kernel
theorem dX12_hand_0 : decode cX12_hand 0 = .ok (.aload_n 0, 1) := by decide +kernel
theorem dX12_hand_1 : decode cX12_hand 1 = .ok (.iconst 0, 1) := by decide +kernel
theorem dX12_hand_2 : decode cX12_hand 2 = .ok (.iload_n 1, 1) := by decide +kernel
theorem dX12_hand_3 : decode cX12_hand 3 = .ok (.invokevirtual 233, 3) := by decide +kernel
theorem dX12_hand_6 : decode cX12_hand 6 = .ok (.ifCond .ne 5, 3) := by decide +kernel
theorem dX12_hand_9 : decode cX12_hand 9 = .ok (.iconst 0, 1) := by decide +kernel
theorem dX12_hand_10 : decode cX12_hand 10 = .ok (.ireturn, 1) := by decide +kernel
theorem dX12_hand_11 : decode cX12_hand 11 = .ok (.aload_n 0, 1) := by decide +kernel
theorem dX12_hand_12 : decode cX12_hand 12 = .ok (.iload_n 1, 1) := by decide +kernel
theorem dX12_hand_13 : decode cX12_hand 13 = .ok (.putfield 243, 3) := by decide +kernel
theorem dX12_hand_16 : decode cX12_hand 16 = .ok (.aload_n 0, 1) := by decide +kernel
theorem dX12_hand_17 : decode cX12_hand 17 = .ok (.aload_n 0, 1) := by decide +kernel
theorem dX12_hand_18 : decode cX12_hand 18 = .ok (.iconst 0, 1) := by decide +kernel
theorem dX12_hand_19 : decode cX12_hand 19 = .ok (.invokevirtual 246, 3) := by decide +kernel
theorem dX12_hand_22 : decode cX12_hand 22 = .ok (.putfield 250, 3) := by decide +kernel
theorem dX12_hand_25 : decode cX12_hand 25 = .ok (.aload_n 0, 1) := by decide +kernel
theorem dX12_hand_26 : decode cX12_hand 26 = .ok (.aload_n 0, 1) := by decide +kernel
theorem dX12_hand_27 : decode cX12_hand 27 = .ok (.iconst 1, 1) := by decide +kernel
theorem dX12_hand_28 : decode cX12_hand 28 = .ok (.invokevirtual 246, 3) := by decide +kernel
theorem dX12_hand_31 : decode cX12_hand 31 = .ok (.putfield 253, 3) := by decide +kernel
theorem dX12_hand_34 : decode cX12_hand 34 = .ok (.aload_n 0, 1) := by decide +kernel
theorem dX12_hand_35 : decode cX12_hand 35 = .ok (.aload_n 0, 1) := by decide +kernel
theorem dX12_hand_36 : decode cX12_hand 36 = .ok (.iconst 2, 1) := by decide +kernel
theorem dX12_hand_37 : decode cX12_hand 37 = .ok (.invokevirtual 246, 3) := by decide +kernel
theorem dX12_hand_40 : decode cX12_hand 40 = .ok (.putfield 256, 3) := by decide +kernel
theorem dX12_hand_43 : decode cX12_hand 43 = .ok (.aload_n 0, 1) := by decide +kernel
theorem dX12_hand_44 : decode cX12_hand 44 = .ok (.aload_n 0, 1) := by decide +kernel
theorem dX12_hand_45 : decode cX12_hand 45 = .ok (.iconst 4, 1) := by decide +kernel
theorem dX12_hand_46 : decode cX12_hand 46 = .ok (.invokevirtual 246, 3) := by decide +kernel
theorem dX12_hand_49 : decode cX12_hand 49 = .ok (.putfield 259, 3) := by decide +kernel
theorem dX12_hand_52 : decode cX12_hand 52 = .ok (.aload_n 0, 1) := by decide +kernel
theorem dX12_hand_53 : decode cX12_hand 53 = .ok (.iconst 0, 1) := by decide +kernel
theorem dX12_hand_54 : decode cX12_hand 54 = .ok (.invokevirtual 262, 3) := by decide +kernel
theorem dX12_hand_57 : decode cX12_hand 57 = .ok (.iconst 1, 1) := by decide +kernel
theorem dX12_hand_58 : decode cX12_hand 58 = .ok (.ireturn, 1) := by decide +kernel
theorem dX12_isLand_0 : decode cX12_isLand 0 = .ok (.iload_n 1, 1) := by decide +kernel
theorem dX12_isLand_1 : decode cX12_isLand 1 = .ok (.iconst 0, 1) := by decide +kernel
theorem dX12_isLand_2 : decode cX12_isLand 2 = .ok (.aload_n 0, 1) := by decide +kernel
theorem dX12_isLand_3 : decode cX12_isLand 3 = .ok (.getfield 250, 3) := by decide +kernel
theorem dX12_isLand_6 : decode cX12_isLand 6 = .ok (.iconst 1, 1) := by decide +kernel
theorem dX12_isLand_7 : decode cX12_isLand 7 = .ok (.isub, 1) := by decide +kernel
theorem dX12_isLand_8 : decode cX12_isLand 8 = .ok (.invokestatic 108, 3) := by decide +kernel
theorem dX12_isLand_11 : decode cX12_isLand 11 = .ok (.ireturn, 1) := by decide +kernel
theorem dX12_isTrain_0 : decode cX12_isTrain 0 = .ok (.iload_n 1, 1) := by decide +kernel
theorem dX12_isTrain_1 : decode cX12_isTrain 1 = .ok (.iconst 0, 1) := by decide +kernel
theorem dX12_isTrain_2 : decode cX12_isTrain 2 = .ok (.aload_n 0, 1) := by decide +kernel
theorem dX12_isTrain_3 : decode cX12_isTrain 3 = .ok (.getfield 253, 3) := by decide +kernel
theorem dX12_isTrain_6 : decode cX12_isTrain 6 = .ok (.iconst 1, 1) := by decide +kernel
theorem dX12_isTrain_7 : decode cX12_isTrain 7 = .ok (.isub, 1) := by decide +kernel
theorem dX12_isTrain_8 : decode cX12_isTrain 8 = .ok (.invokestatic 108, 3) := by decide +kernel
theorem dX12_isTrain_11 : decode cX12_isTrain 11 = .ok (.ireturn, 1) := by decide +kernel
theorem dX12_isPermit_0 : decode cX12_isPermit 0 = .ok (.iload_n 1, 1) := by decide +kernel
theorem dX12_isPermit_1 : decode cX12_isPermit 1 = .ok (.iconst 0, 1) := by decide +kernel
theorem dX12_isPermit_2 : decode cX12_isPermit 2 = .ok (.aload_n 0, 1) := by decide +kernel
theorem dX12_isPermit_3 : decode cX12_isPermit 3 = .ok (.getfield 256, 3) := by decide +kernel
theorem dX12_isPermit_6 : decode cX12_isPermit 6 = .ok (.iconst 1, 1) := by decide +kernel
theorem dX12_isPermit_7 : decode cX12_isPermit 7 = .ok (.isub, 1) := by decide +kernel
theorem dX12_isPermit_8 : decode cX12_isPermit 8 = .ok (.invokestatic 108, 3) := by decide +kernel
theorem dX12_isPermit_11 : decode cX12_isPermit 11 = .ok (.ireturn, 1) := by decide +kernel
theorem dX12_isClerk_0 : decode cX12_isClerk 0 = .ok (.iload_n 1, 1) := by decide +kernel
theorem dX12_isClerk_1 : decode cX12_isClerk 1 = .ok (.iconst 0, 1) := by decide +kernel
theorem dX12_isClerk_2 : decode cX12_isClerk 2 = .ok (.aload_n 0, 1) := by decide +kernel
theorem dX12_isClerk_3 : decode cX12_isClerk 3 = .ok (.getfield 259, 3) := by decide +kernel
theorem dX12_isClerk_6 : decode cX12_isClerk 6 = .ok (.iconst 1, 1) := by decide +kernel
theorem dX12_isClerk_7 : decode cX12_isClerk 7 = .ok (.isub, 1) := by decide +kernel
theorem dX12_isClerk_8 : decode cX12_isClerk 8 = .ok (.invokestatic 108, 3) := by decide +kernel
theorem dX12_isClerk_11 : decode cX12_isClerk 11 = .ok (.ireturn, 1) := by decide +kernel
theorem dX12_leaves_0 : decode cX12_leaves 0 = .ok (.iload_n 2, 1) := by decide +kernel
theorem dX12_leaves_1 : decode cX12_leaves 1 = .ok (.aload_n 0, 1) := by decide +kernel
theorem dX12_leaves_2 : decode cX12_leaves 2 = .ok (.bipush 29, 2) := by decide +kernel
theorem dX12_leaves_4 : decode cX12_leaves 4 = .ok (.iload_n 1, 1) := by decide +kernel
theorem dX12_leaves_5 : decode cX12_leaves 5 = .ok (.iadd, 1) := by decide +kernel
theorem dX12_leaves_6 : decode cX12_leaves 6 = .ok (.invokevirtual 246, 3) := by decide +kernel
theorem dX12_leaves_9 : decode cX12_leaves 9 = .ok (.iload_n 2, 1) := by decide +kernel
theorem dX12_leaves_10 : decode cX12_leaves 10 = .ok (.bipush 12, 2) := by decide +kernel
theorem dX12_leaves_12 : decode cX12_leaves 12 = .ok (.irem, 1) := by decide +kernel
theorem dX12_leaves_13 : decode cX12_leaves 13 = .ok (.isub, 1) := by decide +kernel
theorem dX12_leaves_14 : decode cX12_leaves 14 = .ok (.bipush 12, 2) := by decide +kernel
theorem dX12_leaves_16 : decode cX12_leaves 16 = .ok (.iadd, 1) := by decide +kernel
theorem dX12_leaves_17 : decode cX12_leaves 17 = .ok (.bipush 12, 2) := by decide +kernel
theorem dX12_leaves_19 : decode cX12_leaves 19 = .ok (.irem, 1) := by decide +kernel
theorem dX12_leaves_20 : decode cX12_leaves 20 = .ok (.iadd, 1) := by decide +kernel
theorem dX12_leaves_21 : decode cX12_leaves 21 = .ok (.ireturn, 1) := by decide +kernel
theorem dX12_at_0 : decode cX12_at 0 = .ok (.bipush 12, 2) := by decide +kernel
theorem dX12_at_2 : decode cX12_at 2 = .ok (.bipush 6, 2) := by decide +kernel
theorem dX12_at_4 : decode cX12_at 4 = .ok (.iload_n 1, 1) := by decide +kernel
theorem dX12_at_5 : decode cX12_at 5 = .ok (.imul, 1) := by decide +kernel
theorem dX12_at_6 : decode cX12_at 6 = .ok (.iload_n 2, 1) := by decide +kernel
theorem dX12_at_7 : decode cX12_at 7 = .ok (.iadd, 1) := by decide +kernel
theorem dX12_at_8 : decode cX12_at 8 = .ok (.imul, 1) := by decide +kernel
theorem dX12_at_9 : decode cX12_at 9 = .ok (.iload_n 3, 1) := by decide +kernel
theorem dX12_at_10 : decode cX12_at 10 = .ok (.iadd, 1) := by decide +kernel
theorem dX12_at_11 : decode cX12_at 11 = .ok (.ireturn, 1) := by decide +kernel
theorem dX12_shortens_0 : decode cX12_shortens 0 = .ok (.iconst 0, 1) := by decide +kernel
theorem dX12_shortens_1 : decode cX12_shortens 1 = .ok (.istore_n 2, 1) := by decide +kernel
theorem dX12_shortens_2 : decode cX12_shortens 2 = .ok (.aload_n 0, 1) := by decide +kernel
theorem dX12_shortens_3 : decode cX12_shortens 3 = .ok (.iconst 5, 1) := by decide +kernel
theorem dX12_shortens_4 : decode cX12_shortens 4 = .ok (.iload_n 1, 1) := by decide +kernel
theorem dX12_shortens_5 : decode cX12_shortens 5 = .ok (.iadd, 1) := by decide +kernel
theorem dX12_shortens_6 : decode cX12_shortens 6 = .ok (.invokevirtual 246, 3) := by decide +kernel
theorem dX12_shortens_9 : decode cX12_shortens 9 = .ok (.istore_n 3, 1) := by decide +kernel
theorem dX12_shortens_10 : decode cX12_shortens 10 = .ok (.aload_n 0, 1) := by decide +kernel
theorem dX12_shortens_11 : decode cX12_shortens 11 = .ok (.bipush 17, 2) := by decide +kernel
theorem dX12_shortens_13 : decode cX12_shortens 13 = .ok (.iload_n 1, 1) := by decide +kernel
theorem dX12_shortens_14 : decode cX12_shortens 14 = .ok (.iadd, 1) := by decide +kernel
theorem dX12_shortens_15 : decode cX12_shortens 15 = .ok (.invokevirtual 246, 3) := by decide +kernel
theorem dX12_shortens_18 : decode cX12_shortens 18 = .ok (.istore 4, 2) := by decide +kernel
theorem dX12_shortens_20 : decode cX12_shortens 20 = .ok (.iconst 0, 1) := by decide +kernel
theorem dX12_shortens_21 : decode cX12_shortens 21 = .ok (.istore 5, 2) := by decide +kernel
theorem dX12_shortens_23 : decode cX12_shortens 23 = .ok (.iload 5, 2) := by decide +kernel
theorem dX12_shortens_25 : decode cX12_shortens 25 = .ok (.bipush 12, 2) := by decide +kernel
theorem dX12_shortens_27 : decode cX12_shortens 27 = .ok (.if_icmp .ge 108, 3) := by decide +kernel
theorem dX12_shortens_30 : decode cX12_shortens 30 = .ok (.aload_n 0, 1) := by decide +kernel
theorem dX12_shortens_31 : decode cX12_shortens 31 = .ok (.iload_n 1, 1) := by decide +kernel
theorem dX12_shortens_32 : decode cX12_shortens 32 = .ok (.iload 5, 2) := by decide +kernel
theorem dX12_shortens_34 : decode cX12_shortens 34 = .ok (.invokevirtual 265, 3) := by decide +kernel
theorem dX12_shortens_37 : decode cX12_shortens 37 = .ok (.aload_n 0, 1) := by decide +kernel
theorem dX12_shortens_38 : decode cX12_shortens 38 = .ok (.bipush 41, 2) := by decide +kernel
theorem dX12_shortens_40 : decode cX12_shortens 40 = .ok (.iload_n 1, 1) := by decide +kernel
theorem dX12_shortens_41 : decode cX12_shortens 41 = .ok (.iadd, 1) := by decide +kernel
theorem dX12_shortens_42 : decode cX12_shortens 42 = .ok (.invokevirtual 246, 3) := by decide +kernel
theorem dX12_shortens_45 : decode cX12_shortens 45 = .ok (.iadd, 1) := by decide +kernel
theorem dX12_shortens_46 : decode cX12_shortens 46 = .ok (.istore 6, 2) := by decide +kernel
