theorem dX3_copy_17 : decode cX3_copy 17 = .ok (.aload_n 1, 1) := by decide +kernel
theorem dX3_copy_18 : decode cX3_copy 18 = .ok (.getfield 18, 3) := by decide +kernel
theorem dX3_copy_21 : decode cX3_copy 21 = .ok (.putfield 18, 3) := by decide +kernel
theorem dX3_copy_24 : decode cX3_copy 24 = .ok (.aload_n 0, 1) := by decide +kernel
theorem dX3_copy_25 : decode cX3_copy 25 = .ok (.aload_n 1, 1) := by decide +kernel
theorem dX3_copy_26 : decode cX3_copy 26 = .ok (.getfield 21, 3) := by decide +kernel
theorem dX3_copy_29 : decode cX3_copy 29 = .ok (.putfield 21, 3) := by decide +kernel
theorem dX3_copy_32 : decode cX3_copy 32 = .ok (.aload_n 0, 1) := by decide +kernel
theorem dX3_copy_33 : decode cX3_copy 33 = .ok (.aload_n 1, 1) := by decide +kernel
theorem dX3_copy_34 : decode cX3_copy 34 = .ok (.getfield 24, 3) := by decide +kernel
theorem dX3_copy_37 : decode cX3_copy 37 = .ok (.putfield 24, 3) := by decide +kernel
theorem dX3_copy_40 : decode cX3_copy 40 = .ok (.aload_n 1, 1) := by decide +kernel
theorem dX3_copy_41 : decode cX3_copy 41 = .ok (.getfield 27, 3) := by decide +kernel
theorem dX3_copy_44 : decode cX3_copy 44 = .ok (.iconst 0, 1) := by decide +kernel
theorem dX3_copy_45 : decode cX3_copy 45 = .ok (.aload_n 0, 1) := by decide +kernel
theorem dX3_copy_46 : decode cX3_copy 46 = .ok (.getfield 27, 3) := by decide +kernel
theorem dX3_copy_49 : decode cX3_copy 49 = .ok (.iconst 0, 1) := by decide +kernel
theorem dX3_copy_50 : decode cX3_copy 50 = .ok (.bipush 12, 2) := by decide +kernel
theorem dX3_copy_52 : decode cX3_copy 52 = .ok (.invokestatic 67, 3) := by decide +kernel
theorem dX3_copy_55 : decode cX3_copy 55 = .ok (.aload_n 1, 1) := by decide +kernel
theorem dX3_copy_56 : decode cX3_copy 56 = .ok (.getfield 31, 3) := by decide +kernel
theorem dX3_copy_59 : decode cX3_copy 59 = .ok (.iconst 0, 1) := by decide +kernel
theorem dX3_copy_60 : decode cX3_copy 60 = .ok (.aload_n 0, 1) := by decide +kernel
theorem dX3_copy_61 : decode cX3_copy 61 = .ok (.getfield 31, 3) := by decide +kernel
theorem dX3_copy_64 : decode cX3_copy 64 = .ok (.iconst 0, 1) := by decide +kernel
theorem dX3_copy_65 : decode cX3_copy 65 = .ok (.bipush 12, 2) := by decide +kernel
theorem dX3_copy_67 : decode cX3_copy 67 = .ok (.invokestatic 67, 3) := by decide +kernel
theorem dX3_copy_70 : decode cX3_copy 70 = .ok (.aload_n 1, 1) := by decide +kernel
theorem dX3_copy_71 : decode cX3_copy 71 = .ok (.getfield 34, 3) := by decide +kernel
theorem dX3_copy_74 : decode cX3_copy 74 = .ok (.iconst 0, 1) := by decide +kernel
theorem dX3_copy_75 : decode cX3_copy 75 = .ok (.aload_n 0, 1) := by decide +kernel
theorem dX3_copy_76 : decode cX3_copy 76 = .ok (.getfield 34, 3) := by decide +kernel
theorem dX3_copy_79 : decode cX3_copy 79 = .ok (.iconst 0, 1) := by decide +kernel
theorem dX3_copy_80 : decode cX3_copy 80 = .ok (.bipush 12, 2) := by decide +kernel
theorem dX3_copy_82 : decode cX3_copy 82 = .ok (.invokestatic 67, 3) := by decide +kernel
theorem dX3_copy_85 : decode cX3_copy 85 = .ok (.aload_n 1, 1) := by decide +kernel
theorem dX3_copy_86 : decode cX3_copy 86 = .ok (.getfield 37, 3) := by decide +kernel
theorem dX3_copy_89 : decode cX3_copy 89 = .ok (.iconst 0, 1) := by decide +kernel
theorem dX3_copy_90 : decode cX3_copy 90 = .ok (.aload_n 0, 1) := by decide +kernel
theorem dX3_copy_91 : decode cX3_copy 91 = .ok (.getfield 37, 3) := by decide +kernel
theorem dX3_copy_94 : decode cX3_copy 94 = .ok (.iconst 0, 1) := by decide +kernel
theorem dX3_copy_95 : decode cX3_copy 95 = .ok (.bipush 12, 2) := by decide +kernel
theorem dX3_copy_97 : decode cX3_copy 97 = .ok (.invokestatic 67, 3) := by decide +kernel
theorem dX3_copy_100 : decode cX3_copy 100 = .ok (.aload_n 1, 1) := by decide +kernel
theorem dX3_copy_101 : decode cX3_copy 101 = .ok (.getfield 40, 3) := by decide +kernel
theorem dX3_copy_104 : decode cX3_copy 104 = .ok (.iconst 0, 1) := by decide +kernel
theorem dX3_copy_105 : decode cX3_copy 105 = .ok (.aload_n 0, 1) := by decide +kernel
theorem dX3_copy_106 : decode cX3_copy 106 = .ok (.getfield 40, 3) := by decide +kernel
theorem dX3_copy_109 : decode cX3_copy 109 = .ok (.iconst 0, 1) := by decide +kernel
theorem dX3_copy_110 : decode cX3_copy 110 = .ok (.bipush 8, 2) := by decide +kernel
theorem dX3_copy_112 : decode cX3_copy 112 = .ok (.invokestatic 67, 3) := by decide +kernel
theorem dX3_copy_115 : decode cX3_copy 115 = .ok (.aload_n 1, 1) := by decide +kernel
theorem dX3_copy_116 : decode cX3_copy 116 = .ok (.getfield 43, 3) := by decide +kernel
theorem dX3_copy_119 : decode cX3_copy 119 = .ok (.iconst 0, 1) := by decide +kernel
theorem dX3_copy_120 : decode cX3_copy 120 = .ok (.aload_n 0, 1) := by decide +kernel
theorem dX3_copy_121 : decode cX3_copy 121 = .ok (.getfield 43, 3) := by decide +kernel
theorem dX3_copy_124 : decode cX3_copy 124 = .ok (.iconst 0, 1) := by decide +kernel
theorem dX3_copy_125 : decode cX3_copy 125 = .ok (.bipush 8, 2) := by decide +kernel
theorem dX3_copy_127 : decode cX3_copy 127 = .ok (.invokestatic 67, 3) := by decide +kernel
theorem dX3_copy_130 : decode cX3_copy 130 = .ok (.aload_n 1, 1) := by decide +kernel
theorem dX3_copy_131 : decode cX3_copy 131 = .ok (.getfield 46, 3) := by decide +kernel
theorem dX3_copy_134 : decode cX3_copy 134 = .ok (.iconst 0, 1) := by decide +kernel
theorem dX3_copy_135 : decode cX3_copy 135 = .ok (.aload_n 0, 1) := by decide +kernel
theorem dX3_copy_136 : decode cX3_copy 136 = .ok (.getfield 46, 3) := by decide +kernel
theorem dX3_copy_139 : decode cX3_copy 139 = .ok (.iconst 0, 1) := by decide +kernel
theorem dX3_copy_140 : decode cX3_copy 140 = .ok (.bipush 6, 2) := by decide +kernel
theorem dX3_copy_142 : decode cX3_copy 142 = .ok (.invokestatic 67, 3) := by decide +kernel
theorem dX3_copy_145 : decode cX3_copy 145 = .ok (.aload_n 1, 1) := by decide +kernel
theorem dX3_copy_146 : decode cX3_copy 146 = .ok (.getfield 49, 3) := by decide +kernel
theorem dX3_copy_149 : decode cX3_copy 149 = .ok (.iconst 0, 1) := by decide +kernel
theorem dX3_copy_150 : decode cX3_copy 150 = .ok (.aload_n 0, 1) := by decide +kernel
theorem dX3_copy_151 : decode cX3_copy 151 = .ok (.getfield 49, 3) := by decide +kernel
theorem dX3_copy_154 : decode cX3_copy 154 = .ok (.iconst 0, 1) := by decide +kernel
theorem dX3_copy_155 : decode cX3_copy 155 = .ok (.bipush 6, 2) := by decide +kernel
theorem dX3_copy_157 : decode cX3_copy 157 = .ok (.invokestatic 67, 3) := by decide +kernel
theorem dX3_copy_160 : decode cX3_copy 160 = .ok (.aload_n 1, 1) := by decide +kernel
theorem dX3_copy_161 : decode cX3_copy 161 = .ok (.getfield 52, 3) := by decide +kernel
theorem dX3_copy_164 : decode cX3_copy 164 = .ok (.iconst 0, 1) := by decide +kernel
theorem dX3_copy_165 : decode cX3_copy 165 = .ok (.aload_n 0, 1) := by decide +kernel
theorem dX3_copy_166 : decode cX3_copy 166 = .ok (.getfield 52, 3) := by decide +kernel
theorem dX3_copy_169 : decode cX3_copy 169 = .ok (.iconst 0, 1) := by decide +kernel
theorem dX3_copy_170 : decode cX3_copy 170 = .ok (.iconst 4, 1) := by decide +kernel
theorem dX3_copy_171 : decode cX3_copy 171 = .ok (.invokestatic 67, 3) := by decide +kernel
theorem dX3_copy_174 : decode cX3_copy 174 = .ok (.aload_n 1, 1) := by decide +kernel
theorem dX3_copy_175 : decode cX3_copy 175 = .ok (.getfield 55, 3) := by decide +kernel
theorem dX3_copy_178 : decode cX3_copy 178 = .ok (.iconst 0, 1) := by decide +kernel
theorem dX3_copy_179 : decode cX3_copy 179 = .ok (.aload_n 0, 1) := by decide +kernel
theorem dX3_copy_180 : decode cX3_copy 180 = .ok (.getfield 55, 3) := by decide +kernel
theorem dX3_copy_183 : decode cX3_copy 183 = .ok (.iconst 0, 1) := by decide +kernel
theorem dX3_copy_184 : decode cX3_copy 184 = .ok (.iconst 4, 1) := by decide +kernel
theorem dX3_copy_185 : decode cX3_copy 185 = .ok (.invokestatic 67, 3) := by decide +kernel
theorem dX3_copy_188 : decode cX3_copy 188 = .ok (.aload_n 0, 1) := by decide +kernel
theorem dX3_copy_189 : decode cX3_copy 189 = .ok (.invokevirtual 64, 3) := by decide +kernel
theorem dX3_copy_192 : decode cX3_copy 192 = .ok (.return_, 1) := by decide +kernel
theorem dX3_forgetRows_0 : decode cX3_forgetRows 0 = .ok (.iconst 0, 1) := by decide +kernel
theorem dX3_forgetRows_1 : decode cX3_forgetRows 1 = .ok (.istore_n 1, 1) := by decide +kernel
theorem dX3_forgetRows_2 : decode cX3_forgetRows 2 = .ok (.iload_n 1, 1) := by decide +kernel
theorem dX3_forgetRows_3 : decode cX3_forgetRows 3 = .ok (.bipush 6, 2) := by decide +kernel
theorem dX3_forgetRows_5 : decode cX3_forgetRows 5 = .ok (.if_icmp .ge 16, 3) := by decide +kernel
theorem dX3_forgetRows_8 : decode cX3_forgetRows 8 = .ok (.aload_n 0, 1) := by decide +kernel
theorem dX3_forgetRows_9 : decode cX3_forgetRows 9 = .ok (.getfield 61, 3) := by decide +kernel
theorem dX3_forgetRows_12 : decode cX3_forgetRows 12 = .ok (.iload_n 1, 1) := by decide +kernel
theorem dX3_forgetRows_13 : decode cX3_forgetRows 13 = .ok (.iconst 0, 1) := by decide +kernel
theorem dX3_forgetRows_14 : decode cX3_forgetRows 14 = .ok (.iastore, 1) := by decide +kernel
theorem dX3_forgetRows_15 : decode cX3_forgetRows 15 = .ok (.iinc 1 1, 3) := by decide +kernel
theorem dX3_forgetRows_18 : decode cX3_forgetRows 18 = .ok (.goto (-16), 3) := by decide +kernel
theorem dX3_forgetRows_21 : decode cX3_forgetRows 21 = .ok (.return_, 1) := by decide +kernel
theorem dX3_answer_0 : decode cX3_answer 0 = .ok (.iload_n 1, 1) := by decide +kernel
theorem dX3_answer_1 : decode cX3_answer 1 = .ok (.ifCond .ge 5, 3) := by decide +kernel
theorem dX3_answer_4 : decode cX3_answer 4 = .ok (.iconst (-1), 1) := by decide +kernel
theorem dX3_answer_5 : decode cX3_answer 5 = .ok (.ireturn, 1) := by decide +kernel
theorem dX3_answer_6 : decode cX3_answer 6 = .ok (.iload_n 1, 1) := by decide +kernel
theorem dX3_answer_7 : decode cX3_answer 7 = .ok (.bipush 100, 2) := by decide +kernel
theorem dX3_answer_9 : decode cX3_answer 9 = .ok (.if_icmp .lt 16, 3) := by decide +kernel
theorem dX3_answer_12 : decode cX3_answer 12 = .ok (.aload_n 0, 1) := by decide +kernel
theorem dX3_answer_13 : decode cX3_answer 13 = .ok (.iload_n 1, 1) := by decide +kernel
theorem dX3_answer_14 : decode cX3_answer 14 = .ok (.bipush 100, 2) := by decide +kernel
theorem dX3_answer_16 : decode cX3_answer 16 = .ok (.idiv, 1) := by decide +kernel
theorem dX3_answer_17 : decode cX3_answer 17 = .ok (.iload_n 1, 1) := by decide +kernel
theorem dX3_answer_18 : decode cX3_answer 18 = .ok (.bipush 100, 2) := by decide +kernel
theorem dX3_answer_20 : decode cX3_answer 20 = .ok (.irem, 1) := by decide +kernel
theorem dX3_answer_21 : decode cX3_answer 21 = .ok (.invokevirtual 73, 3) := by decide +kernel
theorem dX3_answer_24 : decode cX3_answer 24 = .ok (.ireturn, 1) := by decide +kernel
theorem dX3_answer_25 : decode cX3_answer 25 = .ok (.iload_n 1, 1) := by decide +kernel
theorem dX3_answer_26 : decode cX3_answer 26 = .ok (.bipush 10, 2) := by decide +kernel
theorem dX3_answer_28 : decode cX3_answer 28 = .ok (.irem, 1) := by decide +kernel
theorem dX3_answer_29 : decode cX3_answer 29 = .ok (.istore_n 2, 1) := by decide +kernel
theorem dX3_answer_30 : decode cX3_answer 30 = .ok (.iload_n 1, 1) := by decide +kernel
theorem dX3_answer_31 : decode cX3_answer 31 = .ok (.bipush 10, 2) := by decide +kernel
theorem dX3_answer_33 : decode cX3_answer 33 = .ok (.idiv, 1) := by decide +kernel
theorem dX3_answer_34 : decode cX3_answer 34 = .ok (.tableswitch 162 0 6 #[42, 48, 67, 86, 105, 124, 143], 42) := by decide +kernel
theorem dX3_answer_76 : decode cX3_answer 76 = .ok (.aload_n 0, 1) := by decide +kernel
theorem dX3_answer_77 : decode cX3_answer 77 = .ok (.iload_n 2, 1) := by decide +kernel
theorem dX3_answer_78 : decode cX3_answer 78 = .ok (.invokevirtual 77, 3) := by decide +kernel
theorem dX3_answer_81 : decode cX3_answer 81 = .ok (.ireturn, 1) := by decide +kernel
theorem dX3_answer_82 : decode cX3_answer 82 = .ok (.iload_n 2, 1) := by decide +kernel
theorem dX3_answer_83 : decode cX3_answer 83 = .ok (.aload_n 0, 1) := by decide +kernel
theorem dX3_answer_84 : decode cX3_answer 84 = .ok (.getfield 24, 3) := by decide +kernel
theorem dX3_answer_87 : decode cX3_answer 87 = .ok (.if_icmp .ge 12, 3) := by decide +kernel
theorem dX3_answer_90 : decode cX3_answer 90 = .ok (.aload_n 0, 1) := by decide +kernel
theorem dX3_answer_91 : decode cX3_answer 91 = .ok (.getfield 52, 3) := by decide +kernel
theorem dX3_answer_94 : decode cX3_answer 94 = .ok (.iload_n 2, 1) := by decide +kernel
theorem dX3_answer_95 : decode cX3_answer 95 = .ok (.iaload, 1) := by decide +kernel
theorem dX3_answer_96 : decode cX3_answer 96 = .ok (.goto 4, 3) := by decide +kernel
theorem dX3_answer_99 : decode cX3_answer 99 = .ok (.iconst (-1), 1) := by decide +kernel
theorem dX3_answer_100 : decode cX3_answer 100 = .ok (.ireturn, 1) := by decide +kernel
theorem dX3_answer_101 : decode cX3_answer 101 = .ok (.iload_n 2, 1) := by decide +kernel
theorem dX3_answer_102 : decode cX3_answer 102 = .ok (.aload_n 0, 1) := by decide +kernel
theorem dX3_answer_103 : decode cX3_answer 103 = .ok (.getfield 24, 3) := by decide +kernel
theorem dX3_answer_106 : decode cX3_answer 106 = .ok (.if_icmp .ge 12, 3) := by decide +kernel
theorem dX3_answer_109 : decode cX3_answer 109 = .ok (.aload_n 0, 1) := by decide +kernel
theorem dX3_answer_110 : decode cX3_answer 110 = .ok (.getfield 55, 3) := by decide +kernel
theorem dX3_answer_113 : decode cX3_answer 113 = .ok (.iload_n 2, 1) := by decide +kernel
theorem dX3_answer_114 : decode cX3_answer 114 = .ok (.iaload, 1) := by decide +kernel
theorem dX3_answer_115 : decode cX3_answer 115 = .ok (.goto 4, 3) := by decide +kernel
theorem dX3_answer_118 : decode cX3_answer 118 = .ok (.iconst (-1), 1) := by decide +kernel
theorem dX3_answer_119 : decode cX3_answer 119 = .ok (.ireturn, 1) := by decide +kernel
theorem dX3_answer_120 : decode cX3_answer 120 = .ok (.iload_n 2, 1) := by decide +kernel
theorem dX3_answer_121 : decode cX3_answer 121 = .ok (.aload_n 0, 1) := by decide +kernel
theorem dX3_answer_122 : decode cX3_answer 122 = .ok (.getfield 18, 3) := by decide +kernel
theorem dX3_answer_125 : decode cX3_answer 125 = .ok (.if_icmp .ge 12, 3) := by decide +kernel
theorem dX3_answer_128 : decode cX3_answer 128 = .ok (.aload_n 0, 1) := by decide +kernel
theorem dX3_answer_129 : decode cX3_answer 129 = .ok (.getfield 40, 3) := by decide +kernel
theorem dX3_answer_132 : decode cX3_answer 132 = .ok (.iload_n 2, 1) := by decide +kernel
theorem dX3_answer_133 : decode cX3_answer 133 = .ok (.iaload, 1) := by decide +kernel
theorem dX3_answer_134 : decode cX3_answer 134 = .ok (.goto 4, 3) := by decide +kernel
theorem dX3_answer_137 : decode cX3_answer 137 = .ok (.iconst (-1), 1) := by decide +kernel
theorem dX3_answer_138 : decode cX3_answer 138 = .ok (.ireturn, 1) := by decide +kernel
theorem dX3_answer_139 : decode cX3_answer 139 = .ok (.iload_n 2, 1) := by decide +kernel
theorem dX3_answer_140 : decode cX3_answer 140 = .ok (.aload_n 0, 1) := by decide +kernel
theorem dX3_answer_141 : decode cX3_answer 141 = .ok (.getfield 18, 3) := by decide +kernel
theorem dX3_answer_144 : decode cX3_answer 144 = .ok (.if_icmp .ge 12, 3) := by decide +kernel
theorem dX3_answer_147 : decode cX3_answer 147 = .ok (.aload_n 0, 1) := by decide +kernel
theorem dX3_answer_148 : decode cX3_answer 148 = .ok (.getfield 43, 3) := by decide +kernel
theorem dX3_answer_151 : decode cX3_answer 151 = .ok (.iload_n 2, 1) := by decide +kernel
theorem dX3_answer_152 : decode cX3_answer 152 = .ok (.iaload, 1) := by decide +kernel
theorem dX3_answer_153 : decode cX3_answer 153 = .ok (.goto 4, 3) := by decide +kernel
theorem dX3_answer_156 : decode cX3_answer 156 = .ok (.iconst (-1), 1) := by decide +kernel
theorem dX3_answer_157 : decode cX3_answer 157 = .ok (.ireturn, 1) := by decide +kernel
theorem dX3_answer_158 : decode cX3_answer 158 = .ok (.iload_n 2, 1) := by decide +kernel
theorem dX3_answer_159 : decode cX3_answer 159 = .ok (.aload_n 0, 1) := by decide +kernel
theorem dX3_answer_160 : decode cX3_answer 160 = .ok (.getfield 21, 3) := by decide +kernel
theorem dX3_answer_163 : decode cX3_answer 163 = .ok (.if_icmp .ge 12, 3) := by decide +kernel
theorem dX3_answer_166 : decode cX3_answer 166 = .ok (.aload_n 0, 1) := by decide +kernel
theorem dX3_answer_167 : decode cX3_answer 167 = .ok (.getfield 46, 3) := by decide +kernel
theorem dX3_answer_170 : decode cX3_answer 170 = .ok (.iload_n 2, 1) := by decide +kernel
theorem dX3_answer_171 : decode cX3_answer 171 = .ok (.iaload, 1) := by decide +kernel
theorem dX3_answer_172 : decode cX3_answer 172 = .ok (.goto 4, 3) := by decide +kernel
theorem dX3_answer_175 : decode cX3_answer 175 = .ok (.iconst (-1), 1) := by decide +kernel
theorem dX3_answer_176 : decode cX3_answer 176 = .ok (.ireturn, 1) := by decide +kernel
theorem dX3_answer_177 : decode cX3_answer 177 = .ok (.iload_n 2, 1) := by decide +kernel
theorem dX3_answer_178 : decode cX3_answer 178 = .ok (.aload_n 0, 1) := by decide +kernel
theorem dX3_answer_179 : decode cX3_answer 179 = .ok (.getfield 21, 3) := by decide +kernel
theorem dX3_answer_182 : decode cX3_answer 182 = .ok (.if_icmp .ge 12, 3) := by decide +kernel
theorem dX3_answer_185 : decode cX3_answer 185 = .ok (.aload_n 0, 1) := by decide +kernel
theorem dX3_answer_186 : decode cX3_answer 186 = .ok (.getfield 49, 3) := by decide +kernel
theorem dX3_answer_189 : decode cX3_answer 189 = .ok (.iload_n 2, 1) := by decide +kernel
theorem dX3_answer_190 : decode cX3_answer 190 = .ok (.iaload, 1) := by decide +kernel
theorem dX3_answer_191 : decode cX3_answer 191 = .ok (.goto 4, 3) := by decide +kernel
theorem dX3_answer_194 : decode cX3_answer 194 = .ok (.iconst (-1), 1) := by decide +kernel
theorem dX3_answer_195 : decode cX3_answer 195 = .ok (.ireturn, 1) := by decide +kernel
theorem dX3_answer_196 : decode cX3_answer 196 = .ok (.iconst (-1), 1) := by decide +kernel
theorem dX3_answer_197 : decode cX3_answer 197 = .ok (.ireturn, 1) := by decide +kernel
theorem dX3_answerHowMany_0 : decode cX3_answerHowMany 0 = .ok (.iload_n 1, 1) := by decide +kernel
theorem dX3_answerHowMany_1 : decode cX3_answerHowMany 1 = .ok (.tableswitch 60 0 4 #[35, 40, 45, 50, 55], 35) := by decide +kernel
theorem dX3_answerHowMany_36 : decode cX3_answerHowMany 36 = .ok (.aload_n 0, 1) := by decide +kernel
theorem dX3_answerHowMany_37 : decode cX3_answerHowMany 37 = .ok (.getfield 11, 3) := by decide +kernel
theorem dX3_answerHowMany_40 : decode cX3_answerHowMany 40 = .ok (.ireturn, 1) := by decide +kernel
theorem dX3_answerHowMany_41 : decode cX3_answerHowMany 41 = .ok (.aload_n 0, 1) := by decide +kernel
theorem dX3_answerHowMany_42 : decode cX3_answerHowMany 42 = .ok (.getfield 15, 3) := by decide +kernel
theorem dX3_answerHowMany_45 : decode cX3_answerHowMany 45 = .ok (.ireturn, 1) := by decide +kernel
theorem dX3_answerHowMany_46 : decode cX3_answerHowMany 46 = .ok (.aload_n 0, 1) := by decide +kernel
theorem dX3_answerHowMany_47 : decode cX3_answerHowMany 47 = .ok (.getfield 18, 3) := by decide +kernel
theorem dX3_answerHowMany_50 : decode cX3_answerHowMany 50 = .ok (.ireturn, 1) := by decide +kernel
theorem dX3_answerHowMany_51 : decode cX3_answerHowMany 51 = .ok (.aload_n 0, 1) := by decide +kernel
theorem dX3_answerHowMany_52 : decode cX3_answerHowMany 52 = .ok (.getfield 21, 3) := by decide +kernel
theorem dX3_answerHowMany_55 : decode cX3_answerHowMany 55 = .ok (.ireturn, 1) := by decide +kernel
theorem dX3_answerHowMany_56 : decode cX3_answerHowMany 56 = .ok (.aload_n 0, 1) := by decide +kernel
theorem dX3_answerHowMany_57 : decode cX3_answerHowMany 57 = .ok (.getfield 24, 3) := by decide +kernel
theorem dX3_answerHowMany_60 : decode cX3_answerHowMany 60 = .ok (.ireturn, 1) := by decide +kernel
theorem dX3_answerHowMany_61 : decode cX3_answerHowMany 61 = .ok (.iconst (-1), 1) := by decide +kernel
theorem dX3_answerHowMany_62 : decode cX3_answerHowMany 62 = .ok (.ireturn, 1) := by decide +kernel
theorem dX3_answerTrain_0 : decode cX3_answerTrain 0 = .ok (.iload_n 2, 1) := by decide +kernel
theorem dX3_answerTrain_1 : decode cX3_answerTrain 1 = .ok (.aload_n 0, 1) := by decide +kernel
theorem dX3_answerTrain_2 : decode cX3_answerTrain 2 = .ok (.getfield 15, 3) := by decide +kernel
theorem dX3_answerTrain_5 : decode cX3_answerTrain 5 = .ok (.if_icmp .lt 5, 3) := by decide +kernel
theorem dX3_answerTrain_8 : decode cX3_answerTrain 8 = .ok (.iconst (-1), 1) := by decide +kernel
theorem dX3_answerTrain_9 : decode cX3_answerTrain 9 = .ok (.ireturn, 1) := by decide +kernel
theorem dX3_answerTrain_10 : decode cX3_answerTrain 10 = .ok (.iload_n 1, 1) := by decide +kernel
theorem dX3_answerTrain_11 : decode cX3_answerTrain 11 = .ok (.tableswitch 57 1 4 #[29, 36, 43, 50], 29) := by decide +kernel
theorem dX3_answerTrain_40 : decode cX3_answerTrain 40 = .ok (.aload_n 0, 1) := by decide +kernel
theorem dX3_answerTrain_41 : decode cX3_answerTrain 41 = .ok (.getfield 27, 3) := by decide +kernel
theorem dX3_answerTrain_44 : decode cX3_answerTrain 44 = .ok (.iload_n 2, 1) := by decide +kernel
theorem dX3_answerTrain_45 : decode cX3_answerTrain 45 = .ok (.iaload, 1) := by decide +kernel
theorem dX3_answerTrain_46 : decode cX3_answerTrain 46 = .ok (.ireturn, 1) := by decide +kernel
theorem dX3_answerTrain_47 : decode cX3_answerTrain 47 = .ok (.aload_n 0, 1) := by decide +kernel
theorem dX3_answerTrain_48 : decode cX3_answerTrain 48 = .ok (.getfield 31, 3) := by decide +kernel
theorem dX3_answerTrain_51 : decode cX3_answerTrain 51 = .ok (.iload_n 2, 1) := by decide +kernel
theorem dX3_answerTrain_52 : decode cX3_answerTrain 52 = .ok (.iaload, 1) := by decide +kernel
theorem dX3_answerTrain_53 : decode cX3_answerTrain 53 = .ok (.ireturn, 1) := by decide +kernel
theorem dX3_answerTrain_54 : decode cX3_answerTrain 54 = .ok (.aload_n 0, 1) := by decide +kernel
theorem dX3_answerTrain_55 : decode cX3_answerTrain 55 = .ok (.getfield 34, 3) := by decide +kernel
theorem dX3_answerTrain_58 : decode cX3_answerTrain 58 = .ok (.iload_n 2, 1) := by decide +kernel
theorem dX3_answerTrain_59 : decode cX3_answerTrain 59 = .ok (.iaload, 1) := by decide +kernel
theorem dX3_answerTrain_60 : decode cX3_answerTrain 60 = .ok (.ireturn, 1) := by decide +kernel
theorem dX3_answerTrain_61 : decode cX3_answerTrain 61 = .ok (.aload_n 0, 1) := by decide +kernel
theorem dX3_answerTrain_62 : decode cX3_answerTrain 62 = .ok (.getfield 37, 3) := by decide +kernel
theorem dX3_answerTrain_65 : decode cX3_answerTrain 65 = .ok (.iload_n 2, 1) := by decide +kernel
theorem dX3_answerTrain_66 : decode cX3_answerTrain 66 = .ok (.iaload, 1) := by decide +kernel
theorem dX3_answerTrain_67 : decode cX3_answerTrain 67 = .ok (.ireturn, 1) := by decide +kernel
theorem dX3_answerTrain_68 : decode cX3_answerTrain 68 = .ok (.iconst (-1), 1) := by decide +kernel
theorem dX3_answerTrain_69 : decode cX3_answerTrain 69 = .ok (.ireturn, 1) := by decide +kernel
theorem dX3_nextLeave_0 : decode cX3_nextLeave 0 = .ok (.iload_n 2, 1) := by decide +kernel
theorem dX3_nextLeave_1 : decode cX3_nextLeave 1 = .ok (.aload_n 0, 1) := by decide +kernel
theorem dX3_nextLeave_2 : decode cX3_nextLeave 2 = .ok (.getfield 34, 3) := by decide +kernel
theorem dX3_nextLeave_5 : decode cX3_nextLeave 5 = .ok (.iload_n 1, 1) := by decide +kernel
theorem dX3_nextLeave_6 : decode cX3_nextLeave 6 = .ok (.iaload, 1) := by decide +kernel
theorem dX3_nextLeave_7 : decode cX3_nextLeave 7 = .ok (.iload_n 2, 1) := by decide +kernel
theorem dX3_nextLeave_8 : decode cX3_nextLeave 8 = .ok (.isub, 1) := by decide +kernel
theorem dX3_nextLeave_9 : decode cX3_nextLeave 9 = .ok (.bipush 12, 2) := by decide +kernel
theorem dX3_nextLeave_11 : decode cX3_nextLeave 11 = .ok (.invokestatic 81, 3) := by decide +kernel
theorem dX3_nextLeave_14 : decode cX3_nextLeave 14 = .ok (.iadd, 1) := by decide +kernel
theorem dX3_nextLeave_15 : decode cX3_nextLeave 15 = .ok (.ireturn, 1) := by decide +kernel
theorem dX3_nextArrival_0 : decode cX3_nextArrival 0 = .ok (.iload_n 2, 1) := by decide +kernel
theorem dX3_nextArrival_1 : decode cX3_nextArrival 1 = .ok (.aload_n 0, 1) := by decide +kernel
theorem dX3_nextArrival_2 : decode cX3_nextArrival 2 = .ok (.getfield 34, 3) := by decide +kernel
theorem dX3_nextArrival_5 : decode cX3_nextArrival 5 = .ok (.iload_n 1, 1) := by decide +kernel
theorem dX3_nextArrival_6 : decode cX3_nextArrival 6 = .ok (.iaload, 1) := by decide +kernel
theorem dX3_nextArrival_7 : decode cX3_nextArrival 7 = .ok (.iload_n 2, 1) := by decide +kernel
theorem dX3_nextArrival_8 : decode cX3_nextArrival 8 = .ok (.isub, 1) := by decide +kernel
theorem dX3_nextArrival_9 : decode cX3_nextArrival 9 = .ok (.bipush 12, 2) := by decide +kernel
theorem dX3_nextArrival_11 : decode cX3_nextArrival 11 = .ok (.invokestatic 81, 3) := by decide +kernel
theorem dX3_nextArrival_14 : decode cX3_nextArrival 14 = .ok (.iadd, 1) := by decide +kernel
theorem dX3_nextArrival_15 : decode cX3_nextArrival 15 = .ok (.aload_n 0, 1) := by decide +kernel
theorem dX3_nextArrival_16 : decode cX3_nextArrival 16 = .ok (.getfield 37, 3) := by decide +kernel
theorem dX3_nextArrival_19 : decode cX3_nextArrival 19 = .ok (.iload_n 1, 1) := by decide +kernel
theorem dX3_nextArrival_20 : decode cX3_nextArrival 20 = .ok (.iaload, 1) := by decide +kernel
theorem dX3_nextArrival_21 : decode cX3_nextArrival 21 = .ok (.iadd, 1) := by decide +kernel
theorem dX3_nextArrival_22 : decode cX3_nextArrival 22 = .ok (.ireturn, 1) := by decide +kernel
theorem dX3_dutyOf_0 : decode cX3_dutyOf 0 = .ok (.iconst 0, 1) := by decide +kernel
theorem dX3_dutyOf_1 : decode cX3_dutyOf 1 = .ok (.istore_n 2, 1) := by decide +kernel
theorem dX3_dutyOf_2 : decode cX3_dutyOf 2 = .ok (.iconst 0, 1) := by decide +kernel
theorem dX3_dutyOf_3 : decode cX3_dutyOf 3 = .ok (.istore_n 3, 1) := by decide +kernel
theorem dX3_dutyOf_4 : decode cX3_dutyOf 4 = .ok (.iload_n 3, 1) := by decide +kernel
theorem dX3_dutyOf_5 : decode cX3_dutyOf 5 = .ok (.aload_n 0, 1) := by decide +kernel
theorem dX3_dutyOf_6 : decode cX3_dutyOf 6 = .ok (.getfield 18, 3) := by decide +kernel
theorem dX3_dutyOf_9 : decode cX3_dutyOf 9 = .ok (.if_icmp .ge 33, 3) := by decide +kernel
theorem dX3_dutyOf_12 : decode cX3_dutyOf 12 = .ok (.aload_n 0, 1) := by decide +kernel
theorem dX3_dutyOf_13 : decode cX3_dutyOf 13 = .ok (.getfield 43, 3) := by decide +kernel
theorem dX3_dutyOf_16 : decode cX3_dutyOf 16 = .ok (.iload_n 3, 1) := by decide +kernel
theorem dX3_dutyOf_17 : decode cX3_dutyOf 17 = .ok (.iaload, 1) := by decide +kernel
theorem dX3_dutyOf_18 : decode cX3_dutyOf 18 = .ok (.aload_n 0, 1) := by decide +kernel
theorem dX3_dutyOf_19 : decode cX3_dutyOf 19 = .ok (.getfield 52, 3) := by decide +kernel
theorem dX3_dutyOf_22 : decode cX3_dutyOf 22 = .ok (.iload_n 1, 1) := by decide +kernel
theorem dX3_dutyOf_23 : decode cX3_dutyOf 23 = .ok (.iaload, 1) := by decide +kernel
theorem dX3_dutyOf_24 : decode cX3_dutyOf 24 = .ok (.invokestatic 86, 3) := by decide +kernel
theorem dX3_dutyOf_27 : decode cX3_dutyOf 27 = .ok (.ifCond .eq 9, 3) := by decide +kernel
theorem dX3_dutyOf_30 : decode cX3_dutyOf 30 = .ok (.iload_n 2, 1) := by decide +kernel
theorem dX3_dutyOf_31 : decode cX3_dutyOf 31 = .ok (.iconst 1, 1) := by decide +kernel
theorem dX3_dutyOf_32 : decode cX3_dutyOf 32 = .ok (.iload_n 3, 1) := by decide +kernel
theorem dX3_dutyOf_33 : decode cX3_dutyOf 33 = .ok (.ishl, 1) := by decide +kernel
theorem dX3_dutyOf_34 : decode cX3_dutyOf 34 = .ok (.ior, 1) := by decide +kernel
theorem dX3_dutyOf_35 : decode cX3_dutyOf 35 = .ok (.istore_n 2, 1) := by decide +kernel
theorem dX3_dutyOf_36 : decode cX3_dutyOf 36 = .ok (.iinc 3 1, 3) := by decide +kernel
theorem dX3_dutyOf_39 : decode cX3_dutyOf 39 = .ok (.goto (-35), 3) := by decide +kernel
theorem dX3_dutyOf_42 : decode cX3_dutyOf 42 = .ok (.iload_n 2, 1) := by decide +kernel
theorem dX3_dutyOf_43 : decode cX3_dutyOf 43 = .ok (.ireturn, 1) := by decide +kernel
theorem dX3_reach_0 : decode cX3_reach 0 = .ok (.iconst 1, 1) := by decide +kernel
theorem dX3_reach_1 : decode cX3_reach 1 = .ok (.iload_n 1, 1) := by decide +kernel
theorem dX3_reach_2 : decode cX3_reach 2 = .ok (.ishl, 1) := by decide +kernel
theorem dX3_reach_3 : decode cX3_reach 3 = .ok (.istore_n 3, 1) := by decide +kernel
theorem dX3_reach_4 : decode cX3_reach 4 = .ok (.iconst 1, 1) := by decide +kernel
theorem dX3_reach_5 : decode cX3_reach 5 = .ok (.istore 4, 2) := by decide +kernel
theorem dX3_reach_7 : decode cX3_reach 7 = .ok (.iload 4, 2) := by decide +kernel
theorem dX3_reach_9 : decode cX3_reach 9 = .ok (.aload_n 0, 1) := by decide +kernel
theorem dX3_reach_10 : decode cX3_reach 10 = .ok (.getfield 11, 3) := by decide +kernel
theorem dX3_reach_13 : decode cX3_reach 13 = .ok (.if_icmp .ge 87, 3) := by decide +kernel
theorem dX3_reach_16 : decode cX3_reach 16 = .ok (.iconst 0, 1) := by decide +kernel
theorem dX3_reach_17 : decode cX3_reach 17 = .ok (.istore 5, 2) := by decide +kernel
theorem dX3_reach_19 : decode cX3_reach 19 = .ok (.iload 5, 2) := by decide +kernel
theorem dX3_reach_21 : decode cX3_reach 21 = .ok (.aload_n 0, 1) := by decide +kernel
theorem dX3_reach_22 : decode cX3_reach 22 = .ok (.getfield 15, 3) := by decide +kernel
theorem dX3_reach_25 : decode cX3_reach 25 = .ok (.if_icmp .ge 69, 3) := by decide +kernel
theorem dX3_reach_28 : decode cX3_reach 28 = .ok (.aload_n 0, 1) := by decide +kernel
theorem dX3_reach_29 : decode cX3_reach 29 = .ok (.getfield 27, 3) := by decide +kernel
theorem dX3_reach_32 : decode cX3_reach 32 = .ok (.iload 5, 2) := by decide +kernel
theorem dX3_reach_34 : decode cX3_reach 34 = .ok (.iaload, 1) := by decide +kernel
theorem dX3_reach_35 : decode cX3_reach 35 = .ok (.iload_n 2, 1) := by decide +kernel
theorem dX3_reach_36 : decode cX3_reach 36 = .ok (.if_icmp .eq 18, 3) := by decide +kernel
theorem dX3_reach_39 : decode cX3_reach 39 = .ok (.aload_n 0, 1) := by decide +kernel
theorem dX3_reach_40 : decode cX3_reach 40 = .ok (.getfield 31, 3) := by decide +kernel
theorem dX3_reach_43 : decode cX3_reach 43 = .ok (.iload 5, 2) := by decide +kernel
theorem dX3_reach_45 : decode cX3_reach 45 = .ok (.iaload, 1) := by decide +kernel
theorem dX3_reach_46 : decode cX3_reach 46 = .ok (.iload_n 2, 1) := by decide +kernel
theorem dX3_reach_47 : decode cX3_reach 47 = .ok (.if_icmp .eq 7, 3) := by decide +kernel
theorem dX3_reach_50 : decode cX3_reach 50 = .ok (.iconst 1, 1) := by decide +kernel
theorem dX3_reach_51 : decode cX3_reach 51 = .ok (.goto 4, 3) := by decide +kernel
theorem dX3_reach_54 : decode cX3_reach 54 = .ok (.iconst 0, 1) := by decide +kernel
theorem dX3_reach_55 : decode cX3_reach 55 = .ok (.istore 6, 2) := by decide +kernel
theorem dX3_reach_57 : decode cX3_reach 57 = .ok (.iload 6, 2) := by decide +kernel
theorem dX3_reach_59 : decode cX3_reach 59 = .ok (.ifCond .eq 29, 3) := by decide +kernel
theorem dX3_reach_62 : decode cX3_reach 62 = .ok (.iload_n 3, 1) := by decide +kernel
theorem dX3_reach_63 : decode cX3_reach 63 = .ok (.aload_n 0, 1) := by decide +kernel
theorem dX3_reach_64 : decode cX3_reach 64 = .ok (.getfield 27, 3) := by decide +kernel
theorem dX3_reach_67 : decode cX3_reach 67 = .ok (.iload 5, 2) := by decide +kernel
theorem dX3_reach_69 : decode cX3_reach 69 = .ok (.iaload, 1) := by decide +kernel
theorem dX3_reach_70 : decode cX3_reach 70 = .ok (.invokestatic 86, 3) := by decide +kernel
theorem dX3_reach_73 : decode cX3_reach 73 = .ok (.ifCond .eq 15, 3) := by decide +kernel
theorem dX3_reach_76 : decode cX3_reach 76 = .ok (.iload_n 3, 1) := by decide +kernel
theorem dX3_reach_77 : decode cX3_reach 77 = .ok (.iconst 1, 1) := by decide +kernel
theorem dX3_reach_78 : decode cX3_reach 78 = .ok (.aload_n 0, 1) := by decide +kernel
theorem dX3_reach_79 : decode cX3_reach 79 = .ok (.getfield 31, 3) := by decide +kernel
theorem dX3_reach_82 : decode cX3_reach 82 = .ok (.iload 5, 2) := by decide +kernel
theorem dX3_reach_84 : decode cX3_reach 84 = .ok (.iaload, 1) := by decide +kernel
theorem dX3_reach_85 : decode cX3_reach 85 = .ok (.ishl, 1) := by decide +kernel
theorem dX3_reach_86 : decode cX3_reach 86 = .ok (.ior, 1) := by decide +kernel
theorem dX3_reach_87 : decode cX3_reach 87 = .ok (.istore_n 3, 1) := by decide +kernel
theorem dX3_reach_88 : decode cX3_reach 88 = .ok (.iinc 5 1, 3) := by decide +kernel
theorem dX3_reach_91 : decode cX3_reach 91 = .ok (.goto (-72), 3) := by decide +kernel
theorem dX3_reach_94 : decode cX3_reach 94 = .ok (.iinc 4 1, 3) := by decide +kernel
theorem dX3_reach_97 : decode cX3_reach 97 = .ok (.goto (-90), 3) := by decide +kernel
theorem dX3_reach_100 : decode cX3_reach 100 = .ok (.iload_n 3, 1) := by decide +kernel
theorem dX3_reach_101 : decode cX3_reach 101 = .ok (.ireturn, 1) := by decide +kernel
theorem dX3_hub_0 : decode cX3_hub 0 = .ok (.iconst (-1), 1) := by decide +kernel
theorem dX3_hub_1 : decode cX3_hub 1 = .ok (.istore_n 2, 1) := by decide +kernel
theorem dX3_hub_2 : decode cX3_hub 2 = .ok (.ldc 90, 2) := by decide +kernel
theorem dX3_hub_4 : decode cX3_hub 4 = .ok (.istore_n 3, 1) := by decide +kernel
theorem dX3_hub_5 : decode cX3_hub 5 = .ok (.iconst 0, 1) := by decide +kernel
theorem dX3_hub_6 : decode cX3_hub 6 = .ok (.istore 4, 2) := by decide +kernel
theorem dX3_hub_8 : decode cX3_hub 8 = .ok (.iload 4, 2) := by decide +kernel
theorem dX3_hub_10 : decode cX3_hub 10 = .ok (.aload_n 0, 1) := by decide +kernel
theorem dX3_hub_11 : decode cX3_hub 11 = .ok (.getfield 11, 3) := by decide +kernel
theorem dX3_hub_14 : decode cX3_hub 14 = .ok (.if_icmp .ge 29, 3) := by decide +kernel
theorem dX3_hub_17 : decode cX3_hub 17 = .ok (.aload_n 0, 1) := by decide +kernel
theorem dX3_hub_18 : decode cX3_hub 18 = .ok (.iload 4, 2) := by decide +kernel
theorem dX3_hub_20 : decode cX3_hub 20 = .ok (.invokevirtual 91, 3) := by decide +kernel
theorem dX3_hub_23 : decode cX3_hub 23 = .ok (.istore 5, 2) := by decide +kernel
theorem dX3_hub_25 : decode cX3_hub 25 = .ok (.iload 5, 2) := by decide +kernel
theorem dX3_hub_27 : decode cX3_hub 27 = .ok (.iload_n 3, 1) := by decide +kernel
theorem dX3_hub_28 : decode cX3_hub 28 = .ok (.if_icmp .ge 9, 3) := by decide +kernel
theorem dX3_hub_31 : decode cX3_hub 31 = .ok (.iload 5, 2) := by decide +kernel
theorem dX3_hub_33 : decode cX3_hub 33 = .ok (.istore_n 3, 1) := by decide +kernel
theorem dX3_hub_34 : decode cX3_hub 34 = .ok (.iload 4, 2) := by decide +kernel
theorem dX3_hub_36 : decode cX3_hub 36 = .ok (.istore_n 2, 1) := by decide +kernel
theorem dX3_hub_37 : decode cX3_hub 37 = .ok (.iinc 4 1, 3) := by decide +kernel
theorem dX3_hub_40 : decode cX3_hub 40 = .ok (.goto (-32), 3) := by decide +kernel
theorem dX3_hub_43 : decode cX3_hub 43 = .ok (.iload_n 1, 1) := by decide +kernel
theorem dX3_hub_44 : decode cX3_hub 44 = .ok (.ifCond .eq 7, 3) := by decide +kernel
theorem dX3_hub_47 : decode cX3_hub 47 = .ok (.iload_n 3, 1) := by decide +kernel
theorem dX3_hub_48 : decode cX3_hub 48 = .ok (.goto 4, 3) := by decide +kernel
theorem dX3_hub_51 : decode cX3_hub 51 = .ok (.iload_n 2, 1) := by decide +kernel
theorem dX3_hub_52 : decode cX3_hub 52 = .ok (.ireturn, 1) := by decide +kernel
theorem dX3_couplesWithout_0 : decode cX3_couplesWithout 0 = .ok (.iconst 0, 1) := by decide +kernel
theorem dX3_couplesWithout_1 : decode cX3_couplesWithout 1 = .ok (.istore_n 2, 1) := by decide +kernel
theorem dX3_couplesWithout_2 : decode cX3_couplesWithout 2 = .ok (.iconst 0, 1) := by decide +kernel
theorem dX3_couplesWithout_3 : decode cX3_couplesWithout 3 = .ok (.istore_n 3, 1) := by decide +kernel
theorem dX3_couplesWithout_4 : decode cX3_couplesWithout 4 = .ok (.iload_n 3, 1) := by decide +kernel
theorem dX3_couplesWithout_5 : decode cX3_couplesWithout 5 = .ok (.aload_n 0, 1) := by decide +kernel
theorem dX3_couplesWithout_6 : decode cX3_couplesWithout 6 = .ok (.getfield 11, 3) := by decide +kernel
theorem dX3_couplesWithout_9 : decode cX3_couplesWithout 9 = .ok (.if_icmp .ge 28, 3) := by decide +kernel
theorem dX3_couplesWithout_12 : decode cX3_couplesWithout 12 = .ok (.iload_n 3, 1) := by decide +kernel
theorem dX3_couplesWithout_13 : decode cX3_couplesWithout 13 = .ok (.iload_n 1, 1) := by decide +kernel
theorem dX3_couplesWithout_14 : decode cX3_couplesWithout 14 = .ok (.if_icmp .eq 17, 3) := by decide +kernel
theorem dX3_couplesWithout_17 : decode cX3_couplesWithout 17 = .ok (.iload_n 2, 1) := by decide +kernel
theorem dX3_couplesWithout_18 : decode cX3_couplesWithout 18 = .ok (.aload_n 0, 1) := by decide +kernel
theorem dX3_couplesWithout_19 : decode cX3_couplesWithout 19 = .ok (.iload_n 3, 1) := by decide +kernel
theorem dX3_couplesWithout_20 : decode cX3_couplesWithout 20 = .ok (.iload_n 1, 1) := by decide +kernel
theorem dX3_couplesWithout_21 : decode cX3_couplesWithout 21 = .ok (.invokevirtual 94, 3) := by decide +kernel
theorem dX3_couplesWithout_24 : decode cX3_couplesWithout 24 = .ok (.invokestatic 97, 3) := by decide +kernel
theorem dX3_couplesWithout_27 : decode cX3_couplesWithout 27 = .ok (.iconst 1, 1) := by decide +kernel
theorem dX3_couplesWithout_28 : decode cX3_couplesWithout 28 = .ok (.isub, 1) := by decide +kernel
theorem dX3_couplesWithout_29 : decode cX3_couplesWithout 29 = .ok (.iadd, 1) := by decide +kernel
theorem dX3_couplesWithout_30 : decode cX3_couplesWithout 30 = .ok (.istore_n 2, 1) := by decide +kernel
theorem dX3_couplesWithout_31 : decode cX3_couplesWithout 31 = .ok (.iinc 3 1, 3) := by decide +kernel
theorem dX3_couplesWithout_34 : decode cX3_couplesWithout 34 = .ok (.goto (-30), 3) := by decide +kernel
theorem dX3_couplesWithout_37 : decode cX3_couplesWithout 37 = .ok (.iload_n 2, 1) := by decide +kernel
theorem dX3_couplesWithout_38 : decode cX3_couplesWithout 38 = .ok (.ireturn, 1) := by decide +kernel
theorem dX3_boardTrain_0 : decode cX3_boardTrain 0 = .ok (.iconst 0, 1) := by decide +kernel
theorem dX3_boardTrain_1 : decode cX3_boardTrain 1 = .ok (.istore 4, 2) := by decide +kernel
theorem dX3_boardTrain_3 : decode cX3_boardTrain 3 = .ok (.iload 4, 2) := by decide +kernel
theorem dX3_boardTrain_5 : decode cX3_boardTrain 5 = .ok (.aload_n 0, 1) := by decide +kernel
theorem dX3_boardTrain_6 : decode cX3_boardTrain 6 = .ok (.getfield 15, 3) := by decide +kernel
theorem dX3_boardTrain_9 : decode cX3_boardTrain 9 = .ok (.if_icmp .ge 34, 3) := by decide +kernel
theorem dX3_boardTrain_12 : decode cX3_boardTrain 12 = .ok (.aload_n 0, 1) := by decide +kernel
theorem dX3_boardTrain_13 : decode cX3_boardTrain 13 = .ok (.getfield 27, 3) := by decide +kernel
theorem dX3_boardTrain_16 : decode cX3_boardTrain 16 = .ok (.iload 4, 2) := by decide +kernel
theorem dX3_boardTrain_18 : decode cX3_boardTrain 18 = .ok (.iaload, 1) := by decide +kernel
theorem dX3_boardTrain_19 : decode cX3_boardTrain 19 = .ok (.iload_n 1, 1) := by decide +kernel
theorem dX3_boardTrain_20 : decode cX3_boardTrain 20 = .ok (.if_icmp .ne 17, 3) := by decide +kernel
theorem dX3_boardTrain_23 : decode cX3_boardTrain 23 = .ok (.aload_n 0, 1) := by decide +kernel
theorem dX3_boardTrain_24 : decode cX3_boardTrain 24 = .ok (.iload 4, 2) := by decide +kernel
theorem dX3_boardTrain_26 : decode cX3_boardTrain 26 = .ok (.iload_n 2, 1) := by decide +kernel
theorem dX3_boardTrain_27 : decode cX3_boardTrain 27 = .ok (.invokevirtual 102, 3) := by decide +kernel
theorem dX3_boardTrain_30 : decode cX3_boardTrain 30 = .ok (.iload_n 3, 1) := by decide +kernel
theorem dX3_boardTrain_31 : decode cX3_boardTrain 31 = .ok (.if_icmp .ne 6, 3) := by decide +kernel
theorem dX3_boardTrain_34 : decode cX3_boardTrain 34 = .ok (.iload 4, 2) := by decide +kernel
theorem dX3_boardTrain_36 : decode cX3_boardTrain 36 = .ok (.ireturn, 1) := by decide +kernel
theorem dX3_boardTrain_37 : decode cX3_boardTrain 37 = .ok (.iinc 4 1, 3) := by decide +kernel
theorem dX3_boardTrain_40 : decode cX3_boardTrain 40 = .ok (.goto (-37), 3) := by decide +kernel
theorem dX3_boardTrain_43 : decode cX3_boardTrain 43 = .ok (.iconst (-1), 1) := by decide +kernel
theorem dX3_boardTrain_44 : decode cX3_boardTrain 44 = .ok (.ireturn, 1) := by decide +kernel
theorem dX3_trainsBefore_0 : decode cX3_trainsBefore 0 = .ok (.aload_n 0, 1) := by decide +kernel
theorem dX3_trainsBefore_1 : decode cX3_trainsBefore 1 = .ok (.iload_n 1, 1) := by decide +kernel
theorem dX3_trainsBefore_2 : decode cX3_trainsBefore 2 = .ok (.iload_n 2, 1) := by decide +kernel
theorem dX3_trainsBefore_3 : decode cX3_trainsBefore 3 = .ok (.invokevirtual 105, 3) := by decide +kernel
theorem dX3_trainsBefore_6 : decode cX3_trainsBefore 6 = .ok (.istore_n 3, 1) := by decide +kernel
theorem dX3_trainsBefore_7 : decode cX3_trainsBefore 7 = .ok (.iconst 0, 1) := by decide +kernel
theorem dX3_trainsBefore_8 : decode cX3_trainsBefore 8 = .ok (.istore 4, 2) := by decide +kernel
theorem dX3_trainsBefore_10 : decode cX3_trainsBefore 10 = .ok (.iconst 0, 1) := by decide +kernel
theorem dX3_trainsBefore_11 : decode cX3_trainsBefore 11 = .ok (.istore 5, 2) := by decide +kernel
theorem dX3_trainsBefore_13 : decode cX3_trainsBefore 13 = .ok (.iload 5, 2) := by decide +kernel
theorem dX3_trainsBefore_15 : decode cX3_trainsBefore 15 = .ok (.aload_n 0, 1) := by decide +kernel
theorem dX3_trainsBefore_16 : decode cX3_trainsBefore 16 = .ok (.getfield 15, 3) := by decide +kernel
theorem dX3_trainsBefore_19 : decode cX3_trainsBefore 19 = .ok (.if_icmp .ge 55, 3) := by decide +kernel
theorem dX3_trainsBefore_22 : decode cX3_trainsBefore 22 = .ok (.aload_n 0, 1) := by decide +kernel
theorem dX3_trainsBefore_23 : decode cX3_trainsBefore 23 = .ok (.getfield 27, 3) := by decide +kernel
theorem dX3_trainsBefore_26 : decode cX3_trainsBefore 26 = .ok (.iload 5, 2) := by decide +kernel
theorem dX3_trainsBefore_28 : decode cX3_trainsBefore 28 = .ok (.iaload, 1) := by decide +kernel
theorem dX3_trainsBefore_29 : decode cX3_trainsBefore 29 = .ok (.aload_n 0, 1) := by decide +kernel
theorem dX3_trainsBefore_30 : decode cX3_trainsBefore 30 = .ok (.getfield 27, 3) := by decide +kernel
theorem dX3_trainsBefore_33 : decode cX3_trainsBefore 33 = .ok (.iload_n 1, 1) := by decide +kernel
theorem dX3_trainsBefore_34 : decode cX3_trainsBefore 34 = .ok (.iaload, 1) := by decide +kernel
theorem dX3_trainsBefore_35 : decode cX3_trainsBefore 35 = .ok (.if_icmp .ne 33, 3) := by decide +kernel
theorem dX3_trainsBefore_38 : decode cX3_trainsBefore 38 = .ok (.aload_n 0, 1) := by decide +kernel
theorem dX3_trainsBefore_39 : decode cX3_trainsBefore 39 = .ok (.iload 5, 2) := by decide +kernel
theorem dX3_trainsBefore_41 : decode cX3_trainsBefore 41 = .ok (.iload_n 2, 1) := by decide +kernel
theorem dX3_trainsBefore_42 : decode cX3_trainsBefore 42 = .ok (.invokevirtual 105, 3) := by decide +kernel
theorem dX3_trainsBefore_45 : decode cX3_trainsBefore 45 = .ok (.istore 6, 2) := by decide +kernel
theorem dX3_trainsBefore_47 : decode cX3_trainsBefore 47 = .ok (.iload 6, 2) := by decide +kernel
theorem dX3_trainsBefore_49 : decode cX3_trainsBefore 49 = .ok (.iload_n 3, 1) := by decide +kernel
theorem dX3_trainsBefore_50 : decode cX3_trainsBefore 50 = .ok (.if_icmp .lt 15, 3) := by decide +kernel
theorem dX3_trainsBefore_53 : decode cX3_trainsBefore 53 = .ok (.iload 6, 2) := by decide +kernel
theorem dX3_trainsBefore_55 : decode cX3_trainsBefore 55 = .ok (.iload_n 3, 1) := by decide +kernel
theorem dX3_trainsBefore_56 : decode cX3_trainsBefore 56 = .ok (.if_icmp .ne 12, 3) := by decide +kernel
theorem dX3_trainsBefore_59 : decode cX3_trainsBefore 59 = .ok (.iload 5, 2) := by decide +kernel
theorem dX3_trainsBefore_61 : decode cX3_trainsBefore 61 = .ok (.iload_n 1, 1) := by decide +kernel
theorem dX3_trainsBefore_62 : decode cX3_trainsBefore 62 = .ok (.if_icmp .ge 6, 3) := by decide +kernel
theorem dX3_trainsBefore_65 : decode cX3_trainsBefore 65 = .ok (.iinc 4 1, 3) := by decide +kernel
theorem dX3_trainsBefore_68 : decode cX3_trainsBefore 68 = .ok (.iinc 5 1, 3) := by decide +kernel
theorem dX3_trainsBefore_71 : decode cX3_trainsBefore 71 = .ok (.goto (-58), 3) := by decide +kernel
theorem dX3_trainsBefore_74 : decode cX3_trainsBefore 74 = .ok (.iload 4, 2) := by decide +kernel
theorem dX3_trainsBefore_76 : decode cX3_trainsBefore 76 = .ok (.ireturn, 1) := by decide +kernel
theorem dX3_elsewhere_0 : decode cX3_elsewhere 0 = .ok (.iconst 1, 1) := by decide +kernel
theorem dX3_elsewhere_1 : decode cX3_elsewhere 1 = .ok (.aload_n 0, 1) := by decide +kernel
theorem dX3_elsewhere_2 : decode cX3_elsewhere 2 = .ok (.getfield 11, 3) := by decide +kernel
theorem dX3_elsewhere_5 : decode cX3_elsewhere 5 = .ok (.ishl, 1) := by decide +kernel
theorem dX3_elsewhere_6 : decode cX3_elsewhere 6 = .ok (.iconst 1, 1) := by decide +kernel
theorem dX3_elsewhere_7 : decode cX3_elsewhere 7 = .ok (.isub, 1) := by decide +kernel
theorem dX3_elsewhere_8 : decode cX3_elsewhere 8 = .ok (.iconst 1, 1) := by decide +kernel
theorem dX3_elsewhere_9 : decode cX3_elsewhere 9 = .ok (.iload_n 1, 1) := by decide +kernel
theorem dX3_elsewhere_10 : decode cX3_elsewhere 10 = .ok (.ishl, 1) := by decide +kernel
theorem dX3_elsewhere_11 : decode cX3_elsewhere 11 = .ok (.iconst (-1), 1) := by decide +kernel
theorem dX3_elsewhere_12 : decode cX3_elsewhere 12 = .ok (.ixor, 1) := by decide +kernel
theorem dX3_elsewhere_13 : decode cX3_elsewhere 13 = .ok (.iand, 1) := by decide +kernel
theorem dX3_elsewhere_14 : decode cX3_elsewhere 14 = .ok (.istore_n 3, 1) := by decide +kernel
theorem dX3_elsewhere_15 : decode cX3_elsewhere 15 = .ok (.iload_n 2, 1) := by decide +kernel
theorem dX3_elsewhere_16 : decode cX3_elsewhere 16 = .ok (.tableswitch 66 1 3 #[28, 37, 46], 28) := by decide +kernel
theorem dX3_elsewhere_44 : decode cX3_elsewhere 44 = .ok (.iload_n 3, 1) := by decide +kernel
theorem dX3_elsewhere_45 : decode cX3_elsewhere 45 = .ok (.aload_n 0, 1) := by decide +kernel
theorem dX3_elsewhere_46 : decode cX3_elsewhere 46 = .ok (.iload_n 1, 1) := by decide +kernel
theorem dX3_elsewhere_47 : decode cX3_elsewhere 47 = .ok (.iconst 0, 1) := by decide +kernel
theorem dX3_elsewhere_48 : decode cX3_elsewhere 48 = .ok (.invokevirtual 108, 3) := by decide +kernel
theorem dX3_elsewhere_51 : decode cX3_elsewhere 51 = .ok (.iand, 1) := by decide +kernel
theorem dX3_elsewhere_52 : decode cX3_elsewhere 52 = .ok (.ireturn, 1) := by decide +kernel
theorem dX3_elsewhere_53 : decode cX3_elsewhere 53 = .ok (.iload_n 3, 1) := by decide +kernel
theorem dX3_elsewhere_54 : decode cX3_elsewhere 54 = .ok (.aload_n 0, 1) := by decide +kernel
theorem dX3_elsewhere_55 : decode cX3_elsewhere 55 = .ok (.iload_n 1, 1) := by decide +kernel
theorem dX3_elsewhere_56 : decode cX3_elsewhere 56 = .ok (.iconst (-1), 1) := by decide +kernel
theorem dX3_elsewhere_57 : decode cX3_elsewhere 57 = .ok (.invokevirtual 94, 3) := by decide +kernel
theorem dX3_elsewhere_60 : decode cX3_elsewhere 60 = .ok (.iand, 1) := by decide +kernel
theorem dX3_elsewhere_61 : decode cX3_elsewhere 61 = .ok (.ireturn, 1) := by decide +kernel
theorem dX3_elsewhere_62 : decode cX3_elsewhere 62 = .ok (.iload_n 3, 1) := by decide +kernel
theorem dX3_elsewhere_63 : decode cX3_elsewhere 63 = .ok (.aload_n 0, 1) := by decide +kernel
theorem dX3_elsewhere_64 : decode cX3_elsewhere 64 = .ok (.iload_n 1, 1) := by decide +kernel
theorem dX3_elsewhere_65 : decode cX3_elsewhere 65 = .ok (.iconst 0, 1) := by decide +kernel
theorem dX3_elsewhere_66 : decode cX3_elsewhere 66 = .ok (.invokevirtual 108, 3) := by decide +kernel
theorem dX3_elsewhere_69 : decode cX3_elsewhere 69 = .ok (.iconst (-1), 1) := by decide +kernel
theorem dX3_elsewhere_70 : decode cX3_elsewhere 70 = .ok (.ixor, 1) := by decide +kernel
theorem dX3_elsewhere_71 : decode cX3_elsewhere 71 = .ok (.iand, 1) := by decide +kernel
theorem dX3_elsewhere_72 : decode cX3_elsewhere 72 = .ok (.aload_n 0, 1) := by decide +kernel
theorem dX3_elsewhere_73 : decode cX3_elsewhere 73 = .ok (.iload_n 1, 1) := by decide +kernel
theorem dX3_elsewhere_74 : decode cX3_elsewhere 74 = .ok (.iconst 1, 1) := by decide +kernel
theorem dX3_elsewhere_75 : decode cX3_elsewhere 75 = .ok (.invokevirtual 108, 3) := by decide +kernel
theorem dX3_elsewhere_78 : decode cX3_elsewhere 78 = .ok (.iconst (-1), 1) := by decide +kernel
theorem dX3_elsewhere_79 : decode cX3_elsewhere 79 = .ok (.ixor, 1) := by decide +kernel
theorem dX3_elsewhere_80 : decode cX3_elsewhere 80 = .ok (.iand, 1) := by decide +kernel
theorem dX3_elsewhere_81 : decode cX3_elsewhere 81 = .ok (.ireturn, 1) := by decide +kernel
theorem dX3_elsewhere_82 : decode cX3_elsewhere 82 = .ok (.iload_n 3, 1) := by decide +kernel
theorem dX3_elsewhere_83 : decode cX3_elsewhere 83 = .ok (.ireturn, 1) := by decide +kernel
theorem dX3_trainsLink_0 : decode cX3_trainsLink 0 = .ok (.iconst 0, 1) := by decide +kernel
theorem dX3_trainsLink_1 : decode cX3_trainsLink 1 = .ok (.istore_n 3, 1) := by decide +kernel
theorem dX3_trainsLink_2 : decode cX3_trainsLink 2 = .ok (.iconst 0, 1) := by decide +kernel
theorem dX3_trainsLink_3 : decode cX3_trainsLink 3 = .ok (.istore 4, 2) := by decide +kernel
theorem dX3_trainsLink_5 : decode cX3_trainsLink 5 = .ok (.iload 4, 2) := by decide +kernel
theorem dX3_trainsLink_7 : decode cX3_trainsLink 7 = .ok (.aload_n 0, 1) := by decide +kernel
theorem dX3_trainsLink_8 : decode cX3_trainsLink 8 = .ok (.getfield 15, 3) := by decide +kernel
theorem dX3_trainsLink_11 : decode cX3_trainsLink 11 = .ok (.if_icmp .ge 64, 3) := by decide +kernel
theorem dX3_trainsLink_14 : decode cX3_trainsLink 14 = .ok (.iload_n 2, 1) := by decide +kernel
theorem dX3_trainsLink_15 : decode cX3_trainsLink 15 = .ok (.ifCond .eq 13, 3) := by decide +kernel
theorem dX3_trainsLink_18 : decode cX3_trainsLink 18 = .ok (.aload_n 0, 1) := by decide +kernel
theorem dX3_trainsLink_19 : decode cX3_trainsLink 19 = .ok (.getfield 31, 3) := by decide +kernel
theorem dX3_trainsLink_22 : decode cX3_trainsLink 22 = .ok (.iload 4, 2) := by decide +kernel
theorem dX3_trainsLink_24 : decode cX3_trainsLink 24 = .ok (.iaload, 1) := by decide +kernel
theorem dX3_trainsLink_25 : decode cX3_trainsLink 25 = .ok (.goto 10, 3) := by decide +kernel
theorem dX3_trainsLink_28 : decode cX3_trainsLink 28 = .ok (.aload_n 0, 1) := by decide +kernel
theorem dX3_trainsLink_29 : decode cX3_trainsLink 29 = .ok (.getfield 27, 3) := by decide +kernel
theorem dX3_trainsLink_32 : decode cX3_trainsLink 32 = .ok (.iload 4, 2) := by decide +kernel
theorem dX3_trainsLink_34 : decode cX3_trainsLink 34 = .ok (.iaload, 1) := by decide +kernel
theorem dX3_trainsLink_35 : decode cX3_trainsLink 35 = .ok (.istore 5, 2) := by decide +kernel
theorem dX3_trainsLink_37 : decode cX3_trainsLink 37 = .ok (.iload 5, 2) := by decide +kernel
theorem dX3_trainsLink_39 : decode cX3_trainsLink 39 = .ok (.iload_n 1, 1) := by decide +kernel
theorem dX3_trainsLink_40 : decode cX3_trainsLink 40 = .ok (.if_icmp .ne 29, 3) := by decide +kernel
theorem dX3_trainsLink_43 : decode cX3_trainsLink 43 = .ok (.iload_n 3, 1) := by decide +kernel
theorem dX3_trainsLink_44 : decode cX3_trainsLink 44 = .ok (.iconst 1, 1) := by decide +kernel
theorem dX3_trainsLink_45 : decode cX3_trainsLink 45 = .ok (.iload_n 2, 1) := by decide +kernel
theorem dX3_trainsLink_46 : decode cX3_trainsLink 46 = .ok (.ifCond .eq 13, 3) := by decide +kernel
theorem dX3_trainsLink_49 : decode cX3_trainsLink 49 = .ok (.aload_n 0, 1) := by decide +kernel
theorem dX3_trainsLink_50 : decode cX3_trainsLink 50 = .ok (.getfield 27, 3) := by decide +kernel
theorem dX3_trainsLink_53 : decode cX3_trainsLink 53 = .ok (.iload 4, 2) := by decide +kernel
theorem dX3_trainsLink_55 : decode cX3_trainsLink 55 = .ok (.iaload, 1) := by decide +kernel
theorem dX3_trainsLink_56 : decode cX3_trainsLink 56 = .ok (.goto 10, 3) := by decide +kernel
theorem dX3_trainsLink_59 : decode cX3_trainsLink 59 = .ok (.aload_n 0, 1) := by decide +kernel
theorem dX3_trainsLink_60 : decode cX3_trainsLink 60 = .ok (.getfield 31, 3) := by decide +kernel
theorem dX3_trainsLink_63 : decode cX3_trainsLink 63 = .ok (.iload 4, 2) := by decide +kernel
theorem dX3_trainsLink_65 : decode cX3_trainsLink 65 = .ok (.iaload, 1) := by decide +kernel
theorem dX3_trainsLink_66 : decode cX3_trainsLink 66 = .ok (.ishl, 1) := by decide +kernel
theorem dX3_trainsLink_67 : decode cX3_trainsLink 67 = .ok (.ior, 1) := by decide +kernel
theorem dX3_trainsLink_68 : decode cX3_trainsLink 68 = .ok (.istore_n 3, 1) := by decide +kernel
theorem dX3_trainsLink_69 : decode cX3_trainsLink 69 = .ok (.iinc 4 1, 3) := by decide +kernel
theorem dX3_trainsLink_72 : decode cX3_trainsLink 72 = .ok (.goto (-67), 3) := by decide +kernel
theorem dX3_trainsLink_75 : decode cX3_trainsLink 75 = .ok (.iload_n 3, 1) := by decide +kernel
theorem dX3_trainsLink_76 : decode cX3_trainsLink 76 = .ok (.ireturn, 1) := by decide +kernel
theorem dX3_permitsRead_0 : decode cX3_permitsRead 0 = .ok (.iconst 0, 1) := by decide +kernel
theorem dX3_permitsRead_1 : decode cX3_permitsRead 1 = .ok (.istore_n 2, 1) := by decide +kernel
theorem dX3_permitsRead_2 : decode cX3_permitsRead 2 = .ok (.iconst 0, 1) := by decide +kernel
theorem dX3_permitsRead_3 : decode cX3_permitsRead 3 = .ok (.istore_n 3, 1) := by decide +kernel
theorem dX3_permitsRead_4 : decode cX3_permitsRead 4 = .ok (.iload_n 3, 1) := by decide +kernel
theorem dX3_permitsRead_5 : decode cX3_permitsRead 5 = .ok (.aload_n 0, 1) := by decide +kernel
theorem dX3_permitsRead_6 : decode cX3_permitsRead 6 = .ok (.getfield 18, 3) := by decide +kernel
theorem dX3_permitsRead_9 : decode cX3_permitsRead 9 = .ok (.if_icmp .ge 38, 3) := by decide +kernel
theorem dX3_permitsRead_12 : decode cX3_permitsRead 12 = .ok (.aload_n 0, 1) := by decide +kernel
theorem dX3_permitsRead_13 : decode cX3_permitsRead 13 = .ok (.getfield 43, 3) := by decide +kernel
theorem dX3_permitsRead_16 : decode cX3_permitsRead 16 = .ok (.iload_n 3, 1) := by decide +kernel
theorem dX3_permitsRead_17 : decode cX3_permitsRead 17 = .ok (.iaload, 1) := by decide +kernel
theorem dX3_permitsRead_18 : decode cX3_permitsRead 18 = .ok (.aload_n 0, 1) := by decide +kernel
theorem dX3_permitsRead_19 : decode cX3_permitsRead 19 = .ok (.aload_n 0, 1) := by decide +kernel
theorem dX3_permitsRead_20 : decode cX3_permitsRead 20 = .ok (.getfield 40, 3) := by decide +kernel
theorem dX3_permitsRead_23 : decode cX3_permitsRead 23 = .ok (.iload_n 3, 1) := by decide +kernel
theorem dX3_permitsRead_24 : decode cX3_permitsRead 24 = .ok (.iaload, 1) := by decide +kernel
theorem dX3_permitsRead_25 : decode cX3_permitsRead 25 = .ok (.iload_n 1, 1) := by decide +kernel
theorem dX3_permitsRead_26 : decode cX3_permitsRead 26 = .ok (.invokevirtual 112, 3) := by decide +kernel
theorem dX3_permitsRead_29 : decode cX3_permitsRead 29 = .ok (.iconst (-1), 1) := by decide +kernel
theorem dX3_permitsRead_30 : decode cX3_permitsRead 30 = .ok (.ixor, 1) := by decide +kernel
theorem dX3_permitsRead_31 : decode cX3_permitsRead 31 = .ok (.iand, 1) := by decide +kernel
theorem dX3_permitsRead_32 : decode cX3_permitsRead 32 = .ok (.ifCond .ne 9, 3) := by decide +kernel
theorem dX3_permitsRead_35 : decode cX3_permitsRead 35 = .ok (.iload_n 2, 1) := by decide +kernel
theorem dX3_permitsRead_36 : decode cX3_permitsRead 36 = .ok (.iconst 1, 1) := by decide +kernel
theorem dX3_permitsRead_37 : decode cX3_permitsRead 37 = .ok (.iload_n 3, 1) := by decide +kernel
theorem dX3_permitsRead_38 : decode cX3_permitsRead 38 = .ok (.ishl, 1) := by decide +kernel
theorem dX3_permitsRead_39 : decode cX3_permitsRead 39 = .ok (.ior, 1) := by decide +kernel
theorem dX3_permitsRead_40 : decode cX3_permitsRead 40 = .ok (.istore_n 2, 1) := by decide +kernel
theorem dX3_permitsRead_41 : decode cX3_permitsRead 41 = .ok (.iinc 3 1, 3) := by decide +kernel
theorem dX3_permitsRead_44 : decode cX3_permitsRead 44 = .ok (.goto (-40), 3) := by decide +kernel
theorem dX3_permitsRead_47 : decode cX3_permitsRead 47 = .ok (.iload_n 2, 1) := by decide +kernel
theorem dX3_permitsRead_48 : decode cX3_permitsRead 48 = .ok (.ireturn, 1) := by decide +kernel
theorem dX3_busiest_0 : decode cX3_busiest 0 = .ok (.iconst (-1), 1) := by decide +kernel
theorem dX3_busiest_1 : decode cX3_busiest 1 = .ok (.istore_n 2, 1) := by decide +kernel
theorem dX3_busiest_2 : decode cX3_busiest 2 = .ok (.iconst 0, 1) := by decide +kernel
theorem dX3_busiest_3 : decode cX3_busiest 3 = .ok (.istore_n 3, 1) := by decide +kernel
theorem dX3_busiest_4 : decode cX3_busiest 4 = .ok (.iconst 0, 1) := by decide +kernel
theorem dX3_busiest_5 : decode cX3_busiest 5 = .ok (.istore 4, 2) := by decide +kernel
theorem dX3_busiest_7 : decode cX3_busiest 7 = .ok (.iload 4, 2) := by decide +kernel
theorem dX3_busiest_9 : decode cX3_busiest 9 = .ok (.aload_n 0, 1) := by decide +kernel
theorem dX3_busiest_10 : decode cX3_busiest 10 = .ok (.getfield 11, 3) := by decide +kernel
theorem dX3_busiest_13 : decode cX3_busiest 13 = .ok (.if_icmp .ge 59, 3) := by decide +kernel
theorem dX3_busiest_16 : decode cX3_busiest 16 = .ok (.iconst 0, 1) := by decide +kernel
theorem dX3_busiest_17 : decode cX3_busiest 17 = .ok (.istore 5, 2) := by decide +kernel
theorem dX3_busiest_19 : decode cX3_busiest 19 = .ok (.iconst 0, 1) := by decide +kernel
theorem dX3_busiest_20 : decode cX3_busiest 20 = .ok (.istore 6, 2) := by decide +kernel
theorem dX3_busiest_22 : decode cX3_busiest 22 = .ok (.iload 6, 2) := by decide +kernel
theorem dX3_busiest_24 : decode cX3_busiest 24 = .ok (.aload_n 0, 1) := by decide +kernel
theorem dX3_busiest_25 : decode cX3_busiest 25 = .ok (.getfield 18, 3) := by decide +kernel
theorem dX3_busiest_28 : decode cX3_busiest 28 = .ok (.if_icmp .ge 26, 3) := by decide +kernel
theorem dX3_busiest_31 : decode cX3_busiest 31 = .ok (.iload 5, 2) := by decide +kernel
theorem dX3_busiest_33 : decode cX3_busiest 33 = .ok (.aload_n 0, 1) := by decide +kernel
theorem dX3_busiest_34 : decode cX3_busiest 34 = .ok (.getfield 43, 3) := by decide +kernel
theorem dX3_busiest_37 : decode cX3_busiest 37 = .ok (.iload 6, 2) := by decide +kernel
theorem dX3_busiest_39 : decode cX3_busiest 39 = .ok (.iaload, 1) := by decide +kernel
theorem dX3_busiest_40 : decode cX3_busiest 40 = .ok (.iload 4, 2) := by decide +kernel
theorem dX3_busiest_42 : decode cX3_busiest 42 = .ok (.ishr, 1) := by decide +kernel
theorem dX3_busiest_43 : decode cX3_busiest 43 = .ok (.iconst 1, 1) := by decide +kernel
theorem dX3_busiest_44 : decode cX3_busiest 44 = .ok (.iand, 1) := by decide +kernel
theorem dX3_busiest_45 : decode cX3_busiest 45 = .ok (.iadd, 1) := by decide +kernel
theorem dX3_busiest_46 : decode cX3_busiest 46 = .ok (.istore 5, 2) := by decide +kernel
theorem dX3_busiest_48 : decode cX3_busiest 48 = .ok (.iinc 6 1, 3) := by decide +kernel
theorem dX3_busiest_51 : decode cX3_busiest 51 = .ok (.goto (-29), 3) := by decide +kernel
theorem dX3_busiest_54 : decode cX3_busiest 54 = .ok (.iload 5, 2) := by decide +kernel
theorem dX3_busiest_56 : decode cX3_busiest 56 = .ok (.iload_n 3, 1) := by decide +kernel
theorem dX3_busiest_57 : decode cX3_busiest 57 = .ok (.if_icmp .le 9, 3) := by decide +kernel
theorem dX3_busiest_60 : decode cX3_busiest 60 = .ok (.iload 5, 2) := by decide +kernel
theorem dX3_busiest_62 : decode cX3_busiest 62 = .ok (.istore_n 3, 1) := by decide +kernel
theorem dX3_busiest_63 : decode cX3_busiest 63 = .ok (.iload 4, 2) := by decide +kernel
theorem dX3_busiest_65 : decode cX3_busiest 65 = .ok (.istore_n 2, 1) := by decide +kernel
theorem dX3_busiest_66 : decode cX3_busiest 66 = .ok (.iinc 4 1, 3) := by decide +kernel
theorem dX3_busiest_69 : decode cX3_busiest 69 = .ok (.goto (-62), 3) := by decide +kernel
theorem dX3_busiest_72 : decode cX3_busiest 72 = .ok (.iload_n 1, 1) := by decide +kernel
theorem dX3_busiest_73 : decode cX3_busiest 73 = .ok (.ifCond .eq 7, 3) := by decide +kernel
theorem dX3_busiest_76 : decode cX3_busiest 76 = .ok (.iload_n 3, 1) := by decide +kernel
theorem dX3_busiest_77 : decode cX3_busiest 77 = .ok (.goto 4, 3) := by decide +kernel
theorem dX3_busiest_80 : decode cX3_busiest 80 = .ok (.iload_n 2, 1) := by decide +kernel
theorem dX3_busiest_81 : decode cX3_busiest 81 = .ok (.ireturn, 1) := by decide +kernel
theorem dX4_init_0 : decode cX4_init 0 = .ok (.aload_n 0, 1) := by decide +kernel
theorem dX4_init_1 : decode cX4_init 1 = .ok (.invokespecial 3, 3) := by decide +kernel
theorem dX4_init_4 : decode cX4_init 4 = .ok (.aload_n 0, 1) := by decide +kernel
theorem dX4_init_5 : decode cX4_init 5 = .ok (.new 9, 3) := by decide +kernel
theorem dX4_init_8 : decode cX4_init 8 = .ok (.dup, 1) := by decide +kernel
theorem dX4_init_9 : decode cX4_init 9 = .ok (.invokespecial 11, 3) := by decide +kernel
theorem dX4_init_12 : decode cX4_init 12 = .ok (.putfield 12, 3) := by decide +kernel
theorem dX4_init_15 : decode cX4_init 15 = .ok (.aload_n 0, 1) := by decide +kernel
theorem dX4_init_16 : decode cX4_init 16 = .ok (.new 18, 3) := by decide +kernel
theorem dX4_init_19 : decode cX4_init 19 = .ok (.dup, 1) := by decide +kernel
theorem dX4_init_20 : decode cX4_init 20 = .ok (.bipush 40, 2) := by decide +kernel
theorem dX4_init_22 : decode cX4_init 22 = .ok (.iconst 3, 1) := by decide +kernel
theorem dX4_init_23 : decode cX4_init 23 = .ok (.invokespecial 20, 3) := by decide +kernel
theorem dX4_init_26 : decode cX4_init 26 = .ok (.putfield 23, 3) := by decide +kernel
theorem dX4_init_29 : decode cX4_init 29 = .ok (.aload_n 0, 1) := by decide +kernel
theorem dX4_init_30 : decode cX4_init 30 = .ok (.new 18, 3) := by decide +kernel
theorem dX4_init_33 : decode cX4_init 33 = .ok (.dup, 1) := by decide +kernel
theorem dX4_init_34 : decode cX4_init 34 = .ok (.bipush 8, 2) := by decide +kernel
theorem dX4_init_36 : decode cX4_init 36 = .ok (.iconst 2, 1) := by decide +kernel
theorem dX4_init_37 : decode cX4_init 37 = .ok (.invokespecial 20, 3) := by decide +kernel
theorem dX4_init_40 : decode cX4_init 40 = .ok (.putfield 27, 3) := by decide +kernel
theorem dX4_init_43 : decode cX4_init 43 = .ok (.aload_n 0, 1) := by decide +kernel
theorem dX4_init_44 : decode cX4_init 44 = .ok (.iconst 0, 1) := by decide +kernel
theorem dX4_init_45 : decode cX4_init 45 = .ok (.putfield 30, 3) := by decide +kernel
theorem dX4_init_48 : decode cX4_init 48 = .ok (.aload_n 0, 1) := by decide +kernel
theorem dX4_init_49 : decode cX4_init 49 = .ok (.iconst (-1), 1) := by decide +kernel
theorem dX4_init_50 : decode cX4_init 50 = .ok (.putfield 34, 3) := by decide +kernel
theorem dX4_init_53 : decode cX4_init 53 = .ok (.aload_n 0, 1) := by decide +kernel
theorem dX4_init_54 : decode cX4_init 54 = .ok (.new 37, 3) := by decide +kernel
theorem dX4_init_57 : decode cX4_init 57 = .ok (.dup, 1) := by decide +kernel
theorem dX4_init_58 : decode cX4_init 58 = .ok (.invokespecial 39, 3) := by decide +kernel
theorem dX4_init_61 : decode cX4_init 61 = .ok (.putfield 40, 3) := by decide +kernel
theorem dX4_init_64 : decode cX4_init 64 = .ok (.aload_n 0, 1) := by decide +kernel
theorem dX4_init_65 : decode cX4_init 65 = .ok (.iconst 4, 1) := by decide +kernel
theorem dX4_init_66 : decode cX4_init 66 = .ok (.newarray .int, 2) := by decide +kernel
theorem dX4_init_68 : decode cX4_init 68 = .ok (.putfield 44, 3) := by decide +kernel
theorem dX4_init_71 : decode cX4_init 71 = .ok (.aload_n 0, 1) := by decide +kernel
theorem dX4_init_72 : decode cX4_init 72 = .ok (.iconst 4, 1) := by decide +kernel
theorem dX4_init_73 : decode cX4_init 73 = .ok (.newarray .int, 2) := by decide +kernel
theorem dX4_init_75 : decode cX4_init 75 = .ok (.putfield 48, 3) := by decide +kernel
theorem dX4_init_78 : decode cX4_init 78 = .ok (.aload_n 0, 1) := by decide +kernel
theorem dX4_init_79 : decode cX4_init 79 = .ok (.iconst (-1), 1) := by decide +kernel
theorem dX4_init_80 : decode cX4_init 80 = .ok (.putfield 51, 3) := by decide +kernel
theorem dX4_init_83 : decode cX4_init 83 = .ok (.aload_n 0, 1) := by decide +kernel
theorem dX4_init_84 : decode cX4_init 84 = .ok (.iconst (-1), 1) := by decide +kernel
theorem dX4_init_85 : decode cX4_init 85 = .ok (.putfield 54, 3) := by decide +kernel
theorem dX4_init_88 : decode cX4_init 88 = .ok (.return_, 1) := by decide +kernel
theorem dX4_readText_0 : decode cX4_readText 0 = .ok (.aload_n 0, 1) := by decide +kernel
theorem dX4_readText_1 : decode cX4_readText 1 = .ok (.iconst 0, 1) := by decide +kernel
theorem dX4_readText_2 : decode cX4_readText 2 = .ok (.putfield 30, 3) := by decide +kernel
theorem dX4_readText_5 : decode cX4_readText 5 = .ok (.aload_n 0, 1) := by decide +kernel
theorem dX4_readText_6 : decode cX4_readText 6 = .ok (.iconst (-1), 1) := by decide +kernel
theorem dX4_readText_7 : decode cX4_readText 7 = .ok (.putfield 34, 3) := by decide +kernel
theorem dX4_readText_10 : decode cX4_readText 10 = .ok (.aload_n 0, 1) := by decide +kernel
theorem dX4_readText_11 : decode cX4_readText 11 = .ok (.iconst (-1), 1) := by decide +kernel
theorem dX4_readText_12 : decode cX4_readText 12 = .ok (.putfield 51, 3) := by decide +kernel
theorem dX4_readText_15 : decode cX4_readText 15 = .ok (.aload_n 0, 1) := by decide +kernel
theorem dX4_readText_16 : decode cX4_readText 16 = .ok (.iconst (-1), 1) := by decide +kernel
theorem dX4_readText_17 : decode cX4_readText 17 = .ok (.putfield 54, 3) := by decide +kernel
theorem dX4_readText_20 : decode cX4_readText 20 = .ok (.aload_n 0, 1) := by decide +kernel
theorem dX4_readText_21 : decode cX4_readText 21 = .ok (.getfield 12, 3) := by decide +kernel
theorem dX4_readText_24 : decode cX4_readText 24 = .ok (.invokevirtual 57, 3) := by decide +kernel
theorem dX4_readText_27 : decode cX4_readText 27 = .ok (.aload_n 0, 1) := by decide +kernel
theorem dX4_readText_28 : decode cX4_readText 28 = .ok (.getfield 23, 3) := by decide +kernel
theorem dX4_readText_31 : decode cX4_readText 31 = .ok (.iconst 0, 1) := by decide +kernel
theorem dX4_readText_32 : decode cX4_readText 32 = .ok (.putfield 60, 3) := by decide +kernel
theorem dX4_readText_35 : decode cX4_readText 35 = .ok (.aload_n 0, 1) := by decide +kernel
theorem dX4_readText_36 : decode cX4_readText 36 = .ok (.getfield 27, 3) := by decide +kernel
theorem dX4_readText_39 : decode cX4_readText 39 = .ok (.iconst 0, 1) := by decide +kernel
theorem dX4_readText_40 : decode cX4_readText 40 = .ok (.putfield 60, 3) := by decide +kernel
theorem dX4_readText_43 : decode cX4_readText 43 = .ok (.aload_n 0, 1) := by decide +kernel
theorem dX4_readText_44 : decode cX4_readText 44 = .ok (.getfield 40, 3) := by decide +kernel
theorem dX4_readText_47 : decode cX4_readText 47 = .ok (.aload_n 2, 1) := by decide +kernel
theorem dX4_readText_48 : decode cX4_readText 48 = .ok (.iload_n 3, 1) := by decide +kernel
theorem dX4_readText_49 : decode cX4_readText 49 = .ok (.invokevirtual 63, 3) := by decide +kernel
theorem dX4_readText_52 : decode cX4_readText 52 = .ok (.iconst 0, 1) := by decide +kernel
theorem dX4_readText_53 : decode cX4_readText 53 = .ok (.istore 4, 2) := by decide +kernel
theorem dX4_readText_55 : decode cX4_readText 55 = .ok (.iload 4, 2) := by decide +kernel
theorem dX4_readText_57 : decode cX4_readText 57 = .ok (.sipush 600, 3) := by decide +kernel
theorem dX4_readText_60 : decode cX4_readText 60 = .ok (.if_icmp .gt 32, 3) := by decide +kernel
theorem dX4_readText_63 : decode cX4_readText 63 = .ok (.aload_n 0, 1) := by decide +kernel
theorem dX4_readText_64 : decode cX4_readText 64 = .ok (.getfield 30, 3) := by decide +kernel
theorem dX4_readText_67 : decode cX4_readText 67 = .ok (.iconst 1, 1) := by decide +kernel
theorem dX4_readText_68 : decode cX4_readText 68 = .ok (.if_icmp .eq 24, 3) := by decide +kernel
theorem dX4_readText_71 : decode cX4_readText 71 = .ok (.aload_n 0, 1) := by decide +kernel
theorem dX4_readText_72 : decode cX4_readText 72 = .ok (.getfield 40, 3) := by decide +kernel
theorem dX4_readText_75 : decode cX4_readText 75 = .ok (.getfield 67, 3) := by decide +kernel
theorem dX4_readText_78 : decode cX4_readText 78 = .ok (.ifCond .eq 14, 3) := by decide +kernel
theorem dX4_readText_81 : decode cX4_readText 81 = .ok (.aload_n 0, 1) := by decide +kernel
theorem dX4_readText_82 : decode cX4_readText 82 = .ok (.iload_n 1, 1) := by decide +kernel
theorem dX4_readText_83 : decode cX4_readText 83 = .ok (.invokevirtual 70, 3) := by decide +kernel
theorem dX4_readText_86 : decode cX4_readText 86 = .ok (.iinc 4 1, 3) := by decide +kernel
theorem dX4_readText_89 : decode cX4_readText 89 = .ok (.goto (-34), 3) := by decide +kernel
theorem dX4_readText_92 : decode cX4_readText 92 = .ok (.iload_n 1, 1) := by decide +kernel
theorem dX4_readText_93 : decode cX4_readText 93 = .ok (.ifCond .ne 15, 3) := by decide +kernel
theorem dX4_readText_96 : decode cX4_readText 96 = .ok (.aload_n 0, 1) := by decide +kernel
theorem dX4_readText_97 : decode cX4_readText 97 = .ok (.getfield 30, 3) := by decide +kernel
theorem dX4_readText_100 : decode cX4_readText 100 = .ok (.ifCond .ne 8, 3) := by decide +kernel
theorem dX4_readText_103 : decode cX4_readText 103 = .ok (.aload_n 0, 1) := by decide +kernel
theorem dX4_readText_104 : decode cX4_readText 104 = .ok (.iload_n 3, 1) := by decide +kernel
theorem dX4_readText_105 : decode cX4_readText 105 = .ok (.invokevirtual 74, 3) := by decide +kernel
theorem dX4_readText_108 : decode cX4_readText 108 = .ok (.return_, 1) := by decide +kernel
theorem dX4_readLine_0 : decode cX4_readLine 0 = .ok (.aload_n 0, 1) := by decide +kernel
theorem dX4_readLine_1 : decode cX4_readLine 1 = .ok (.iload_n 1, 1) := by decide +kernel
theorem dX4_readLine_2 : decode cX4_readLine 2 = .ok (.invokevirtual 77, 3) := by decide +kernel
theorem dX4_readLine_5 : decode cX4_readLine 5 = .ok (.istore_n 2, 1) := by decide +kernel
theorem dX4_readLine_6 : decode cX4_readLine 6 = .ok (.iload_n 2, 1) := by decide +kernel
theorem dX4_readLine_7 : decode cX4_readLine 7 = .ok (.iconst (-1), 1) := by decide +kernel
theorem dX4_readLine_8 : decode cX4_readLine 8 = .ok (.if_icmp .ne 8, 3) := by decide +kernel
theorem dX4_readLine_11 : decode cX4_readLine 11 = .ok (.aload_n 0, 1) := by decide +kernel
theorem dX4_readLine_12 : decode cX4_readLine 12 = .ok (.invokevirtual 81, 3) := by decide +kernel
theorem dX4_readLine_15 : decode cX4_readLine 15 = .ok (.return_, 1) := by decide +kernel
theorem dX4_readLine_16 : decode cX4_readLine 16 = .ok (.aload_n 0, 1) := by decide +kernel
theorem dX4_readLine_17 : decode cX4_readLine 17 = .ok (.getfield 40, 3) := by decide +kernel
theorem dX4_readLine_20 : decode cX4_readLine 20 = .ok (.getfield 84, 3) := by decide +kernel
theorem dX4_readLine_23 : decode cX4_readLine 23 = .ok (.istore_n 3, 1) := by decide +kernel
theorem dX4_readLine_24 : decode cX4_readLine 24 = .ok (.aload_n 0, 1) := by decide +kernel
theorem dX4_readLine_25 : decode cX4_readLine 25 = .ok (.getfield 40, 3) := by decide +kernel
theorem dX4_readLine_28 : decode cX4_readLine 28 = .ok (.invokevirtual 87, 3) := by decide +kernel
theorem dX4_readLine_31 : decode cX4_readLine 31 = .ok (.iconst 0, 1) := by decide +kernel
theorem dX4_readLine_32 : decode cX4_readLine 32 = .ok (.istore 4, 2) := by decide +kernel
theorem dX4_readLine_34 : decode cX4_readLine 34 = .ok (.iload 4, 2) := by decide +kernel
theorem dX4_readLine_36 : decode cX4_readLine 36 = .ok (.getstatic 90, 3) := by decide +kernel
theorem dX4_readLine_39 : decode cX4_readLine 39 = .ok (.iload_n 2, 1) := by decide +kernel
theorem dX4_readLine_40 : decode cX4_readLine 40 = .ok (.iaload, 1) := by decide +kernel
theorem dX4_readLine_41 : decode cX4_readLine 41 = .ok (.if_icmp .ge 60, 3) := by decide +kernel
theorem dX4_readLine_44 : decode cX4_readLine 44 = .ok (.aload_n 0, 1) := by decide +kernel
theorem dX4_readLine_45 : decode cX4_readLine 45 = .ok (.getfield 40, 3) := by decide +kernel
theorem dX4_readLine_48 : decode cX4_readLine 48 = .ok (.getfield 67, 3) := by decide +kernel
theorem dX4_readLine_51 : decode cX4_readLine 51 = .ok (.iconst 2, 1) := by decide +kernel
theorem dX4_readLine_52 : decode cX4_readLine 52 = .ok (.if_icmp .eq 8, 3) := by decide +kernel
theorem dX4_readLine_55 : decode cX4_readLine 55 = .ok (.aload_n 0, 1) := by decide +kernel
theorem dX4_readLine_56 : decode cX4_readLine 56 = .ok (.invokevirtual 81, 3) := by decide +kernel
theorem dX4_readLine_59 : decode cX4_readLine 59 = .ok (.return_, 1) := by decide +kernel
theorem dX4_readLine_60 : decode cX4_readLine 60 = .ok (.aload_n 0, 1) := by decide +kernel
theorem dX4_readLine_61 : decode cX4_readLine 61 = .ok (.getfield 44, 3) := by decide +kernel
theorem dX4_readLine_64 : decode cX4_readLine 64 = .ok (.iload 4, 2) := by decide +kernel
theorem dX4_readLine_66 : decode cX4_readLine 66 = .ok (.aload_n 0, 1) := by decide +kernel
theorem dX4_readLine_67 : decode cX4_readLine 67 = .ok (.getfield 40, 3) := by decide +kernel
theorem dX4_readLine_70 : decode cX4_readLine 70 = .ok (.getfield 93, 3) := by decide +kernel
theorem dX4_readLine_73 : decode cX4_readLine 73 = .ok (.iastore, 1) := by decide +kernel
theorem dX4_readLine_74 : decode cX4_readLine 74 = .ok (.aload_n 0, 1) := by decide +kernel
theorem dX4_readLine_75 : decode cX4_readLine 75 = .ok (.getfield 48, 3) := by decide +kernel
theorem dX4_readLine_78 : decode cX4_readLine 78 = .ok (.iload 4, 2) := by decide +kernel
theorem dX4_readLine_80 : decode cX4_readLine 80 = .ok (.aload_n 0, 1) := by decide +kernel
theorem dX4_readLine_81 : decode cX4_readLine 81 = .ok (.getfield 40, 3) := by decide +kernel
theorem dX4_readLine_84 : decode cX4_readLine 84 = .ok (.getfield 84, 3) := by decide +kernel
theorem dX4_readLine_87 : decode cX4_readLine 87 = .ok (.iastore, 1) := by decide +kernel
theorem dX4_readLine_88 : decode cX4_readLine 88 = .ok (.aload_n 0, 1) := by decide +kernel
theorem dX4_readLine_89 : decode cX4_readLine 89 = .ok (.getfield 40, 3) := by decide +kernel
theorem dX4_readLine_92 : decode cX4_readLine 92 = .ok (.invokevirtual 87, 3) := by decide +kernel
theorem dX4_readLine_95 : decode cX4_readLine 95 = .ok (.iinc 4 1, 3) := by decide +kernel
theorem dX4_readLine_98 : decode cX4_readLine 98 = .ok (.goto (-64), 3) := by decide +kernel
theorem dX4_readLine_101 : decode cX4_readLine 101 = .ok (.aload_n 0, 1) := by decide +kernel
theorem dX4_readLine_102 : decode cX4_readLine 102 = .ok (.getfield 40, 3) := by decide +kernel
theorem dX4_readLine_105 : decode cX4_readLine 105 = .ok (.getfield 67, 3) := by decide +kernel
theorem dX4_readLine_108 : decode cX4_readLine 108 = .ok (.iconst 3, 1) := by decide +kernel
theorem dX4_readLine_109 : decode cX4_readLine 109 = .ok (.if_icmp .eq 8, 3) := by decide +kernel
theorem dX4_readLine_112 : decode cX4_readLine 112 = .ok (.aload_n 0, 1) := by decide +kernel
theorem dX4_readLine_113 : decode cX4_readLine 113 = .ok (.invokevirtual 81, 3) := by decide +kernel
theorem dX4_readLine_116 : decode cX4_readLine 116 = .ok (.return_, 1) := by decide +kernel
theorem dX4_readLine_117 : decode cX4_readLine 117 = .ok (.aload_n 0, 1) := by decide +kernel
theorem dX4_readLine_118 : decode cX4_readLine 118 = .ok (.getfield 40, 3) := by decide +kernel
theorem dX4_readLine_121 : decode cX4_readLine 121 = .ok (.invokevirtual 87, 3) := by decide +kernel
theorem dX4_readLine_124 : decode cX4_readLine 124 = .ok (.aload_n 0, 1) := by decide +kernel
theorem dX4_readLine_125 : decode cX4_readLine 125 = .ok (.iload_n 2, 1) := by decide +kernel
theorem dX4_readLine_126 : decode cX4_readLine 126 = .ok (.invokevirtual 96, 3) := by decide +kernel
theorem dX4_readLine_129 : decode cX4_readLine 129 = .ok (.ifCond .gt 9, 3) := by decide +kernel
theorem dX4_readLine_132 : decode cX4_readLine 132 = .ok (.aload_n 0, 1) := by decide +kernel
theorem dX4_readLine_133 : decode cX4_readLine 133 = .ok (.iconst 3, 1) := by decide +kernel
theorem dX4_readLine_134 : decode cX4_readLine 134 = .ok (.iload_n 3, 1) := by decide +kernel
theorem dX4_readLine_135 : decode cX4_readLine 135 = .ok (.invokevirtual 99, 3) := by decide +kernel
theorem dX4_readLine_138 : decode cX4_readLine 138 = .ok (.aload_n 0, 1) := by decide +kernel
theorem dX4_readLine_139 : decode cX4_readLine 139 = .ok (.iload_n 2, 1) := by decide +kernel
theorem dX4_readLine_140 : decode cX4_readLine 140 = .ok (.invokevirtual 102, 3) := by decide +kernel
theorem dX4_readLine_143 : decode cX4_readLine 143 = .ok (.aload_n 0, 1) := by decide +kernel
theorem dX4_readLine_144 : decode cX4_readLine 144 = .ok (.getfield 30, 3) := by decide +kernel
theorem dX4_readLine_147 : decode cX4_readLine 147 = .ok (.ifCond .ne 8, 3) := by decide +kernel
theorem dX4_readLine_150 : decode cX4_readLine 150 = .ok (.aload_n 0, 1) := by decide +kernel
theorem dX4_readLine_151 : decode cX4_readLine 151 = .ok (.iload_n 2, 1) := by decide +kernel
theorem dX4_readLine_152 : decode cX4_readLine 152 = .ok (.invokevirtual 105, 3) := by decide +kernel
theorem dX4_readLine_155 : decode cX4_readLine 155 = .ok (.return_, 1) := by decide +kernel
theorem dX4_lineByWord_0 : decode cX4_lineByWord 0 = .ok (.iload_n 1, 1) := by decide +kernel
theorem dX4_lineByWord_1 : decode cX4_lineByWord 1 = .ok (.ifCond .ne 8, 3) := by decide +kernel
theorem dX4_lineByWord_4 : decode cX4_lineByWord 4 = .ok (.aload_n 0, 1) := by decide +kernel
theorem dX4_lineByWord_5 : decode cX4_lineByWord 5 = .ok (.invokevirtual 108, 3) := by decide +kernel
theorem dX4_lineByWord_8 : decode cX4_lineByWord 8 = .ok (.ireturn, 1) := by decide +kernel
theorem dX4_lineByWord_9 : decode cX4_lineByWord 9 = .ok (.iload_n 1, 1) := by decide +kernel
theorem dX4_lineByWord_10 : decode cX4_lineByWord 10 = .ok (.iconst 2, 1) := by decide +kernel
theorem dX4_lineByWord_11 : decode cX4_lineByWord 11 = .ok (.if_icmp .ne 22, 3) := by decide +kernel
theorem dX4_lineByWord_14 : decode cX4_lineByWord 14 = .ok (.aload_n 0, 1) := by decide +kernel
theorem dX4_lineByWord_15 : decode cX4_lineByWord 15 = .ok (.getfield 40, 3) := by decide +kernel
theorem dX4_lineByWord_18 : decode cX4_lineByWord 18 = .ok (.ldc 112, 2) := by decide +kernel
theorem dX4_lineByWord_20 : decode cX4_lineByWord 20 = .ok (.invokevirtual 114, 3) := by decide +kernel
theorem dX4_lineByWord_23 : decode cX4_lineByWord 23 = .ok (.ifCond .eq 8, 3) := by decide +kernel
theorem dX4_lineByWord_26 : decode cX4_lineByWord 26 = .ok (.bipush 9, 2) := by decide +kernel
theorem dX4_lineByWord_28 : decode cX4_lineByWord 28 = .ok (.goto 4, 3) := by decide +kernel
theorem dX4_lineByWord_31 : decode cX4_lineByWord 31 = .ok (.iconst (-1), 1) := by decide +kernel
theorem dX4_lineByWord_32 : decode cX4_lineByWord 32 = .ok (.ireturn, 1) := by decide +kernel
theorem dX4_lineByWord_33 : decode cX4_lineByWord 33 = .ok (.aload_n 0, 1) := by decide +kernel
theorem dX4_lineByWord_34 : decode cX4_lineByWord 34 = .ok (.getfield 40, 3) := by decide +kernel
theorem dX4_lineByWord_37 : decode cX4_lineByWord 37 = .ok (.ldc 118, 2) := by decide +kernel
theorem dX4_lineByWord_39 : decode cX4_lineByWord 39 = .ok (.invokevirtual 114, 3) := by decide +kernel
theorem dX4_lineByWord_42 : decode cX4_lineByWord 42 = .ok (.ifCond .eq 6, 3) := by decide +kernel
theorem dX4_lineByWord_45 : decode cX4_lineByWord 45 = .ok (.bipush 6, 2) := by decide +kernel
theorem dX4_lineByWord_47 : decode cX4_lineByWord 47 = .ok (.ireturn, 1) := by decide +kernel
theorem dX4_lineByWord_48 : decode cX4_lineByWord 48 = .ok (.aload_n 0, 1) := by decide +kernel
theorem dX4_lineByWord_49 : decode cX4_lineByWord 49 = .ok (.getfield 40, 3) := by decide +kernel
theorem dX4_lineByWord_52 : decode cX4_lineByWord 52 = .ok (.ldc 120, 2) := by decide +kernel
theorem dX4_lineByWord_54 : decode cX4_lineByWord 54 = .ok (.invokevirtual 114, 3) := by decide +kernel
theorem dX4_lineByWord_57 : decode cX4_lineByWord 57 = .ok (.ifCond .eq 6, 3) := by decide +kernel
theorem dX4_lineByWord_60 : decode cX4_lineByWord 60 = .ok (.bipush 7, 2) := by decide +kernel
theorem dX4_lineByWord_62 : decode cX4_lineByWord 62 = .ok (.ireturn, 1) := by decide +kernel
theorem dX4_lineByWord_63 : decode cX4_lineByWord 63 = .ok (.aload_n 0, 1) := by decide +kernel
theorem dX4_lineByWord_64 : decode cX4_lineByWord 64 = .ok (.getfield 40, 3) := by decide +kernel
theorem dX4_lineByWord_67 : decode cX4_lineByWord 67 = .ok (.ldc 122, 2) := by decide +kernel
theorem dX4_lineByWord_69 : decode cX4_lineByWord 69 = .ok (.invokevirtual 114, 3) := by decide +kernel
theorem dX4_lineByWord_72 : decode cX4_lineByWord 72 = .ok (.ifCond .eq 8, 3) := by decide +kernel
theorem dX4_lineByWord_75 : decode cX4_lineByWord 75 = .ok (.bipush 8, 2) := by decide +kernel
theorem dX4_lineByWord_77 : decode cX4_lineByWord 77 = .ok (.goto 4, 3) := by decide +kernel
theorem dX4_lineByWord_80 : decode cX4_lineByWord 80 = .ok (.iconst (-1), 1) := by decide +kernel
theorem dX4_lineByWord_81 : decode cX4_lineByWord 81 = .ok (.ireturn, 1) := by decide +kernel
theorem dX4_railLineByWord_0 : decode cX4_railLineByWord 0 = .ok (.aload_n 0, 1) := by decide +kernel
theorem dX4_railLineByWord_1 : decode cX4_railLineByWord 1 = .ok (.getfield 40, 3) := by decide +kernel
theorem dX4_railLineByWord_4 : decode cX4_railLineByWord 4 = .ok (.ldc 124, 2) := by decide +kernel
theorem dX4_railLineByWord_6 : decode cX4_railLineByWord 6 = .ok (.invokevirtual 114, 3) := by decide +kernel
theorem dX4_railLineByWord_9 : decode cX4_railLineByWord 9 = .ok (.ifCond .eq 5, 3) := by decide +kernel
theorem dX4_railLineByWord_12 : decode cX4_railLineByWord 12 = .ok (.iconst 0, 1) := by decide +kernel
theorem dX4_railLineByWord_13 : decode cX4_railLineByWord 13 = .ok (.ireturn, 1) := by decide +kernel
theorem dX4_railLineByWord_14 : decode cX4_railLineByWord 14 = .ok (.aload_n 0, 1) := by decide +kernel
theorem dX4_railLineByWord_15 : decode cX4_railLineByWord 15 = .ok (.getfield 40, 3) := by decide +kernel
theorem dX4_railLineByWord_18 : decode cX4_railLineByWord 18 = .ok (.ldc 126, 2) := by decide +kernel
theorem dX4_railLineByWord_20 : decode cX4_railLineByWord 20 = .ok (.invokevirtual 114, 3) := by decide +kernel
theorem dX4_railLineByWord_23 : decode cX4_railLineByWord 23 = .ok (.ifCond .eq 5, 3) := by decide +kernel
theorem dX4_railLineByWord_26 : decode cX4_railLineByWord 26 = .ok (.iconst 1, 1) := by decide +kernel
theorem dX4_railLineByWord_27 : decode cX4_railLineByWord 27 = .ok (.ireturn, 1) := by decide +kernel
theorem dX4_railLineByWord_28 : decode cX4_railLineByWord 28 = .ok (.aload_n 0, 1) := by decide +kernel
theorem dX4_railLineByWord_29 : decode cX4_railLineByWord 29 = .ok (.getfield 40, 3) := by decide +kernel
theorem dX4_railLineByWord_32 : decode cX4_railLineByWord 32 = .ok (.ldc 128, 2) := by decide +kernel
theorem dX4_railLineByWord_34 : decode cX4_railLineByWord 34 = .ok (.invokevirtual 114, 3) := by decide +kernel
theorem dX4_railLineByWord_37 : decode cX4_railLineByWord 37 = .ok (.ifCond .eq 5, 3) := by decide +kernel
theorem dX4_railLineByWord_40 : decode cX4_railLineByWord 40 = .ok (.iconst 2, 1) := by decide +kernel
theorem dX4_railLineByWord_41 : decode cX4_railLineByWord 41 = .ok (.ireturn, 1) := by decide +kernel
theorem dX4_railLineByWord_42 : decode cX4_railLineByWord 42 = .ok (.aload_n 0, 1) := by decide +kernel
theorem dX4_railLineByWord_43 : decode cX4_railLineByWord 43 = .ok (.getfield 40, 3) := by decide +kernel
theorem dX4_railLineByWord_46 : decode cX4_railLineByWord 46 = .ok (.ldc 130, 2) := by decide +kernel
theorem dX4_railLineByWord_48 : decode cX4_railLineByWord 48 = .ok (.invokevirtual 114, 3) := by decide +kernel
theorem dX4_railLineByWord_51 : decode cX4_railLineByWord 51 = .ok (.ifCond .eq 5, 3) := by decide +kernel
theorem dX4_railLineByWord_54 : decode cX4_railLineByWord 54 = .ok (.iconst 3, 1) := by decide +kernel
theorem dX4_railLineByWord_55 : decode cX4_railLineByWord 55 = .ok (.ireturn, 1) := by decide +kernel
theorem dX4_railLineByWord_56 : decode cX4_railLineByWord 56 = .ok (.aload_n 0, 1) := by decide +kernel
theorem dX4_railLineByWord_57 : decode cX4_railLineByWord 57 = .ok (.getfield 40, 3) := by decide +kernel
theorem dX4_railLineByWord_60 : decode cX4_railLineByWord 60 = .ok (.ldc 132, 2) := by decide +kernel
theorem dX4_railLineByWord_62 : decode cX4_railLineByWord 62 = .ok (.invokevirtual 114, 3) := by decide +kernel
theorem dX4_railLineByWord_65 : decode cX4_railLineByWord 65 = .ok (.ifCond .eq 5, 3) := by decide +kernel
theorem dX4_railLineByWord_68 : decode cX4_railLineByWord 68 = .ok (.iconst 4, 1) := by decide +kernel
theorem dX4_railLineByWord_69 : decode cX4_railLineByWord 69 = .ok (.ireturn, 1) := by decide +kernel
theorem dX4_railLineByWord_70 : decode cX4_railLineByWord 70 = .ok (.aload_n 0, 1) := by decide +kernel
theorem dX4_railLineByWord_71 : decode cX4_railLineByWord 71 = .ok (.getfield 40, 3) := by decide +kernel
theorem dX4_railLineByWord_74 : decode cX4_railLineByWord 74 = .ok (.ldc 134, 2) := by decide +kernel
theorem dX4_railLineByWord_76 : decode cX4_railLineByWord 76 = .ok (.invokevirtual 114, 3) := by decide +kernel
theorem dX4_railLineByWord_79 : decode cX4_railLineByWord 79 = .ok (.ifCond .eq 7, 3) := by decide +kernel
theorem dX4_railLineByWord_82 : decode cX4_railLineByWord 82 = .ok (.iconst 5, 1) := by decide +kernel
theorem dX4_railLineByWord_83 : decode cX4_railLineByWord 83 = .ok (.goto 4, 3) := by decide +kernel
theorem dX4_railLineByWord_86 : decode cX4_railLineByWord 86 = .ok (.iconst (-1), 1) := by decide +kernel
theorem dX4_railLineByWord_87 : decode cX4_railLineByWord 87 = .ok (.ireturn, 1) := by decide +kernel
theorem dX4_noTextGoesOn_0 : decode cX4_noTextGoesOn 0 = .ok (.aload_n 0, 1) := by decide +kernel
theorem dX4_noTextGoesOn_1 : decode cX4_noTextGoesOn 1 = .ok (.iconst 1, 1) := by decide +kernel
theorem dX4_noTextGoesOn_2 : decode cX4_noTextGoesOn 2 = .ok (.putfield 30, 3) := by decide +kernel
theorem dX4_noTextGoesOn_5 : decode cX4_noTextGoesOn 5 = .ok (.aload_n 0, 1) := by decide +kernel
theorem dX4_noTextGoesOn_6 : decode cX4_noTextGoesOn 6 = .ok (.aload_n 0, 1) := by decide +kernel
theorem dX4_noTextGoesOn_7 : decode cX4_noTextGoesOn 7 = .ok (.getfield 40, 3) := by decide +kernel
theorem dX4_noTextGoesOn_10 : decode cX4_noTextGoesOn 10 = .ok (.getfield 84, 3) := by decide +kernel
theorem dX4_noTextGoesOn_13 : decode cX4_noTextGoesOn 13 = .ok (.putfield 34, 3) := by decide +kernel
theorem dX4_noTextGoesOn_16 : decode cX4_noTextGoesOn 16 = .ok (.return_, 1) := by decide +kernel
theorem dX4_noteFault_0 : decode cX4_noteFault 0 = .ok (.aload_n 0, 1) := by decide +kernel
theorem dX4_noteFault_1 : decode cX4_noteFault 1 = .ok (.getfield 30, 3) := by decide +kernel
theorem dX4_noteFault_4 : decode cX4_noteFault 4 = .ok (.ifCond .ne 13, 3) := by decide +kernel
theorem dX4_noteFault_7 : decode cX4_noteFault 7 = .ok (.aload_n 0, 1) := by decide +kernel
theorem dX4_noteFault_8 : decode cX4_noteFault 8 = .ok (.iload_n 1, 1) := by decide +kernel
theorem dX4_noteFault_9 : decode cX4_noteFault 9 = .ok (.putfield 30, 3) := by decide +kernel
theorem dX4_noteFault_12 : decode cX4_noteFault 12 = .ok (.aload_n 0, 1) := by decide +kernel
theorem dX4_noteFault_13 : decode cX4_noteFault 13 = .ok (.iload_n 2, 1) := by decide +kernel
theorem dX4_noteFault_14 : decode cX4_noteFault 14 = .ok (.putfield 34, 3) := by decide +kernel
theorem dX4_noteFault_17 : decode cX4_noteFault 17 = .ok (.return_, 1) := by decide +kernel
theorem dX4_room_0 : decode cX4_room 0 = .ok (.iload_n 1, 1) := by decide +kernel
theorem dX4_room_1 : decode cX4_room 1 = .ok (.tableswitch 110 0 9 #[55, 57, 68, 79, 81, 92, 110, 110, 110, 102], 55) := by decide +kernel
theorem dX4_room_56 : decode cX4_room 56 = .ok (.iconst 1, 1) := by decide +kernel
theorem dX4_room_57 : decode cX4_room 57 = .ok (.ireturn, 1) := by decide +kernel
theorem dX4_room_58 : decode cX4_room 58 = .ok (.bipush 12, 2) := by decide +kernel
theorem dX4_room_60 : decode cX4_room 60 = .ok (.aload_n 0, 1) := by decide +kernel
theorem dX4_room_61 : decode cX4_room 61 = .ok (.getfield 12, 3) := by decide +kernel
theorem dX4_room_64 : decode cX4_room 64 = .ok (.getfield 136, 3) := by decide +kernel
theorem dX4_room_67 : decode cX4_room 67 = .ok (.isub, 1) := by decide +kernel
theorem dX4_room_68 : decode cX4_room 68 = .ok (.ireturn, 1) := by decide +kernel
theorem dX4_room_69 : decode cX4_room 69 = .ok (.bipush 8, 2) := by decide +kernel
theorem dX4_room_71 : decode cX4_room 71 = .ok (.aload_n 0, 1) := by decide +kernel
theorem dX4_room_72 : decode cX4_room 72 = .ok (.getfield 12, 3) := by decide +kernel
theorem dX4_room_75 : decode cX4_room 75 = .ok (.getfield 139, 3) := by decide +kernel
theorem dX4_room_78 : decode cX4_room 78 = .ok (.isub, 1) := by decide +kernel
theorem dX4_room_79 : decode cX4_room 79 = .ok (.ireturn, 1) := by decide +kernel
theorem dX4_room_80 : decode cX4_room 80 = .ok (.iconst 1, 1) := by decide +kernel
theorem dX4_room_81 : decode cX4_room 81 = .ok (.ireturn, 1) := by decide +kernel
theorem dX4_room_82 : decode cX4_room 82 = .ok (.bipush 6, 2) := by decide +kernel
theorem dX4_room_84 : decode cX4_room 84 = .ok (.aload_n 0, 1) := by decide +kernel
theorem dX4_room_85 : decode cX4_room 85 = .ok (.getfield 12, 3) := by decide +kernel
theorem dX4_room_88 : decode cX4_room 88 = .ok (.getfield 142, 3) := by decide +kernel
theorem dX4_room_91 : decode cX4_room 91 = .ok (.isub, 1) := by decide +kernel
theorem dX4_room_92 : decode cX4_room 92 = .ok (.ireturn, 1) := by decide +kernel
theorem dX4_room_93 : decode cX4_room 93 = .ok (.iconst 4, 1) := by decide +kernel
theorem dX4_room_94 : decode cX4_room 94 = .ok (.aload_n 0, 1) := by decide +kernel
theorem dX4_room_95 : decode cX4_room 95 = .ok (.getfield 12, 3) := by decide +kernel
theorem dX4_room_98 : decode cX4_room 98 = .ok (.getfield 145, 3) := by decide +kernel
theorem dX4_room_101 : decode cX4_room 101 = .ok (.isub, 1) := by decide +kernel
theorem dX4_room_102 : decode cX4_room 102 = .ok (.ireturn, 1) := by decide +kernel
theorem dX4_room_103 : decode cX4_room 103 = .ok (.aload_n 0, 1) := by decide +kernel
theorem dX4_room_104 : decode cX4_room 104 = .ok (.getfield 27, 3) := by decide +kernel
theorem dX4_room_107 : decode cX4_room 107 = .ok (.invokevirtual 148, 3) := by decide +kernel
theorem dX4_room_110 : decode cX4_room 110 = .ok (.ireturn, 1) := by decide +kernel
theorem dX4_room_111 : decode cX4_room 111 = .ok (.aload_n 0, 1) := by decide +kernel
theorem dX4_room_112 : decode cX4_room 112 = .ok (.getfield 23, 3) := by decide +kernel
theorem dX4_room_115 : decode cX4_room 115 = .ok (.invokevirtual 148, 3) := by decide +kernel
theorem dX4_room_118 : decode cX4_room 118 = .ok (.ireturn, 1) := by decide +kernel
theorem dX4_checkNumbers_0 : decode cX4_checkNumbers 0 = .ok (.iload_n 1, 1) := by decide +kernel
theorem dX4_checkNumbers_1 : decode cX4_checkNumbers 1 = .ok (.iconst 1, 1) := by decide +kernel
theorem dX4_checkNumbers_2 : decode cX4_checkNumbers 2 = .ok (.if_icmp .eq 8, 3) := by decide +kernel
theorem dX4_checkNumbers_5 : decode cX4_checkNumbers 5 = .ok (.iload_n 1, 1) := by decide +kernel
theorem dX4_checkNumbers_6 : decode cX4_checkNumbers 6 = .ok (.iconst 4, 1) := by decide +kernel
theorem dX4_checkNumbers_7 : decode cX4_checkNumbers 7 = .ok (.if_icmp .ne 7, 3) := by decide +kernel
theorem dX4_checkNumbers_10 : decode cX4_checkNumbers 10 = .ok (.iconst 1, 1) := by decide +kernel
theorem dX4_checkNumbers_11 : decode cX4_checkNumbers 11 = .ok (.goto 4, 3) := by decide +kernel
theorem dX4_checkNumbers_14 : decode cX4_checkNumbers 14 = .ok (.iconst 0, 1) := by decide +kernel
theorem dX4_checkNumbers_15 : decode cX4_checkNumbers 15 = .ok (.istore_n 2, 1) := by decide +kernel
theorem dX4_checkNumbers_16 : decode cX4_checkNumbers 16 = .ok (.iconst 0, 1) := by decide +kernel
theorem dX4_checkNumbers_17 : decode cX4_checkNumbers 17 = .ok (.istore_n 3, 1) := by decide +kernel
theorem dX4_checkNumbers_18 : decode cX4_checkNumbers 18 = .ok (.iload_n 3, 1) := by decide +kernel
theorem dX4_checkNumbers_19 : decode cX4_checkNumbers 19 = .ok (.getstatic 90, 3) := by decide +kernel
theorem dX4_checkNumbers_22 : decode cX4_checkNumbers 22 = .ok (.iload_n 1, 1) := by decide +kernel
theorem dX4_checkNumbers_23 : decode cX4_checkNumbers 23 = .ok (.iaload, 1) := by decide +kernel
theorem dX4_checkNumbers_24 : decode cX4_checkNumbers 24 = .ok (.if_icmp .ge 88, 3) := by decide +kernel
theorem dX4_checkNumbers_27 : decode cX4_checkNumbers 27 = .ok (.aload_n 0, 1) := by decide +kernel
theorem dX4_checkNumbers_28 : decode cX4_checkNumbers 28 = .ok (.getfield 44, 3) := by decide +kernel
theorem dX4_checkNumbers_31 : decode cX4_checkNumbers 31 = .ok (.iload_n 3, 1) := by decide +kernel
theorem dX4_checkNumbers_32 : decode cX4_checkNumbers 32 = .ok (.iaload, 1) := by decide +kernel
theorem dX4_checkNumbers_33 : decode cX4_checkNumbers 33 = .ok (.istore 4, 2) := by decide +kernel
theorem dX4_checkNumbers_35 : decode cX4_checkNumbers 35 = .ok (.iload 4, 2) := by decide +kernel
theorem dX4_checkNumbers_37 : decode cX4_checkNumbers 37 = .ok (.getstatic 150, 3) := by decide +kernel
theorem dX4_checkNumbers_40 : decode cX4_checkNumbers 40 = .ok (.iload_n 1, 1) := by decide +kernel
theorem dX4_checkNumbers_41 : decode cX4_checkNumbers 41 = .ok (.iconst 4, 1) := by decide +kernel
theorem dX4_checkNumbers_42 : decode cX4_checkNumbers 42 = .ok (.imul, 1) := by decide +kernel
theorem dX4_checkNumbers_43 : decode cX4_checkNumbers 43 = .ok (.iload_n 3, 1) := by decide +kernel
theorem dX4_checkNumbers_44 : decode cX4_checkNumbers 44 = .ok (.iadd, 1) := by decide +kernel
theorem dX4_checkNumbers_45 : decode cX4_checkNumbers 45 = .ok (.iaload, 1) := by decide +kernel
theorem dX4_checkNumbers_46 : decode cX4_checkNumbers 46 = .ok (.if_icmp .lt 21, 3) := by decide +kernel
theorem dX4_checkNumbers_49 : decode cX4_checkNumbers 49 = .ok (.iload 4, 2) := by decide +kernel
theorem dX4_checkNumbers_51 : decode cX4_checkNumbers 51 = .ok (.getstatic 153, 3) := by decide +kernel
theorem dX4_checkNumbers_54 : decode cX4_checkNumbers 54 = .ok (.iload_n 1, 1) := by decide +kernel
theorem dX4_checkNumbers_55 : decode cX4_checkNumbers 55 = .ok (.iconst 4, 1) := by decide +kernel
theorem dX4_checkNumbers_56 : decode cX4_checkNumbers 56 = .ok (.imul, 1) := by decide +kernel
theorem dX4_checkNumbers_57 : decode cX4_checkNumbers 57 = .ok (.iload_n 3, 1) := by decide +kernel
theorem dX4_checkNumbers_58 : decode cX4_checkNumbers 58 = .ok (.iadd, 1) := by decide +kernel
theorem dX4_checkNumbers_59 : decode cX4_checkNumbers 59 = .ok (.iaload, 1) := by decide +kernel
theorem dX4_checkNumbers_60 : decode cX4_checkNumbers 60 = .ok (.if_icmp .gt 7, 3) := by decide +kernel
theorem dX4_checkNumbers_63 : decode cX4_checkNumbers 63 = .ok (.iconst 1, 1) := by decide +kernel
theorem dX4_checkNumbers_64 : decode cX4_checkNumbers 64 = .ok (.goto 4, 3) := by decide +kernel
theorem dX4_checkNumbers_67 : decode cX4_checkNumbers 67 = .ok (.iconst 0, 1) := by decide +kernel
theorem dX4_checkNumbers_68 : decode cX4_checkNumbers 68 = .ok (.istore 5, 2) := by decide +kernel
theorem dX4_checkNumbers_70 : decode cX4_checkNumbers 70 = .ok (.iload 5, 2) := by decide +kernel
theorem dX4_checkNumbers_72 : decode cX4_checkNumbers 72 = .ok (.ifCond .eq 23, 3) := by decide +kernel
theorem dX4_checkNumbers_75 : decode cX4_checkNumbers 75 = .ok (.iload_n 2, 1) := by decide +kernel
theorem dX4_checkNumbers_76 : decode cX4_checkNumbers 76 = .ok (.ifCond .eq 30, 3) := by decide +kernel
theorem dX4_checkNumbers_79 : decode cX4_checkNumbers 79 = .ok (.iload_n 3, 1) := by decide +kernel
theorem dX4_checkNumbers_80 : decode cX4_checkNumbers 80 = .ok (.iconst 1, 1) := by decide +kernel
theorem dX4_checkNumbers_81 : decode cX4_checkNumbers 81 = .ok (.if_icmp .ne 25, 3) := by decide +kernel
theorem dX4_checkNumbers_84 : decode cX4_checkNumbers 84 = .ok (.iload 4, 2) := by decide +kernel
theorem dX4_checkNumbers_86 : decode cX4_checkNumbers 86 = .ok (.aload_n 0, 1) := by decide +kernel
theorem dX4_checkNumbers_87 : decode cX4_checkNumbers 87 = .ok (.getfield 44, 3) := by decide +kernel
theorem dX4_checkNumbers_90 : decode cX4_checkNumbers 90 = .ok (.iconst 0, 1) := by decide +kernel
theorem dX4_checkNumbers_91 : decode cX4_checkNumbers 91 = .ok (.iaload, 1) := by decide +kernel
theorem dX4_checkNumbers_92 : decode cX4_checkNumbers 92 = .ok (.if_icmp .ne 14, 3) := by decide +kernel
theorem dX4_checkNumbers_95 : decode cX4_checkNumbers 95 = .ok (.aload_n 0, 1) := by decide +kernel
theorem dX4_checkNumbers_96 : decode cX4_checkNumbers 96 = .ok (.iconst 2, 1) := by decide +kernel
theorem dX4_checkNumbers_97 : decode cX4_checkNumbers 97 = .ok (.aload_n 0, 1) := by decide +kernel
theorem dX4_checkNumbers_98 : decode cX4_checkNumbers 98 = .ok (.getfield 48, 3) := by decide +kernel
theorem dX4_checkNumbers_101 : decode cX4_checkNumbers 101 = .ok (.iload_n 3, 1) := by decide +kernel
theorem dX4_checkNumbers_102 : decode cX4_checkNumbers 102 = .ok (.iaload, 1) := by decide +kernel
theorem dX4_checkNumbers_103 : decode cX4_checkNumbers 103 = .ok (.invokevirtual 99, 3) := by decide +kernel
theorem dX4_checkNumbers_106 : decode cX4_checkNumbers 106 = .ok (.iinc 3 1, 3) := by decide +kernel
theorem dX4_checkNumbers_109 : decode cX4_checkNumbers 109 = .ok (.goto (-91), 3) := by decide +kernel
theorem dX4_checkNumbers_112 : decode cX4_checkNumbers 112 = .ok (.return_, 1) := by decide +kernel
theorem dX4_keepLine_0 : decode cX4_keepLine 0 = .ok (.iload_n 1, 1) := by decide +kernel
theorem dX4_keepLine_1 : decode cX4_keepLine 1 = .ok (.tableswitch 113 0 9 #[55, 71, 78, 85, 92, 99, 113, 113, 113, 106], 55) := by decide +kernel
theorem dX4_keepLine_56 : decode cX4_keepLine 56 = .ok (.aload_n 0, 1) := by decide +kernel
theorem dX4_keepLine_57 : decode cX4_keepLine 57 = .ok (.getfield 12, 3) := by decide +kernel
theorem dX4_keepLine_60 : decode cX4_keepLine 60 = .ok (.aload_n 0, 1) := by decide +kernel
theorem dX4_keepLine_61 : decode cX4_keepLine 61 = .ok (.getfield 44, 3) := by decide +kernel
theorem dX4_keepLine_64 : decode cX4_keepLine 64 = .ok (.iconst 0, 1) := by decide +kernel
theorem dX4_keepLine_65 : decode cX4_keepLine 65 = .ok (.iaload, 1) := by decide +kernel
theorem dX4_keepLine_66 : decode cX4_keepLine 66 = .ok (.putfield 156, 3) := by decide +kernel
theorem dX4_keepLine_69 : decode cX4_keepLine 69 = .ok (.goto 53, 3) := by decide +kernel
theorem dX4_keepLine_72 : decode cX4_keepLine 72 = .ok (.aload_n 0, 1) := by decide +kernel
theorem dX4_keepLine_73 : decode cX4_keepLine 73 = .ok (.invokevirtual 158, 3) := by decide +kernel
theorem dX4_keepLine_76 : decode cX4_keepLine 76 = .ok (.goto 46, 3) := by decide +kernel
theorem dX4_keepLine_79 : decode cX4_keepLine 79 = .ok (.aload_n 0, 1) := by decide +kernel
theorem dX4_keepLine_80 : decode cX4_keepLine 80 = .ok (.invokevirtual 161, 3) := by decide +kernel
theorem dX4_keepLine_83 : decode cX4_keepLine 83 = .ok (.goto 39, 3) := by decide +kernel
theorem dX4_keepLine_86 : decode cX4_keepLine 86 = .ok (.aload_n 0, 1) := by decide +kernel
theorem dX4_keepLine_87 : decode cX4_keepLine 87 = .ok (.invokevirtual 164, 3) := by decide +kernel
theorem dX4_keepLine_90 : decode cX4_keepLine 90 = .ok (.goto 32, 3) := by decide +kernel
theorem dX4_keepLine_93 : decode cX4_keepLine 93 = .ok (.aload_n 0, 1) := by decide +kernel
theorem dX4_keepLine_94 : decode cX4_keepLine 94 = .ok (.invokevirtual 167, 3) := by decide +kernel
theorem dX4_keepLine_97 : decode cX4_keepLine 97 = .ok (.goto 25, 3) := by decide +kernel
theorem dX4_keepLine_100 : decode cX4_keepLine 100 = .ok (.aload_n 0, 1) := by decide +kernel
theorem dX4_keepLine_101 : decode cX4_keepLine 101 = .ok (.invokevirtual 170, 3) := by decide +kernel
theorem dX4_keepLine_104 : decode cX4_keepLine 104 = .ok (.goto 18, 3) := by decide +kernel
theorem dX4_keepLine_107 : decode cX4_keepLine 107 = .ok (.aload_n 0, 1) := by decide +kernel
theorem dX4_keepLine_108 : decode cX4_keepLine 108 = .ok (.invokevirtual 173, 3) := by decide +kernel
theorem dX4_keepLine_111 : decode cX4_keepLine 111 = .ok (.goto 11, 3) := by decide +kernel
theorem dX4_keepLine_114 : decode cX4_keepLine 114 = .ok (.aload_n 0, 1) := by decide +kernel
theorem dX4_keepLine_115 : decode cX4_keepLine 115 = .ok (.iload_n 1, 1) := by decide +kernel
theorem dX4_keepLine_116 : decode cX4_keepLine 116 = .ok (.bipush 6, 2) := by decide +kernel
theorem dX4_keepLine_118 : decode cX4_keepLine 118 = .ok (.isub, 1) := by decide +kernel
theorem dX4_keepLine_119 : decode cX4_keepLine 119 = .ok (.invokevirtual 176, 3) := by decide +kernel
theorem dX4_keepLine_122 : decode cX4_keepLine 122 = .ok (.return_, 1) := by decide +kernel
theorem dX4_keepTrain_0 : decode cX4_keepTrain 0 = .ok (.aload_n 0, 1) := by decide +kernel
theorem dX4_keepTrain_1 : decode cX4_keepTrain 1 = .ok (.getfield 12, 3) := by decide +kernel
theorem dX4_keepTrain_4 : decode cX4_keepTrain 4 = .ok (.getfield 179, 3) := by decide +kernel
theorem dX4_keepTrain_7 : decode cX4_keepTrain 7 = .ok (.aload_n 0, 1) := by decide +kernel
theorem dX4_keepTrain_8 : decode cX4_keepTrain 8 = .ok (.getfield 12, 3) := by decide +kernel
theorem dX4_keepTrain_11 : decode cX4_keepTrain 11 = .ok (.getfield 136, 3) := by decide +kernel
theorem dX4_keepTrain_14 : decode cX4_keepTrain 14 = .ok (.aload_n 0, 1) := by decide +kernel
theorem dX4_keepTrain_15 : decode cX4_keepTrain 15 = .ok (.getfield 44, 3) := by decide +kernel
theorem dX4_keepTrain_18 : decode cX4_keepTrain 18 = .ok (.iconst 0, 1) := by decide +kernel
theorem dX4_keepTrain_19 : decode cX4_keepTrain 19 = .ok (.iaload, 1) := by decide +kernel
theorem dX4_keepTrain_20 : decode cX4_keepTrain 20 = .ok (.iastore, 1) := by decide +kernel
theorem dX4_keepTrain_21 : decode cX4_keepTrain 21 = .ok (.aload_n 0, 1) := by decide +kernel
theorem dX4_keepTrain_22 : decode cX4_keepTrain 22 = .ok (.getfield 12, 3) := by decide +kernel
theorem dX4_keepTrain_25 : decode cX4_keepTrain 25 = .ok (.getfield 182, 3) := by decide +kernel
theorem dX4_keepTrain_28 : decode cX4_keepTrain 28 = .ok (.aload_n 0, 1) := by decide +kernel
theorem dX4_keepTrain_29 : decode cX4_keepTrain 29 = .ok (.getfield 12, 3) := by decide +kernel
theorem dX4_keepTrain_32 : decode cX4_keepTrain 32 = .ok (.getfield 136, 3) := by decide +kernel
theorem dX4_keepTrain_35 : decode cX4_keepTrain 35 = .ok (.aload_n 0, 1) := by decide +kernel
theorem dX4_keepTrain_36 : decode cX4_keepTrain 36 = .ok (.getfield 44, 3) := by decide +kernel
theorem dX4_keepTrain_39 : decode cX4_keepTrain 39 = .ok (.iconst 1, 1) := by decide +kernel
theorem dX4_keepTrain_40 : decode cX4_keepTrain 40 = .ok (.iaload, 1) := by decide +kernel
theorem dX4_keepTrain_41 : decode cX4_keepTrain 41 = .ok (.iastore, 1) := by decide +kernel
theorem dX4_keepTrain_42 : decode cX4_keepTrain 42 = .ok (.aload_n 0, 1) := by decide +kernel
theorem dX4_keepTrain_43 : decode cX4_keepTrain 43 = .ok (.getfield 12, 3) := by decide +kernel
theorem dX4_keepTrain_46 : decode cX4_keepTrain 46 = .ok (.getfield 185, 3) := by decide +kernel
theorem dX4_keepTrain_49 : decode cX4_keepTrain 49 = .ok (.aload_n 0, 1) := by decide +kernel
theorem dX4_keepTrain_50 : decode cX4_keepTrain 50 = .ok (.getfield 12, 3) := by decide +kernel
theorem dX4_keepTrain_53 : decode cX4_keepTrain 53 = .ok (.getfield 136, 3) := by decide +kernel
theorem dX4_keepTrain_56 : decode cX4_keepTrain 56 = .ok (.aload_n 0, 1) := by decide +kernel
theorem dX4_keepTrain_57 : decode cX4_keepTrain 57 = .ok (.getfield 44, 3) := by decide +kernel
theorem dX4_keepTrain_60 : decode cX4_keepTrain 60 = .ok (.iconst 2, 1) := by decide +kernel
theorem dX4_keepTrain_61 : decode cX4_keepTrain 61 = .ok (.iaload, 1) := by decide +kernel
theorem dX4_keepTrain_62 : decode cX4_keepTrain 62 = .ok (.iastore, 1) := by decide +kernel
theorem dX4_keepTrain_63 : decode cX4_keepTrain 63 = .ok (.aload_n 0, 1) := by decide +kernel
theorem dX4_keepTrain_64 : decode cX4_keepTrain 64 = .ok (.getfield 12, 3) := by decide +kernel
theorem dX4_keepTrain_67 : decode cX4_keepTrain 67 = .ok (.getfield 188, 3) := by decide +kernel
theorem dX4_keepTrain_70 : decode cX4_keepTrain 70 = .ok (.aload_n 0, 1) := by decide +kernel
theorem dX4_keepTrain_71 : decode cX4_keepTrain 71 = .ok (.getfield 12, 3) := by decide +kernel
theorem dX4_keepTrain_74 : decode cX4_keepTrain 74 = .ok (.getfield 136, 3) := by decide +kernel
theorem dX4_keepTrain_77 : decode cX4_keepTrain 77 = .ok (.aload_n 0, 1) := by decide +kernel
theorem dX4_keepTrain_78 : decode cX4_keepTrain 78 = .ok (.getfield 44, 3) := by decide +kernel
theorem dX4_keepTrain_81 : decode cX4_keepTrain 81 = .ok (.iconst 3, 1) := by decide +kernel
theorem dX4_keepTrain_82 : decode cX4_keepTrain 82 = .ok (.iaload, 1) := by decide +kernel
theorem dX4_keepTrain_83 : decode cX4_keepTrain 83 = .ok (.iastore, 1) := by decide +kernel
theorem dX4_keepTrain_84 : decode cX4_keepTrain 84 = .ok (.aload_n 0, 1) := by decide +kernel
theorem dX4_keepTrain_85 : decode cX4_keepTrain 85 = .ok (.getfield 12, 3) := by decide +kernel
theorem dX4_keepTrain_88 : decode cX4_keepTrain 88 = .ok (.dup, 1) := by decide +kernel
theorem dX4_keepTrain_89 : decode cX4_keepTrain 89 = .ok (.getfield 136, 3) := by decide +kernel
theorem dX4_keepTrain_92 : decode cX4_keepTrain 92 = .ok (.iconst 1, 1) := by decide +kernel
theorem dX4_keepTrain_93 : decode cX4_keepTrain 93 = .ok (.iadd, 1) := by decide +kernel
theorem dX4_keepTrain_94 : decode cX4_keepTrain 94 = .ok (.putfield 136, 3) := by decide +kernel
theorem dX4_keepTrain_97 : decode cX4_keepTrain 97 = .ok (.aload_n 0, 1) := by decide +kernel
theorem dX4_keepTrain_98 : decode cX4_keepTrain 98 = .ok (.aload_n 0, 1) := by decide +kernel
theorem dX4_keepTrain_99 : decode cX4_keepTrain 99 = .ok (.getfield 51, 3) := by decide +kernel
theorem dX4_keepTrain_102 : decode cX4_keepTrain 102 = .ok (.aload_n 0, 1) := by decide +kernel
theorem dX4_keepTrain_103 : decode cX4_keepTrain 103 = .ok (.getfield 44, 3) := by decide +kernel
theorem dX4_keepTrain_106 : decode cX4_keepTrain 106 = .ok (.iconst 0, 1) := by decide +kernel
theorem dX4_keepTrain_107 : decode cX4_keepTrain 107 = .ok (.iaload, 1) := by decide +kernel
theorem dX4_keepTrain_108 : decode cX4_keepTrain 108 = .ok (.aload_n 0, 1) := by decide +kernel
theorem dX4_keepTrain_109 : decode cX4_keepTrain 109 = .ok (.getfield 44, 3) := by decide +kernel
theorem dX4_keepTrain_112 : decode cX4_keepTrain 112 = .ok (.iconst 1, 1) := by decide +kernel
theorem dX4_keepTrain_113 : decode cX4_keepTrain 113 = .ok (.iaload, 1) := by decide +kernel
theorem dX4_keepTrain_114 : decode cX4_keepTrain 114 = .ok (.invokestatic 191, 3) := by decide +kernel
theorem dX4_keepTrain_117 : decode cX4_keepTrain 117 = .ok (.invokestatic 191, 3) := by decide +kernel
theorem dX4_keepTrain_120 : decode cX4_keepTrain 120 = .ok (.putfield 51, 3) := by decide +kernel
theorem dX4_keepTrain_123 : decode cX4_keepTrain 123 = .ok (.return_, 1) := by decide +kernel
theorem dX4_keepPermit_0 : decode cX4_keepPermit 0 = .ok (.aload_n 0, 1) := by decide +kernel
theorem dX4_keepPermit_1 : decode cX4_keepPermit 1 = .ok (.getfield 12, 3) := by decide +kernel
theorem dX4_keepPermit_4 : decode cX4_keepPermit 4 = .ok (.getfield 197, 3) := by decide +kernel
theorem dX4_keepPermit_7 : decode cX4_keepPermit 7 = .ok (.aload_n 0, 1) := by decide +kernel
theorem dX4_keepPermit_8 : decode cX4_keepPermit 8 = .ok (.getfield 12, 3) := by decide +kernel
theorem dX4_keepPermit_11 : decode cX4_keepPermit 11 = .ok (.getfield 139, 3) := by decide +kernel
theorem dX4_keepPermit_14 : decode cX4_keepPermit 14 = .ok (.aload_n 0, 1) := by decide +kernel
theorem dX4_keepPermit_15 : decode cX4_keepPermit 15 = .ok (.getfield 44, 3) := by decide +kernel
theorem dX4_keepPermit_18 : decode cX4_keepPermit 18 = .ok (.iconst 0, 1) := by decide +kernel
theorem dX4_keepPermit_19 : decode cX4_keepPermit 19 = .ok (.iaload, 1) := by decide +kernel
theorem dX4_keepPermit_20 : decode cX4_keepPermit 20 = .ok (.iastore, 1) := by decide +kernel
theorem dX4_keepPermit_21 : decode cX4_keepPermit 21 = .ok (.aload_n 0, 1) := by decide +kernel
theorem dX4_keepPermit_22 : decode cX4_keepPermit 22 = .ok (.getfield 12, 3) := by decide +kernel
theorem dX4_keepPermit_25 : decode cX4_keepPermit 25 = .ok (.dup, 1) := by decide +kernel
theorem dX4_keepPermit_26 : decode cX4_keepPermit 26 = .ok (.getfield 139, 3) := by decide +kernel
theorem dX4_keepPermit_29 : decode cX4_keepPermit 29 = .ok (.iconst 1, 1) := by decide +kernel
theorem dX4_keepPermit_30 : decode cX4_keepPermit 30 = .ok (.iadd, 1) := by decide +kernel
theorem dX4_keepPermit_31 : decode cX4_keepPermit 31 = .ok (.putfield 139, 3) := by decide +kernel
theorem dX4_keepPermit_34 : decode cX4_keepPermit 34 = .ok (.aload_n 0, 1) := by decide +kernel
theorem dX4_keepPermit_35 : decode cX4_keepPermit 35 = .ok (.aload_n 0, 1) := by decide +kernel
theorem dX4_keepPermit_36 : decode cX4_keepPermit 36 = .ok (.getfield 51, 3) := by decide +kernel
theorem dX4_keepPermit_39 : decode cX4_keepPermit 39 = .ok (.aload_n 0, 1) := by decide +kernel
theorem dX4_keepPermit_40 : decode cX4_keepPermit 40 = .ok (.getfield 44, 3) := by decide +kernel
theorem dX4_keepPermit_43 : decode cX4_keepPermit 43 = .ok (.iconst 0, 1) := by decide +kernel
theorem dX4_keepPermit_44 : decode cX4_keepPermit 44 = .ok (.iaload, 1) := by decide +kernel
theorem dX4_keepPermit_45 : decode cX4_keepPermit 45 = .ok (.invokestatic 191, 3) := by decide +kernel
theorem dX4_keepPermit_48 : decode cX4_keepPermit 48 = .ok (.putfield 51, 3) := by decide +kernel
theorem dX4_keepPermit_51 : decode cX4_keepPermit 51 = .ok (.return_, 1) := by decide +kernel
theorem dX4_keepNeed_0 : decode cX4_keepNeed 0 = .ok (.aload_n 0, 1) := by decide +kernel
theorem dX4_keepNeed_1 : decode cX4_keepNeed 1 = .ok (.getfield 12, 3) := by decide +kernel
theorem dX4_keepNeed_4 : decode cX4_keepNeed 4 = .ok (.getfield 199, 3) := by decide +kernel
theorem dX4_keepNeed_7 : decode cX4_keepNeed 7 = .ok (.aload_n 0, 1) := by decide +kernel
theorem dX4_keepNeed_8 : decode cX4_keepNeed 8 = .ok (.getfield 44, 3) := by decide +kernel
theorem dX4_keepNeed_11 : decode cX4_keepNeed 11 = .ok (.iconst 0, 1) := by decide +kernel
theorem dX4_keepNeed_12 : decode cX4_keepNeed 12 = .ok (.iaload, 1) := by decide +kernel
theorem dX4_keepNeed_13 : decode cX4_keepNeed 13 = .ok (.dup2, 1) := by decide +kernel
theorem dX4_keepNeed_14 : decode cX4_keepNeed 14 = .ok (.iaload, 1) := by decide +kernel
theorem dX4_keepNeed_15 : decode cX4_keepNeed 15 = .ok (.iconst 1, 1) := by decide +kernel
theorem dX4_keepNeed_16 : decode cX4_keepNeed 16 = .ok (.aload_n 0, 1) := by decide +kernel
theorem dX4_keepNeed_17 : decode cX4_keepNeed 17 = .ok (.getfield 44, 3) := by decide +kernel
theorem dX4_keepNeed_20 : decode cX4_keepNeed 20 = .ok (.iconst 1, 1) := by decide +kernel
theorem dX4_keepNeed_21 : decode cX4_keepNeed 21 = .ok (.iaload, 1) := by decide +kernel
theorem dX4_keepNeed_22 : decode cX4_keepNeed 22 = .ok (.ishl, 1) := by decide +kernel
theorem dX4_keepNeed_23 : decode cX4_keepNeed 23 = .ok (.ior, 1) := by decide +kernel
theorem dX4_keepNeed_24 : decode cX4_keepNeed 24 = .ok (.iastore, 1) := by decide +kernel
theorem dX4_keepNeed_25 : decode cX4_keepNeed 25 = .ok (.aload_n 0, 1) := by decide +kernel
theorem dX4_keepNeed_26 : decode cX4_keepNeed 26 = .ok (.aload_n 0, 1) := by decide +kernel
theorem dX4_keepNeed_27 : decode cX4_keepNeed 27 = .ok (.getfield 54, 3) := by decide +kernel
theorem dX4_keepNeed_30 : decode cX4_keepNeed 30 = .ok (.aload_n 0, 1) := by decide +kernel
theorem dX4_keepNeed_31 : decode cX4_keepNeed 31 = .ok (.getfield 44, 3) := by decide +kernel
theorem dX4_keepNeed_34 : decode cX4_keepNeed 34 = .ok (.iconst 0, 1) := by decide +kernel
theorem dX4_keepNeed_35 : decode cX4_keepNeed 35 = .ok (.iaload, 1) := by decide +kernel
theorem dX4_keepNeed_36 : decode cX4_keepNeed 36 = .ok (.invokestatic 191, 3) := by decide +kernel
theorem dX4_keepNeed_39 : decode cX4_keepNeed 39 = .ok (.putfield 54, 3) := by decide +kernel
theorem dX4_keepNeed_42 : decode cX4_keepNeed 42 = .ok (.aload_n 0, 1) := by decide +kernel
theorem dX4_keepNeed_43 : decode cX4_keepNeed 43 = .ok (.aload_n 0, 1) := by decide +kernel
theorem dX4_keepNeed_44 : decode cX4_keepNeed 44 = .ok (.getfield 51, 3) := by decide +kernel
theorem dX4_keepNeed_47 : decode cX4_keepNeed 47 = .ok (.aload_n 0, 1) := by decide +kernel
theorem dX4_keepNeed_48 : decode cX4_keepNeed 48 = .ok (.getfield 44, 3) := by decide +kernel
theorem dX4_keepNeed_51 : decode cX4_keepNeed 51 = .ok (.iconst 1, 1) := by decide +kernel
theorem dX4_keepNeed_52 : decode cX4_keepNeed 52 = .ok (.iaload, 1) := by decide +kernel
theorem dX4_keepNeed_53 : decode cX4_keepNeed 53 = .ok (.invokestatic 191, 3) := by decide +kernel
theorem dX4_keepNeed_56 : decode cX4_keepNeed 56 = .ok (.putfield 51, 3) := by decide +kernel
theorem dX4_keepNeed_59 : decode cX4_keepNeed 59 = .ok (.return_, 1) := by decide +kernel
theorem dX4_keepLaw_0 : decode cX4_keepLaw 0 = .ok (.aload_n 0, 1) := by decide +kernel
theorem dX4_keepLaw_1 : decode cX4_keepLaw 1 = .ok (.getfield 12, 3) := by decide +kernel
theorem dX4_keepLaw_4 : decode cX4_keepLaw 4 = .ok (.getfield 201, 3) := by decide +kernel
theorem dX4_keepLaw_7 : decode cX4_keepLaw 7 = .ok (.aload_n 0, 1) := by decide +kernel
theorem dX4_keepLaw_8 : decode cX4_keepLaw 8 = .ok (.getfield 12, 3) := by decide +kernel
theorem dX4_keepLaw_11 : decode cX4_keepLaw 11 = .ok (.getfield 142, 3) := by decide +kernel
theorem dX4_keepLaw_14 : decode cX4_keepLaw 14 = .ok (.aload_n 0, 1) := by decide +kernel
theorem dX4_keepLaw_15 : decode cX4_keepLaw 15 = .ok (.getfield 44, 3) := by decide +kernel
theorem dX4_keepLaw_18 : decode cX4_keepLaw 18 = .ok (.iconst 0, 1) := by decide +kernel
theorem dX4_keepLaw_19 : decode cX4_keepLaw 19 = .ok (.iaload, 1) := by decide +kernel
theorem dX4_keepLaw_20 : decode cX4_keepLaw 20 = .ok (.iastore, 1) := by decide +kernel
theorem dX4_keepLaw_21 : decode cX4_keepLaw 21 = .ok (.aload_n 0, 1) := by decide +kernel
theorem dX4_keepLaw_22 : decode cX4_keepLaw 22 = .ok (.getfield 12, 3) := by decide +kernel
theorem dX4_keepLaw_25 : decode cX4_keepLaw 25 = .ok (.getfield 204, 3) := by decide +kernel
theorem dX4_keepLaw_28 : decode cX4_keepLaw 28 = .ok (.aload_n 0, 1) := by decide +kernel
theorem dX4_keepLaw_29 : decode cX4_keepLaw 29 = .ok (.getfield 12, 3) := by decide +kernel
theorem dX4_keepLaw_32 : decode cX4_keepLaw 32 = .ok (.getfield 142, 3) := by decide +kernel
theorem dX4_keepLaw_35 : decode cX4_keepLaw 35 = .ok (.aload_n 0, 1) := by decide +kernel
theorem dX4_keepLaw_36 : decode cX4_keepLaw 36 = .ok (.getfield 44, 3) := by decide +kernel
theorem dX4_keepLaw_39 : decode cX4_keepLaw 39 = .ok (.iconst 1, 1) := by decide +kernel
theorem dX4_keepLaw_40 : decode cX4_keepLaw 40 = .ok (.iaload, 1) := by decide +kernel
theorem dX4_keepLaw_41 : decode cX4_keepLaw 41 = .ok (.iastore, 1) := by decide +kernel
theorem dX4_keepLaw_42 : decode cX4_keepLaw 42 = .ok (.aload_n 0, 1) := by decide +kernel
theorem dX4_keepLaw_43 : decode cX4_keepLaw 43 = .ok (.getfield 12, 3) := by decide +kernel
theorem dX4_keepLaw_46 : decode cX4_keepLaw 46 = .ok (.dup, 1) := by decide +kernel
theorem dX4_keepLaw_47 : decode cX4_keepLaw 47 = .ok (.getfield 142, 3) := by decide +kernel
theorem dX4_keepLaw_50 : decode cX4_keepLaw 50 = .ok (.iconst 1, 1) := by decide +kernel
theorem dX4_keepLaw_51 : decode cX4_keepLaw 51 = .ok (.iadd, 1) := by decide +kernel
theorem dX4_keepLaw_52 : decode cX4_keepLaw 52 = .ok (.putfield 142, 3) := by decide +kernel
theorem dX4_keepLaw_55 : decode cX4_keepLaw 55 = .ok (.aload_n 0, 1) := by decide +kernel
theorem dX4_keepLaw_56 : decode cX4_keepLaw 56 = .ok (.aload_n 0, 1) := by decide +kernel
theorem dX4_keepLaw_57 : decode cX4_keepLaw 57 = .ok (.getfield 51, 3) := by decide +kernel
theorem dX4_keepLaw_60 : decode cX4_keepLaw 60 = .ok (.aload_n 0, 1) := by decide +kernel
theorem dX4_keepLaw_61 : decode cX4_keepLaw 61 = .ok (.getfield 44, 3) := by decide +kernel
theorem dX4_keepLaw_64 : decode cX4_keepLaw 64 = .ok (.iconst 0, 1) := by decide +kernel
theorem dX4_keepLaw_65 : decode cX4_keepLaw 65 = .ok (.iaload, 1) := by decide +kernel
theorem dX4_keepLaw_66 : decode cX4_keepLaw 66 = .ok (.aload_n 0, 1) := by decide +kernel
theorem dX4_keepLaw_67 : decode cX4_keepLaw 67 = .ok (.getfield 44, 3) := by decide +kernel
theorem dX4_keepLaw_70 : decode cX4_keepLaw 70 = .ok (.iconst 1, 1) := by decide +kernel
theorem dX4_keepLaw_71 : decode cX4_keepLaw 71 = .ok (.iaload, 1) := by decide +kernel
theorem dX4_keepLaw_72 : decode cX4_keepLaw 72 = .ok (.invokestatic 191, 3) := by decide +kernel
theorem dX4_keepLaw_75 : decode cX4_keepLaw 75 = .ok (.invokestatic 191, 3) := by decide +kernel
theorem dX4_keepLaw_78 : decode cX4_keepLaw 78 = .ok (.putfield 51, 3) := by decide +kernel
theorem dX4_keepLaw_81 : decode cX4_keepLaw 81 = .ok (.return_, 1) := by decide +kernel
theorem dX4_keepClerk_0 : decode cX4_keepClerk 0 = .ok (.aload_n 0, 1) := by decide +kernel
theorem dX4_keepClerk_1 : decode cX4_keepClerk 1 = .ok (.getfield 12, 3) := by decide +kernel
theorem dX4_keepClerk_4 : decode cX4_keepClerk 4 = .ok (.getfield 207, 3) := by decide +kernel
theorem dX4_keepClerk_7 : decode cX4_keepClerk 7 = .ok (.aload_n 0, 1) := by decide +kernel
theorem dX4_keepClerk_8 : decode cX4_keepClerk 8 = .ok (.getfield 12, 3) := by decide +kernel
theorem dX4_keepClerk_11 : decode cX4_keepClerk 11 = .ok (.getfield 145, 3) := by decide +kernel
theorem dX4_keepClerk_14 : decode cX4_keepClerk 14 = .ok (.aload_n 0, 1) := by decide +kernel
theorem dX4_keepClerk_15 : decode cX4_keepClerk 15 = .ok (.getfield 44, 3) := by decide +kernel
theorem dX4_keepClerk_18 : decode cX4_keepClerk 18 = .ok (.iconst 0, 1) := by decide +kernel
theorem dX4_keepClerk_19 : decode cX4_keepClerk 19 = .ok (.iaload, 1) := by decide +kernel
theorem dX4_keepClerk_20 : decode cX4_keepClerk 20 = .ok (.iastore, 1) := by decide +kernel
theorem dX4_keepClerk_21 : decode cX4_keepClerk 21 = .ok (.aload_n 0, 1) := by decide +kernel
theorem dX4_keepClerk_22 : decode cX4_keepClerk 22 = .ok (.getfield 12, 3) := by decide +kernel
theorem dX4_keepClerk_25 : decode cX4_keepClerk 25 = .ok (.getfield 210, 3) := by decide +kernel
theorem dX4_keepClerk_28 : decode cX4_keepClerk 28 = .ok (.aload_n 0, 1) := by decide +kernel
theorem dX4_keepClerk_29 : decode cX4_keepClerk 29 = .ok (.getfield 12, 3) := by decide +kernel
theorem dX4_keepClerk_32 : decode cX4_keepClerk 32 = .ok (.getfield 145, 3) := by decide +kernel
theorem dX4_keepClerk_35 : decode cX4_keepClerk 35 = .ok (.aload_n 0, 1) := by decide +kernel
theorem dX4_keepClerk_36 : decode cX4_keepClerk 36 = .ok (.getfield 44, 3) := by decide +kernel
theorem dX4_keepClerk_39 : decode cX4_keepClerk 39 = .ok (.iconst 1, 1) := by decide +kernel
theorem dX4_keepClerk_40 : decode cX4_keepClerk 40 = .ok (.iaload, 1) := by decide +kernel
theorem dX4_keepClerk_41 : decode cX4_keepClerk 41 = .ok (.iastore, 1) := by decide +kernel
theorem dX4_keepClerk_42 : decode cX4_keepClerk 42 = .ok (.aload_n 0, 1) := by decide +kernel
theorem dX4_keepClerk_43 : decode cX4_keepClerk 43 = .ok (.getfield 12, 3) := by decide +kernel
theorem dX4_keepClerk_46 : decode cX4_keepClerk 46 = .ok (.dup, 1) := by decide +kernel
theorem dX4_keepClerk_47 : decode cX4_keepClerk 47 = .ok (.getfield 145, 3) := by decide +kernel
theorem dX4_keepClerk_50 : decode cX4_keepClerk 50 = .ok (.iconst 1, 1) := by decide +kernel
theorem dX4_keepClerk_51 : decode cX4_keepClerk 51 = .ok (.iadd, 1) := by decide +kernel
theorem dX4_keepClerk_52 : decode cX4_keepClerk 52 = .ok (.putfield 145, 3) := by decide +kernel
theorem dX4_keepClerk_55 : decode cX4_keepClerk 55 = .ok (.aload_n 0, 1) := by decide +kernel
theorem dX4_keepClerk_56 : decode cX4_keepClerk 56 = .ok (.aload_n 0, 1) := by decide +kernel
theorem dX4_keepClerk_57 : decode cX4_keepClerk 57 = .ok (.getfield 51, 3) := by decide +kernel
theorem dX4_keepClerk_60 : decode cX4_keepClerk 60 = .ok (.aload_n 0, 1) := by decide +kernel
theorem dX4_keepClerk_61 : decode cX4_keepClerk 61 = .ok (.getfield 44, 3) := by decide +kernel
theorem dX4_keepClerk_64 : decode cX4_keepClerk 64 = .ok (.iconst 0, 1) := by decide +kernel
theorem dX4_keepClerk_65 : decode cX4_keepClerk 65 = .ok (.iaload, 1) := by decide +kernel
theorem dX4_keepClerk_66 : decode cX4_keepClerk 66 = .ok (.aload_n 0, 1) := by decide +kernel
theorem dX4_keepClerk_67 : decode cX4_keepClerk 67 = .ok (.getfield 44, 3) := by decide +kernel
theorem dX4_keepClerk_70 : decode cX4_keepClerk 70 = .ok (.iconst 1, 1) := by decide +kernel
theorem dX4_keepClerk_71 : decode cX4_keepClerk 71 = .ok (.iaload, 1) := by decide +kernel
theorem dX4_keepClerk_72 : decode cX4_keepClerk 72 = .ok (.invokestatic 191, 3) := by decide +kernel
theorem dX4_keepClerk_75 : decode cX4_keepClerk 75 = .ok (.invokestatic 191, 3) := by decide +kernel
theorem dX4_keepClerk_78 : decode cX4_keepClerk 78 = .ok (.putfield 51, 3) := by decide +kernel
theorem dX4_keepClerk_81 : decode cX4_keepClerk 81 = .ok (.return_, 1) := by decide +kernel
theorem dX4_keepDeed_0 : decode cX4_keepDeed 0 = .ok (.aload_n 0, 1) := by decide +kernel
theorem dX4_keepDeed_1 : decode cX4_keepDeed 1 = .ok (.getfield 23, 3) := by decide +kernel
theorem dX4_keepDeed_4 : decode cX4_keepDeed 4 = .ok (.aload_n 0, 1) := by decide +kernel
theorem dX4_keepDeed_5 : decode cX4_keepDeed 5 = .ok (.getfield 23, 3) := by decide +kernel
theorem dX4_keepDeed_8 : decode cX4_keepDeed 8 = .ok (.getfield 60, 3) := by decide +kernel
theorem dX4_keepDeed_11 : decode cX4_keepDeed 11 = .ok (.iconst 0, 1) := by decide +kernel
theorem dX4_keepDeed_12 : decode cX4_keepDeed 12 = .ok (.iload_n 1, 1) := by decide +kernel
theorem dX4_keepDeed_13 : decode cX4_keepDeed 13 = .ok (.invokevirtual 213, 3) := by decide +kernel
theorem dX4_keepDeed_16 : decode cX4_keepDeed 16 = .ok (.aload_n 0, 1) := by decide +kernel
theorem dX4_keepDeed_17 : decode cX4_keepDeed 17 = .ok (.getfield 23, 3) := by decide +kernel
theorem dX4_keepDeed_20 : decode cX4_keepDeed 20 = .ok (.aload_n 0, 1) := by decide +kernel
theorem dX4_keepDeed_21 : decode cX4_keepDeed 21 = .ok (.getfield 23, 3) := by decide +kernel
theorem dX4_keepDeed_24 : decode cX4_keepDeed 24 = .ok (.getfield 60, 3) := by decide +kernel
theorem dX4_keepDeed_27 : decode cX4_keepDeed 27 = .ok (.iconst 1, 1) := by decide +kernel
theorem dX4_keepDeed_28 : decode cX4_keepDeed 28 = .ok (.aload_n 0, 1) := by decide +kernel
theorem dX4_keepDeed_29 : decode cX4_keepDeed 29 = .ok (.getfield 44, 3) := by decide +kernel
theorem dX4_keepDeed_32 : decode cX4_keepDeed 32 = .ok (.iconst 0, 1) := by decide +kernel
theorem dX4_keepDeed_33 : decode cX4_keepDeed 33 = .ok (.iaload, 1) := by decide +kernel
theorem dX4_keepDeed_34 : decode cX4_keepDeed 34 = .ok (.invokevirtual 213, 3) := by decide +kernel
theorem dX4_keepDeed_37 : decode cX4_keepDeed 37 = .ok (.aload_n 0, 1) := by decide +kernel
theorem dX4_keepDeed_38 : decode cX4_keepDeed 38 = .ok (.getfield 23, 3) := by decide +kernel
theorem dX4_keepDeed_41 : decode cX4_keepDeed 41 = .ok (.aload_n 0, 1) := by decide +kernel
theorem dX4_keepDeed_42 : decode cX4_keepDeed 42 = .ok (.getfield 23, 3) := by decide +kernel
theorem dX4_keepDeed_45 : decode cX4_keepDeed 45 = .ok (.getfield 60, 3) := by decide +kernel
theorem dX4_keepDeed_48 : decode cX4_keepDeed 48 = .ok (.iconst 2, 1) := by decide +kernel
theorem dX4_keepDeed_49 : decode cX4_keepDeed 49 = .ok (.aload_n 0, 1) := by decide +kernel
theorem dX4_keepDeed_50 : decode cX4_keepDeed 50 = .ok (.getfield 44, 3) := by decide +kernel
theorem dX4_keepDeed_53 : decode cX4_keepDeed 53 = .ok (.iconst 1, 1) := by decide +kernel
theorem dX4_keepDeed_54 : decode cX4_keepDeed 54 = .ok (.iaload, 1) := by decide +kernel
theorem dX4_keepDeed_55 : decode cX4_keepDeed 55 = .ok (.invokevirtual 213, 3) := by decide +kernel
theorem dX4_keepDeed_58 : decode cX4_keepDeed 58 = .ok (.aload_n 0, 1) := by decide +kernel
theorem dX4_keepDeed_59 : decode cX4_keepDeed 59 = .ok (.getfield 23, 3) := by decide +kernel
theorem dX4_keepDeed_62 : decode cX4_keepDeed 62 = .ok (.dup, 1) := by decide +kernel
theorem dX4_keepDeed_63 : decode cX4_keepDeed 63 = .ok (.getfield 60, 3) := by decide +kernel
theorem dX4_keepDeed_66 : decode cX4_keepDeed 66 = .ok (.iconst 1, 1) := by decide +kernel
theorem dX4_keepDeed_67 : decode cX4_keepDeed 67 = .ok (.iadd, 1) := by decide +kernel
theorem dX4_keepDeed_68 : decode cX4_keepDeed 68 = .ok (.putfield 60, 3) := by decide +kernel
theorem dX4_keepDeed_71 : decode cX4_keepDeed 71 = .ok (.return_, 1) := by decide +kernel
theorem dX4_keepSight_0 : decode cX4_keepSight 0 = .ok (.aload_n 0, 1) := by decide +kernel
theorem dX4_keepSight_1 : decode cX4_keepSight 1 = .ok (.getfield 27, 3) := by decide +kernel
theorem dX4_keepSight_4 : decode cX4_keepSight 4 = .ok (.aload_n 0, 1) := by decide +kernel
theorem dX4_keepSight_5 : decode cX4_keepSight 5 = .ok (.getfield 27, 3) := by decide +kernel
theorem dX4_keepSight_8 : decode cX4_keepSight 8 = .ok (.getfield 60, 3) := by decide +kernel
theorem dX4_keepSight_11 : decode cX4_keepSight 11 = .ok (.iconst 0, 1) := by decide +kernel
theorem dX4_keepSight_12 : decode cX4_keepSight 12 = .ok (.aload_n 0, 1) := by decide +kernel
theorem dX4_keepSight_13 : decode cX4_keepSight 13 = .ok (.getfield 44, 3) := by decide +kernel
theorem dX4_keepSight_16 : decode cX4_keepSight 16 = .ok (.iconst 0, 1) := by decide +kernel
theorem dX4_keepSight_17 : decode cX4_keepSight 17 = .ok (.iaload, 1) := by decide +kernel
theorem dX4_keepSight_18 : decode cX4_keepSight 18 = .ok (.invokevirtual 213, 3) := by decide +kernel
theorem dX4_keepSight_21 : decode cX4_keepSight 21 = .ok (.aload_n 0, 1) := by decide +kernel
theorem dX4_keepSight_22 : decode cX4_keepSight 22 = .ok (.getfield 27, 3) := by decide +kernel
theorem dX4_keepSight_25 : decode cX4_keepSight 25 = .ok (.aload_n 0, 1) := by decide +kernel
theorem dX4_keepSight_26 : decode cX4_keepSight 26 = .ok (.getfield 27, 3) := by decide +kernel
theorem dX4_keepSight_29 : decode cX4_keepSight 29 = .ok (.getfield 60, 3) := by decide +kernel
theorem dX4_keepSight_32 : decode cX4_keepSight 32 = .ok (.iconst 1, 1) := by decide +kernel
theorem dX4_keepSight_33 : decode cX4_keepSight 33 = .ok (.aload_n 0, 1) := by decide +kernel
theorem dX4_keepSight_34 : decode cX4_keepSight 34 = .ok (.getfield 44, 3) := by decide +kernel
theorem dX4_keepSight_37 : decode cX4_keepSight 37 = .ok (.iconst 1, 1) := by decide +kernel
theorem dX4_keepSight_38 : decode cX4_keepSight 38 = .ok (.iaload, 1) := by decide +kernel
theorem dX4_keepSight_39 : decode cX4_keepSight 39 = .ok (.invokevirtual 213, 3) := by decide +kernel
theorem dX4_keepSight_42 : decode cX4_keepSight 42 = .ok (.aload_n 0, 1) := by decide +kernel
theorem dX4_keepSight_43 : decode cX4_keepSight 43 = .ok (.getfield 27, 3) := by decide +kernel
theorem dX4_keepSight_46 : decode cX4_keepSight 46 = .ok (.dup, 1) := by decide +kernel
theorem dX4_keepSight_47 : decode cX4_keepSight 47 = .ok (.getfield 60, 3) := by decide +kernel
theorem dX4_keepSight_50 : decode cX4_keepSight 50 = .ok (.iconst 1, 1) := by decide +kernel
theorem dX4_keepSight_51 : decode cX4_keepSight 51 = .ok (.iadd, 1) := by decide +kernel
theorem dX4_keepSight_52 : decode cX4_keepSight 52 = .ok (.putfield 60, 3) := by decide +kernel
theorem dX4_keepSight_55 : decode cX4_keepSight 55 = .ok (.return_, 1) := by decide +kernel
theorem dX4_checkRail_0 : decode cX4_checkRail 0 = .ok (.aload_n 0, 1) := by decide +kernel
theorem dX4_checkRail_1 : decode cX4_checkRail 1 = .ok (.getfield 51, 3) := by decide +kernel
theorem dX4_checkRail_4 : decode cX4_checkRail 4 = .ok (.aload_n 0, 1) := by decide +kernel
theorem dX4_checkRail_5 : decode cX4_checkRail 5 = .ok (.getfield 12, 3) := by decide +kernel
theorem dX4_checkRail_8 : decode cX4_checkRail 8 = .ok (.getfield 156, 3) := by decide +kernel
theorem dX4_checkRail_11 : decode cX4_checkRail 11 = .ok (.if_icmp .ge 17, 3) := by decide +kernel
theorem dX4_checkRail_14 : decode cX4_checkRail 14 = .ok (.aload_n 0, 1) := by decide +kernel
theorem dX4_checkRail_15 : decode cX4_checkRail 15 = .ok (.getfield 54, 3) := by decide +kernel
theorem dX4_checkRail_18 : decode cX4_checkRail 18 = .ok (.aload_n 0, 1) := by decide +kernel
theorem dX4_checkRail_19 : decode cX4_checkRail 19 = .ok (.getfield 12, 3) := by decide +kernel
theorem dX4_checkRail_22 : decode cX4_checkRail 22 = .ok (.getfield 139, 3) := by decide +kernel
theorem dX4_checkRail_25 : decode cX4_checkRail 25 = .ok (.if_icmp .lt 9, 3) := by decide +kernel
theorem dX4_checkRail_28 : decode cX4_checkRail 28 = .ok (.aload_n 0, 1) := by decide +kernel
theorem dX4_checkRail_29 : decode cX4_checkRail 29 = .ok (.iconst 4, 1) := by decide +kernel
theorem dX4_checkRail_30 : decode cX4_checkRail 30 = .ok (.iload_n 1, 1) := by decide +kernel
theorem dX4_checkRail_31 : decode cX4_checkRail 31 = .ok (.invokevirtual 99, 3) := by decide +kernel
theorem dX4_checkRail_34 : decode cX4_checkRail 34 = .ok (.iconst 0, 1) := by decide +kernel
theorem dX4_checkRail_35 : decode cX4_checkRail 35 = .ok (.istore_n 2, 1) := by decide +kernel
theorem dX4_checkRail_36 : decode cX4_checkRail 36 = .ok (.iload_n 2, 1) := by decide +kernel
theorem dX4_checkRail_37 : decode cX4_checkRail 37 = .ok (.aload_n 0, 1) := by decide +kernel
theorem dX4_checkRail_38 : decode cX4_checkRail 38 = .ok (.getfield 12, 3) := by decide +kernel
theorem dX4_checkRail_41 : decode cX4_checkRail 41 = .ok (.getfield 139, 3) := by decide +kernel
theorem dX4_checkRail_44 : decode cX4_checkRail 44 = .ok (.if_icmp .ge 39, 3) := by decide +kernel
theorem dX4_checkRail_47 : decode cX4_checkRail 47 = .ok (.aload_n 0, 1) := by decide +kernel
theorem dX4_checkRail_48 : decode cX4_checkRail 48 = .ok (.getfield 12, 3) := by decide +kernel
theorem dX4_checkRail_51 : decode cX4_checkRail 51 = .ok (.getfield 199, 3) := by decide +kernel
theorem dX4_checkRail_54 : decode cX4_checkRail 54 = .ok (.iload_n 2, 1) := by decide +kernel
theorem dX4_checkRail_55 : decode cX4_checkRail 55 = .ok (.iaload, 1) := by decide +kernel
theorem dX4_checkRail_56 : decode cX4_checkRail 56 = .ok (.aload_n 0, 1) := by decide +kernel
theorem dX4_checkRail_57 : decode cX4_checkRail 57 = .ok (.getfield 12, 3) := by decide +kernel
theorem dX4_checkRail_60 : decode cX4_checkRail 60 = .ok (.getfield 197, 3) := by decide +kernel
theorem dX4_checkRail_63 : decode cX4_checkRail 63 = .ok (.iload_n 2, 1) := by decide +kernel
theorem dX4_checkRail_64 : decode cX4_checkRail 64 = .ok (.iaload, 1) := by decide +kernel
theorem dX4_checkRail_65 : decode cX4_checkRail 65 = .ok (.invokestatic 217, 3) := by decide +kernel
theorem dX4_checkRail_68 : decode cX4_checkRail 68 = .ok (.ifCond .eq 9, 3) := by decide +kernel
theorem dX4_checkRail_71 : decode cX4_checkRail 71 = .ok (.aload_n 0, 1) := by decide +kernel
theorem dX4_checkRail_72 : decode cX4_checkRail 72 = .ok (.iconst 5, 1) := by decide +kernel
theorem dX4_checkRail_73 : decode cX4_checkRail 73 = .ok (.iload_n 1, 1) := by decide +kernel
theorem dX4_checkRail_74 : decode cX4_checkRail 74 = .ok (.invokevirtual 99, 3) := by decide +kernel
theorem dX4_checkRail_77 : decode cX4_checkRail 77 = .ok (.iinc 2 1, 3) := by decide +kernel
theorem dX4_checkRail_80 : decode cX4_checkRail 80 = .ok (.goto (-44), 3) := by decide +kernel
theorem dX4_checkRail_83 : decode cX4_checkRail 83 = .ok (.return_, 1) := by decide +kernel
theorem dX5_init_0 : decode cX5_init 0 = .ok (.aload_n 0, 1) := by decide +kernel
theorem dX5_init_1 : decode cX5_init 1 = .ok (.invokespecial 3, 3) := by decide +kernel
theorem dX5_init_4 : decode cX5_init 4 = .ok (.aload_n 0, 1) := by decide +kernel
theorem dX5_init_5 : decode cX5_init 5 = .ok (.new 9, 3) := by decide +kernel
theorem dX5_init_8 : decode cX5_init 8 = .ok (.dup, 1) := by decide +kernel
theorem dX5_init_9 : decode cX5_init 9 = .ok (.invokespecial 11, 3) := by decide +kernel
theorem dX5_init_12 : decode cX5_init 12 = .ok (.putfield 12, 3) := by decide +kernel
theorem dX5_init_15 : decode cX5_init 15 = .ok (.aload_n 0, 1) := by decide +kernel
theorem dX5_init_16 : decode cX5_init 16 = .ok (.bipush 6, 2) := by decide +kernel
theorem dX5_init_18 : decode cX5_init 18 = .ok (.newarray .int, 2) := by decide +kernel
theorem dX5_init_20 : decode cX5_init 20 = .ok (.putfield 18, 3) := by decide +kernel
theorem dX5_init_23 : decode cX5_init 23 = .ok (.aload_n 0, 1) := by decide +kernel
theorem dX5_init_24 : decode cX5_init 24 = .ok (.bipush 6, 2) := by decide +kernel
theorem dX5_init_26 : decode cX5_init 26 = .ok (.newarray .int, 2) := by decide +kernel
theorem dX5_init_28 : decode cX5_init 28 = .ok (.putfield 22, 3) := by decide +kernel
theorem dX5_init_31 : decode cX5_init 31 = .ok (.aload_n 0, 1) := by decide +kernel
theorem dX5_init_32 : decode cX5_init 32 = .ok (.bipush 6, 2) := by decide +kernel
theorem dX5_init_34 : decode cX5_init 34 = .ok (.newarray .int, 2) := by decide +kernel
theorem dX5_init_36 : decode cX5_init 36 = .ok (.putfield 25, 3) := by decide +kernel
theorem dX5_init_39 : decode cX5_init 39 = .ok (.aload_n 0, 1) := by decide +kernel
theorem dX5_init_40 : decode cX5_init 40 = .ok (.iconst 0, 1) := by decide +kernel
theorem dX5_init_41 : decode cX5_init 41 = .ok (.putfield 28, 3) := by decide +kernel
theorem dX5_init_44 : decode cX5_init 44 = .ok (.aload_n 0, 1) := by decide +kernel
theorem dX5_init_45 : decode cX5_init 45 = .ok (.ldc 32, 2) := by decide +kernel
theorem dX5_init_47 : decode cX5_init 47 = .ok (.putfield 33, 3) := by decide +kernel
theorem dX5_init_50 : decode cX5_init 50 = .ok (.return_, 1) := by decide +kernel
theorem dX5_go_0 : decode cX5_go 0 = .ok (.aload_n 1, 1) := by decide +kernel
theorem dX5_go_1 : decode cX5_go 1 = .ok (.iload_n 2, 1) := by decide +kernel
theorem dX5_go_2 : decode cX5_go 2 = .ok (.invokevirtual 36, 3) := by decide +kernel
theorem dX5_go_5 : decode cX5_go 5 = .ok (.istore_n 3, 1) := by decide +kernel
theorem dX5_go_6 : decode cX5_go 6 = .ok (.iconst 0, 1) := by decide +kernel
theorem dX5_go_7 : decode cX5_go 7 = .ok (.istore 4, 2) := by decide +kernel
theorem dX5_go_9 : decode cX5_go 9 = .ok (.iconst 0, 1) := by decide +kernel
theorem dX5_go_10 : decode cX5_go 10 = .ok (.istore 5, 2) := by decide +kernel
theorem dX5_go_12 : decode cX5_go 12 = .ok (.iload 5, 2) := by decide +kernel
theorem dX5_go_14 : decode cX5_go 14 = .ok (.bipush 6, 2) := by decide +kernel
theorem dX5_go_16 : decode cX5_go 16 = .ok (.if_icmp .ge 17, 3) := by decide +kernel
theorem dX5_go_19 : decode cX5_go 19 = .ok (.aload_n 0, 1) := by decide +kernel
theorem dX5_go_20 : decode cX5_go 20 = .ok (.getfield 18, 3) := by decide +kernel
theorem dX5_go_23 : decode cX5_go 23 = .ok (.iload 5, 2) := by decide +kernel
theorem dX5_go_25 : decode cX5_go 25 = .ok (.iconst 0, 1) := by decide +kernel
theorem dX5_go_26 : decode cX5_go 26 = .ok (.iastore, 1) := by decide +kernel
theorem dX5_go_27 : decode cX5_go 27 = .ok (.iinc 5 1, 3) := by decide +kernel
theorem dX5_go_30 : decode cX5_go 30 = .ok (.goto (-18), 3) := by decide +kernel
theorem dX5_go_33 : decode cX5_go 33 = .ok (.iconst 0, 1) := by decide +kernel
theorem dX5_go_34 : decode cX5_go 34 = .ok (.istore 5, 2) := by decide +kernel
theorem dX5_go_36 : decode cX5_go 36 = .ok (.iload 5, 2) := by decide +kernel
theorem dX5_go_38 : decode cX5_go 38 = .ok (.aload_n 1, 1) := by decide +kernel
theorem dX5_go_39 : decode cX5_go 39 = .ok (.getfield 42, 3) := by decide +kernel
theorem dX5_go_42 : decode cX5_go 42 = .ok (.if_icmp .ge 48, 3) := by decide +kernel
theorem dX5_go_45 : decode cX5_go 45 = .ok (.iload_n 3, 1) := by decide +kernel
theorem dX5_go_46 : decode cX5_go 46 = .ok (.iload 5, 2) := by decide +kernel
theorem dX5_go_48 : decode cX5_go 48 = .ok (.invokestatic 45, 3) := by decide +kernel
theorem dX5_go_51 : decode cX5_go 51 = .ok (.ifCond .eq 33, 3) := by decide +kernel
theorem dX5_go_54 : decode cX5_go 54 = .ok (.aload_n 0, 1) := by decide +kernel
theorem dX5_go_55 : decode cX5_go 55 = .ok (.getfield 18, 3) := by decide +kernel
theorem dX5_go_58 : decode cX5_go 58 = .ok (.aload_n 1, 1) := by decide +kernel
theorem dX5_go_59 : decode cX5_go 59 = .ok (.getfield 49, 3) := by decide +kernel
theorem dX5_go_62 : decode cX5_go 62 = .ok (.iload 5, 2) := by decide +kernel
theorem dX5_go_64 : decode cX5_go 64 = .ok (.iaload, 1) := by decide +kernel
theorem dX5_go_65 : decode cX5_go 65 = .ok (.dup2, 1) := by decide +kernel
theorem dX5_go_66 : decode cX5_go 66 = .ok (.iaload, 1) := by decide +kernel
theorem dX5_go_67 : decode cX5_go 67 = .ok (.iconst 1, 1) := by decide +kernel
theorem dX5_go_68 : decode cX5_go 68 = .ok (.iadd, 1) := by decide +kernel
theorem dX5_go_69 : decode cX5_go 69 = .ok (.iastore, 1) := by decide +kernel
theorem dX5_go_70 : decode cX5_go 70 = .ok (.iload 4, 2) := by decide +kernel
theorem dX5_go_72 : decode cX5_go 72 = .ok (.iconst 1, 1) := by decide +kernel
theorem dX5_go_73 : decode cX5_go 73 = .ok (.aload_n 1, 1) := by decide +kernel
theorem dX5_go_74 : decode cX5_go 74 = .ok (.getfield 49, 3) := by decide +kernel
theorem dX5_go_77 : decode cX5_go 77 = .ok (.iload 5, 2) := by decide +kernel
theorem dX5_go_79 : decode cX5_go 79 = .ok (.iaload, 1) := by decide +kernel
theorem dX5_go_80 : decode cX5_go 80 = .ok (.ishl, 1) := by decide +kernel
theorem dX5_go_81 : decode cX5_go 81 = .ok (.ior, 1) := by decide +kernel
theorem dX5_go_82 : decode cX5_go 82 = .ok (.istore 4, 2) := by decide +kernel
theorem dX5_go_84 : decode cX5_go 84 = .ok (.iinc 5 1, 3) := by decide +kernel
theorem dX5_go_87 : decode cX5_go 87 = .ok (.goto (-51), 3) := by decide +kernel
theorem dX5_go_90 : decode cX5_go 90 = .ok (.aload_n 0, 1) := by decide +kernel
theorem dX5_go_91 : decode cX5_go 91 = .ok (.iload 4, 2) := by decide +kernel
theorem dX5_go_93 : decode cX5_go 93 = .ok (.invokestatic 52, 3) := by decide +kernel
theorem dX5_go_96 : decode cX5_go 96 = .ok (.putfield 28, 3) := by decide +kernel
theorem dX5_go_99 : decode cX5_go 99 = .ok (.aload_n 0, 1) := by decide +kernel
theorem dX5_go_100 : decode cX5_go 100 = .ok (.ldc 32, 2) := by decide +kernel
theorem dX5_go_102 : decode cX5_go 102 = .ok (.putfield 33, 3) := by decide +kernel
theorem dX5_go_105 : decode cX5_go 105 = .ok (.aload_n 0, 1) := by decide +kernel
theorem dX5_go_106 : decode cX5_go 106 = .ok (.aload_n 1, 1) := by decide +kernel
theorem dX5_go_107 : decode cX5_go 107 = .ok (.iload 4, 2) := by decide +kernel
theorem dX5_go_109 : decode cX5_go 109 = .ok (.iconst 0, 1) := by decide +kernel
theorem dX5_go_110 : decode cX5_go 110 = .ok (.aload_n 1, 1) := by decide +kernel
theorem dX5_go_111 : decode cX5_go 111 = .ok (.getfield 57, 3) := by decide +kernel
theorem dX5_go_114 : decode cX5_go 114 = .ok (.iload_n 2, 1) := by decide +kernel
theorem dX5_go_115 : decode cX5_go 115 = .ok (.iaload, 1) := by decide +kernel
theorem dX5_go_116 : decode cX5_go 116 = .ok (.iconst 0, 1) := by decide +kernel
theorem dX5_go_117 : decode cX5_go 117 = .ok (.invokevirtual 60, 3) := by decide +kernel
theorem dX5_go_120 : decode cX5_go 120 = .ok (.return_, 1) := by decide +kernel
theorem dX5_visit_0 : decode cX5_visit 0 = .ok (.iload 5, 2) := by decide +kernel
theorem dX5_visit_2 : decode cX5_visit 2 = .ok (.aload_n 0, 1) := by decide +kernel
theorem dX5_visit_3 : decode cX5_visit 3 = .ok (.getfield 33, 3) := by decide +kernel
