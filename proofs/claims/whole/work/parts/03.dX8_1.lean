theorem dX8_layPay_21 : decode cX8_layPay 21 = .ok (.ifCond .lt 234, 3) := by decide +kernel
theorem dX8_layPay_24 : decode cX8_layPay 24 = .ok (.iload_n 3, 1) := by decide +kernel
theorem dX8_layPay_25 : decode cX8_layPay 25 = .ok (.aload_n 0, 1) := by decide +kernel
theorem dX8_layPay_26 : decode cX8_layPay 26 = .ok (.getfield 13, 3) := by decide +kernel
theorem dX8_layPay_29 : decode cX8_layPay 29 = .ok (.iload_n 1, 1) := by decide +kernel
theorem dX8_layPay_30 : decode cX8_layPay 30 = .ok (.iaload, 1) := by decide +kernel
theorem dX8_layPay_31 : decode cX8_layPay 31 = .ok (.if_icmp .ne 18, 3) := by decide +kernel
theorem dX8_layPay_34 : decode cX8_layPay 34 = .ok (.iload 4, 2) := by decide +kernel
theorem dX8_layPay_36 : decode cX8_layPay 36 = .ok (.aload_n 0, 1) := by decide +kernel
theorem dX8_layPay_37 : decode cX8_layPay 37 = .ok (.getfield 13, 3) := by decide +kernel
theorem dX8_layPay_40 : decode cX8_layPay 40 = .ok (.iload_n 2, 1) := by decide +kernel
theorem dX8_layPay_41 : decode cX8_layPay 41 = .ok (.iaload, 1) := by decide +kernel
theorem dX8_layPay_42 : decode cX8_layPay 42 = .ok (.if_icmp .ne 7, 3) := by decide +kernel
theorem dX8_layPay_45 : decode cX8_layPay 45 = .ok (.iconst 0, 1) := by decide +kernel
theorem dX8_layPay_46 : decode cX8_layPay 46 = .ok (.goto 5, 3) := by decide +kernel
theorem dX8_layPay_49 : decode cX8_layPay 49 = .ok (.ldc 143, 2) := by decide +kernel
theorem dX8_layPay_51 : decode cX8_layPay 51 = .ok (.istore 5, 2) := by decide +kernel
theorem dX8_layPay_53 : decode cX8_layPay 53 = .ok (.iload_n 3, 1) := by decide +kernel
theorem dX8_layPay_54 : decode cX8_layPay 54 = .ok (.aload_n 0, 1) := by decide +kernel
theorem dX8_layPay_55 : decode cX8_layPay 55 = .ok (.getfield 13, 3) := by decide +kernel
theorem dX8_layPay_58 : decode cX8_layPay 58 = .ok (.iload_n 1, 1) := by decide +kernel
theorem dX8_layPay_59 : decode cX8_layPay 59 = .ok (.iaload, 1) := by decide +kernel
theorem dX8_layPay_60 : decode cX8_layPay 60 = .ok (.if_icmp .ge 79, 3) := by decide +kernel
theorem dX8_layPay_63 : decode cX8_layPay 63 = .ok (.iload 4, 2) := by decide +kernel
theorem dX8_layPay_65 : decode cX8_layPay 65 = .ok (.aload_n 0, 1) := by decide +kernel
theorem dX8_layPay_66 : decode cX8_layPay 66 = .ok (.getfield 13, 3) := by decide +kernel
theorem dX8_layPay_69 : decode cX8_layPay 69 = .ok (.iload_n 2, 1) := by decide +kernel
theorem dX8_layPay_70 : decode cX8_layPay 70 = .ok (.iaload, 1) := by decide +kernel
theorem dX8_layPay_71 : decode cX8_layPay 71 = .ok (.if_icmp .ge 68, 3) := by decide +kernel
theorem dX8_layPay_74 : decode cX8_layPay 74 = .ok (.aload_n 0, 1) := by decide +kernel
theorem dX8_layPay_75 : decode cX8_layPay 75 = .ok (.getfield 41, 3) := by decide +kernel
theorem dX8_layPay_78 : decode cX8_layPay 78 = .ok (.bipush 8, 2) := by decide +kernel
theorem dX8_layPay_80 : decode cX8_layPay 80 = .ok (.iload_n 3, 1) := by decide +kernel
theorem dX8_layPay_81 : decode cX8_layPay 81 = .ok (.imul, 1) := by decide +kernel
theorem dX8_layPay_82 : decode cX8_layPay 82 = .ok (.iload 4, 2) := by decide +kernel
theorem dX8_layPay_84 : decode cX8_layPay 84 = .ok (.iadd, 1) := by decide +kernel
theorem dX8_layPay_85 : decode cX8_layPay 85 = .ok (.aload_n 0, 1) := by decide +kernel
theorem dX8_layPay_86 : decode cX8_layPay 86 = .ok (.bipush 8, 2) := by decide +kernel
theorem dX8_layPay_88 : decode cX8_layPay 88 = .ok (.iload_n 1, 1) := by decide +kernel
theorem dX8_layPay_89 : decode cX8_layPay 89 = .ok (.imul, 1) := by decide +kernel
theorem dX8_layPay_90 : decode cX8_layPay 90 = .ok (.iload_n 3, 1) := by decide +kernel
theorem dX8_layPay_91 : decode cX8_layPay 91 = .ok (.iadd, 1) := by decide +kernel
theorem dX8_layPay_92 : decode cX8_layPay 92 = .ok (.bipush 8, 2) := by decide +kernel
theorem dX8_layPay_94 : decode cX8_layPay 94 = .ok (.iload_n 2, 1) := by decide +kernel
theorem dX8_layPay_95 : decode cX8_layPay 95 = .ok (.imul, 1) := by decide +kernel
theorem dX8_layPay_96 : decode cX8_layPay 96 = .ok (.iload 4, 2) := by decide +kernel
theorem dX8_layPay_98 : decode cX8_layPay 98 = .ok (.iadd, 1) := by decide +kernel
theorem dX8_layPay_99 : decode cX8_layPay 99 = .ok (.invokevirtual 147, 3) := by decide +kernel
theorem dX8_layPay_102 : decode cX8_layPay 102 = .ok (.iastore, 1) := by decide +kernel
theorem dX8_layPay_103 : decode cX8_layPay 103 = .ok (.iload 5, 2) := by decide +kernel
theorem dX8_layPay_105 : decode cX8_layPay 105 = .ok (.aload_n 0, 1) := by decide +kernel
theorem dX8_layPay_106 : decode cX8_layPay 106 = .ok (.getfield 41, 3) := by decide +kernel
theorem dX8_layPay_109 : decode cX8_layPay 109 = .ok (.bipush 8, 2) := by decide +kernel
theorem dX8_layPay_111 : decode cX8_layPay 111 = .ok (.iload_n 3, 1) := by decide +kernel
theorem dX8_layPay_112 : decode cX8_layPay 112 = .ok (.imul, 1) := by decide +kernel
theorem dX8_layPay_113 : decode cX8_layPay 113 = .ok (.iload 4, 2) := by decide +kernel
theorem dX8_layPay_115 : decode cX8_layPay 115 = .ok (.iadd, 1) := by decide +kernel
theorem dX8_layPay_116 : decode cX8_layPay 116 = .ok (.iaload, 1) := by decide +kernel
theorem dX8_layPay_117 : decode cX8_layPay 117 = .ok (.aload_n 0, 1) := by decide +kernel
theorem dX8_layPay_118 : decode cX8_layPay 118 = .ok (.getfield 38, 3) := by decide +kernel
theorem dX8_layPay_121 : decode cX8_layPay 121 = .ok (.bipush 9, 2) := by decide +kernel
theorem dX8_layPay_123 : decode cX8_layPay 123 = .ok (.iload_n 3, 1) := by decide +kernel
theorem dX8_layPay_124 : decode cX8_layPay 124 = .ok (.iconst 1, 1) := by decide +kernel
theorem dX8_layPay_125 : decode cX8_layPay 125 = .ok (.iadd, 1) := by decide +kernel
theorem dX8_layPay_126 : decode cX8_layPay 126 = .ok (.imul, 1) := by decide +kernel
theorem dX8_layPay_127 : decode cX8_layPay 127 = .ok (.iload 4, 2) := by decide +kernel
theorem dX8_layPay_129 : decode cX8_layPay 129 = .ok (.iadd, 1) := by decide +kernel
theorem dX8_layPay_130 : decode cX8_layPay 130 = .ok (.iconst 1, 1) := by decide +kernel
theorem dX8_layPay_131 : decode cX8_layPay 131 = .ok (.iadd, 1) := by decide +kernel
theorem dX8_layPay_132 : decode cX8_layPay 132 = .ok (.iaload, 1) := by decide +kernel
theorem dX8_layPay_133 : decode cX8_layPay 133 = .ok (.iadd, 1) := by decide +kernel
theorem dX8_layPay_134 : decode cX8_layPay 134 = .ok (.invokestatic 133, 3) := by decide +kernel
theorem dX8_layPay_137 : decode cX8_layPay 137 = .ok (.istore 5, 2) := by decide +kernel
theorem dX8_layPay_139 : decode cX8_layPay 139 = .ok (.iload_n 3, 1) := by decide +kernel
theorem dX8_layPay_140 : decode cX8_layPay 140 = .ok (.aload_n 0, 1) := by decide +kernel
theorem dX8_layPay_141 : decode cX8_layPay 141 = .ok (.getfield 13, 3) := by decide +kernel
theorem dX8_layPay_144 : decode cX8_layPay 144 = .ok (.iload_n 1, 1) := by decide +kernel
theorem dX8_layPay_145 : decode cX8_layPay 145 = .ok (.iaload, 1) := by decide +kernel
theorem dX8_layPay_146 : decode cX8_layPay 146 = .ok (.if_icmp .ge 36, 3) := by decide +kernel
theorem dX8_layPay_149 : decode cX8_layPay 149 = .ok (.iload 5, 2) := by decide +kernel
theorem dX8_layPay_151 : decode cX8_layPay 151 = .ok (.aload_n 0, 1) := by decide +kernel
theorem dX8_layPay_152 : decode cX8_layPay 152 = .ok (.bipush 8, 2) := by decide +kernel
theorem dX8_layPay_154 : decode cX8_layPay 154 = .ok (.iload_n 1, 1) := by decide +kernel
theorem dX8_layPay_155 : decode cX8_layPay 155 = .ok (.imul, 1) := by decide +kernel
theorem dX8_layPay_156 : decode cX8_layPay 156 = .ok (.iload_n 3, 1) := by decide +kernel
theorem dX8_layPay_157 : decode cX8_layPay 157 = .ok (.iadd, 1) := by decide +kernel
theorem dX8_layPay_158 : decode cX8_layPay 158 = .ok (.invokevirtual 150, 3) := by decide +kernel
theorem dX8_layPay_161 : decode cX8_layPay 161 = .ok (.aload_n 0, 1) := by decide +kernel
theorem dX8_layPay_162 : decode cX8_layPay 162 = .ok (.getfield 38, 3) := by decide +kernel
theorem dX8_layPay_165 : decode cX8_layPay 165 = .ok (.bipush 9, 2) := by decide +kernel
theorem dX8_layPay_167 : decode cX8_layPay 167 = .ok (.iload_n 3, 1) := by decide +kernel
theorem dX8_layPay_168 : decode cX8_layPay 168 = .ok (.iconst 1, 1) := by decide +kernel
theorem dX8_layPay_169 : decode cX8_layPay 169 = .ok (.iadd, 1) := by decide +kernel
theorem dX8_layPay_170 : decode cX8_layPay 170 = .ok (.imul, 1) := by decide +kernel
theorem dX8_layPay_171 : decode cX8_layPay 171 = .ok (.iload 4, 2) := by decide +kernel
theorem dX8_layPay_173 : decode cX8_layPay 173 = .ok (.iadd, 1) := by decide +kernel
theorem dX8_layPay_174 : decode cX8_layPay 174 = .ok (.iaload, 1) := by decide +kernel
theorem dX8_layPay_175 : decode cX8_layPay 175 = .ok (.iadd, 1) := by decide +kernel
theorem dX8_layPay_176 : decode cX8_layPay 176 = .ok (.invokestatic 133, 3) := by decide +kernel
theorem dX8_layPay_179 : decode cX8_layPay 179 = .ok (.goto 5, 3) := by decide +kernel
theorem dX8_layPay_182 : decode cX8_layPay 182 = .ok (.iload 5, 2) := by decide +kernel
theorem dX8_layPay_184 : decode cX8_layPay 184 = .ok (.istore 5, 2) := by decide +kernel
theorem dX8_layPay_186 : decode cX8_layPay 186 = .ok (.iload 4, 2) := by decide +kernel
theorem dX8_layPay_188 : decode cX8_layPay 188 = .ok (.aload_n 0, 1) := by decide +kernel
theorem dX8_layPay_189 : decode cX8_layPay 189 = .ok (.getfield 13, 3) := by decide +kernel
theorem dX8_layPay_192 : decode cX8_layPay 192 = .ok (.iload_n 2, 1) := by decide +kernel
theorem dX8_layPay_193 : decode cX8_layPay 193 = .ok (.iaload, 1) := by decide +kernel
theorem dX8_layPay_194 : decode cX8_layPay 194 = .ok (.if_icmp .ge 37, 3) := by decide +kernel
theorem dX8_layPay_197 : decode cX8_layPay 197 = .ok (.iload 5, 2) := by decide +kernel
theorem dX8_layPay_199 : decode cX8_layPay 199 = .ok (.aload_n 0, 1) := by decide +kernel
theorem dX8_layPay_200 : decode cX8_layPay 200 = .ok (.bipush 8, 2) := by decide +kernel
theorem dX8_layPay_202 : decode cX8_layPay 202 = .ok (.iload_n 2, 1) := by decide +kernel
theorem dX8_layPay_203 : decode cX8_layPay 203 = .ok (.imul, 1) := by decide +kernel
theorem dX8_layPay_204 : decode cX8_layPay 204 = .ok (.iload 4, 2) := by decide +kernel
theorem dX8_layPay_206 : decode cX8_layPay 206 = .ok (.iadd, 1) := by decide +kernel
theorem dX8_layPay_207 : decode cX8_layPay 207 = .ok (.invokevirtual 150, 3) := by decide +kernel
theorem dX8_layPay_210 : decode cX8_layPay 210 = .ok (.aload_n 0, 1) := by decide +kernel
theorem dX8_layPay_211 : decode cX8_layPay 211 = .ok (.getfield 38, 3) := by decide +kernel
theorem dX8_layPay_214 : decode cX8_layPay 214 = .ok (.bipush 9, 2) := by decide +kernel
theorem dX8_layPay_216 : decode cX8_layPay 216 = .ok (.iload_n 3, 1) := by decide +kernel
theorem dX8_layPay_217 : decode cX8_layPay 217 = .ok (.imul, 1) := by decide +kernel
theorem dX8_layPay_218 : decode cX8_layPay 218 = .ok (.iload 4, 2) := by decide +kernel
theorem dX8_layPay_220 : decode cX8_layPay 220 = .ok (.iadd, 1) := by decide +kernel
theorem dX8_layPay_221 : decode cX8_layPay 221 = .ok (.iconst 1, 1) := by decide +kernel
theorem dX8_layPay_222 : decode cX8_layPay 222 = .ok (.iadd, 1) := by decide +kernel
theorem dX8_layPay_223 : decode cX8_layPay 223 = .ok (.iaload, 1) := by decide +kernel
theorem dX8_layPay_224 : decode cX8_layPay 224 = .ok (.iadd, 1) := by decide +kernel
theorem dX8_layPay_225 : decode cX8_layPay 225 = .ok (.invokestatic 133, 3) := by decide +kernel
theorem dX8_layPay_228 : decode cX8_layPay 228 = .ok (.goto 5, 3) := by decide +kernel
theorem dX8_layPay_231 : decode cX8_layPay 231 = .ok (.iload 5, 2) := by decide +kernel
theorem dX8_layPay_233 : decode cX8_layPay 233 = .ok (.istore 5, 2) := by decide +kernel
theorem dX8_layPay_235 : decode cX8_layPay 235 = .ok (.aload_n 0, 1) := by decide +kernel
theorem dX8_layPay_236 : decode cX8_layPay 236 = .ok (.getfield 38, 3) := by decide +kernel
theorem dX8_layPay_239 : decode cX8_layPay 239 = .ok (.bipush 9, 2) := by decide +kernel
theorem dX8_layPay_241 : decode cX8_layPay 241 = .ok (.iload_n 3, 1) := by decide +kernel
theorem dX8_layPay_242 : decode cX8_layPay 242 = .ok (.imul, 1) := by decide +kernel
theorem dX8_layPay_243 : decode cX8_layPay 243 = .ok (.iload 4, 2) := by decide +kernel
theorem dX8_layPay_245 : decode cX8_layPay 245 = .ok (.iadd, 1) := by decide +kernel
theorem dX8_layPay_246 : decode cX8_layPay 246 = .ok (.iload 5, 2) := by decide +kernel
theorem dX8_layPay_248 : decode cX8_layPay 248 = .ok (.iastore, 1) := by decide +kernel
theorem dX8_layPay_249 : decode cX8_layPay 249 = .ok (.iinc 4 (-1), 3) := by decide +kernel
theorem dX8_layPay_252 : decode cX8_layPay 252 = .ok (.goto (-233), 3) := by decide +kernel
theorem dX8_layPay_255 : decode cX8_layPay 255 = .ok (.iinc 3 (-1), 3) := by decide +kernel
theorem dX8_layPay_258 : decode cX8_layPay 258 = .ok (.goto (-251), 3) := by decide +kernel
theorem dX8_layPay_261 : decode cX8_layPay 261 = .ok (.return_, 1) := by decide +kernel
theorem dX8_putStep_0 : decode cX8_putStep 0 = .ok (.aload_n 0, 1) := by decide +kernel
theorem dX8_putStep_1 : decode cX8_putStep 1 = .ok (.getfield 44, 3) := by decide +kernel
theorem dX8_putStep_4 : decode cX8_putStep 4 = .ok (.aload_n 0, 1) := by decide +kernel
theorem dX8_putStep_5 : decode cX8_putStep 5 = .ok (.getfield 154, 3) := by decide +kernel
theorem dX8_putStep_8 : decode cX8_putStep 8 = .ok (.iload_n 1, 1) := by decide +kernel
theorem dX8_putStep_9 : decode cX8_putStep 9 = .ok (.iastore, 1) := by decide +kernel
theorem dX8_putStep_10 : decode cX8_putStep 10 = .ok (.aload_n 0, 1) := by decide +kernel
theorem dX8_putStep_11 : decode cX8_putStep 11 = .ok (.getfield 47, 3) := by decide +kernel
theorem dX8_putStep_14 : decode cX8_putStep 14 = .ok (.aload_n 0, 1) := by decide +kernel
theorem dX8_putStep_15 : decode cX8_putStep 15 = .ok (.getfield 154, 3) := by decide +kernel
theorem dX8_putStep_18 : decode cX8_putStep 18 = .ok (.iload_n 2, 1) := by decide +kernel
theorem dX8_putStep_19 : decode cX8_putStep 19 = .ok (.iastore, 1) := by decide +kernel
theorem dX8_putStep_20 : decode cX8_putStep 20 = .ok (.aload_n 0, 1) := by decide +kernel
theorem dX8_putStep_21 : decode cX8_putStep 21 = .ok (.getfield 50, 3) := by decide +kernel
theorem dX8_putStep_24 : decode cX8_putStep 24 = .ok (.aload_n 0, 1) := by decide +kernel
theorem dX8_putStep_25 : decode cX8_putStep 25 = .ok (.getfield 154, 3) := by decide +kernel
theorem dX8_putStep_28 : decode cX8_putStep 28 = .ok (.iload_n 3, 1) := by decide +kernel
theorem dX8_putStep_29 : decode cX8_putStep 29 = .ok (.iastore, 1) := by decide +kernel
theorem dX8_putStep_30 : decode cX8_putStep 30 = .ok (.aload_n 0, 1) := by decide +kernel
theorem dX8_putStep_31 : decode cX8_putStep 31 = .ok (.getfield 53, 3) := by decide +kernel
theorem dX8_putStep_34 : decode cX8_putStep 34 = .ok (.aload_n 0, 1) := by decide +kernel
theorem dX8_putStep_35 : decode cX8_putStep 35 = .ok (.getfield 154, 3) := by decide +kernel
theorem dX8_putStep_38 : decode cX8_putStep 38 = .ok (.iload 4, 2) := by decide +kernel
theorem dX8_putStep_40 : decode cX8_putStep 40 = .ok (.iastore, 1) := by decide +kernel
theorem dX8_putStep_41 : decode cX8_putStep 41 = .ok (.aload_n 0, 1) := by decide +kernel
theorem dX8_putStep_42 : decode cX8_putStep 42 = .ok (.dup, 1) := by decide +kernel
theorem dX8_putStep_43 : decode cX8_putStep 43 = .ok (.getfield 154, 3) := by decide +kernel
theorem dX8_putStep_46 : decode cX8_putStep 46 = .ok (.iconst 1, 1) := by decide +kernel
theorem dX8_putStep_47 : decode cX8_putStep 47 = .ok (.iadd, 1) := by decide +kernel
theorem dX8_putStep_48 : decode cX8_putStep 48 = .ok (.putfield 154, 3) := by decide +kernel
theorem dX8_putStep_51 : decode cX8_putStep 51 = .ok (.return_, 1) := by decide +kernel
theorem dX8_laySteps_0 : decode cX8_laySteps 0 = .ok (.aload_n 0, 1) := by decide +kernel
theorem dX8_laySteps_1 : decode cX8_laySteps 1 = .ok (.iload_n 1, 1) := by decide +kernel
theorem dX8_laySteps_2 : decode cX8_laySteps 2 = .ok (.iload_n 2, 1) := by decide +kernel
theorem dX8_laySteps_3 : decode cX8_laySteps 3 = .ok (.invokevirtual 157, 3) := by decide +kernel
theorem dX8_laySteps_6 : decode cX8_laySteps 6 = .ok (.aload_n 0, 1) := by decide +kernel
theorem dX8_laySteps_7 : decode cX8_laySteps 7 = .ok (.iconst 0, 1) := by decide +kernel
theorem dX8_laySteps_8 : decode cX8_laySteps 8 = .ok (.putfield 154, 3) := by decide +kernel
theorem dX8_laySteps_11 : decode cX8_laySteps 11 = .ok (.iconst 0, 1) := by decide +kernel
theorem dX8_laySteps_12 : decode cX8_laySteps 12 = .ok (.istore_n 3, 1) := by decide +kernel
theorem dX8_laySteps_13 : decode cX8_laySteps 13 = .ok (.iconst 0, 1) := by decide +kernel
theorem dX8_laySteps_14 : decode cX8_laySteps 14 = .ok (.istore 4, 2) := by decide +kernel
theorem dX8_laySteps_16 : decode cX8_laySteps 16 = .ok (.iload_n 3, 1) := by decide +kernel
theorem dX8_laySteps_17 : decode cX8_laySteps 17 = .ok (.aload_n 0, 1) := by decide +kernel
theorem dX8_laySteps_18 : decode cX8_laySteps 18 = .ok (.getfield 13, 3) := by decide +kernel
theorem dX8_laySteps_21 : decode cX8_laySteps 21 = .ok (.iload_n 1, 1) := by decide +kernel
theorem dX8_laySteps_22 : decode cX8_laySteps 22 = .ok (.iaload, 1) := by decide +kernel
theorem dX8_laySteps_23 : decode cX8_laySteps 23 = .ok (.if_icmp .lt 14, 3) := by decide +kernel
theorem dX8_laySteps_26 : decode cX8_laySteps 26 = .ok (.iload 4, 2) := by decide +kernel
theorem dX8_laySteps_28 : decode cX8_laySteps 28 = .ok (.aload_n 0, 1) := by decide +kernel
theorem dX8_laySteps_29 : decode cX8_laySteps 29 = .ok (.getfield 13, 3) := by decide +kernel
theorem dX8_laySteps_32 : decode cX8_laySteps 32 = .ok (.iload_n 2, 1) := by decide +kernel
theorem dX8_laySteps_33 : decode cX8_laySteps 33 = .ok (.iaload, 1) := by decide +kernel
theorem dX8_laySteps_34 : decode cX8_laySteps 34 = .ok (.if_icmp .ge 201, 3) := by decide +kernel
theorem dX8_laySteps_37 : decode cX8_laySteps 37 = .ok (.aload_n 0, 1) := by decide +kernel
theorem dX8_laySteps_38 : decode cX8_laySteps 38 = .ok (.getfield 38, 3) := by decide +kernel
theorem dX8_laySteps_41 : decode cX8_laySteps 41 = .ok (.bipush 9, 2) := by decide +kernel
theorem dX8_laySteps_43 : decode cX8_laySteps 43 = .ok (.iload_n 3, 1) := by decide +kernel
theorem dX8_laySteps_44 : decode cX8_laySteps 44 = .ok (.imul, 1) := by decide +kernel
theorem dX8_laySteps_45 : decode cX8_laySteps 45 = .ok (.iload 4, 2) := by decide +kernel
theorem dX8_laySteps_47 : decode cX8_laySteps 47 = .ok (.iadd, 1) := by decide +kernel
theorem dX8_laySteps_48 : decode cX8_laySteps 48 = .ok (.iaload, 1) := by decide +kernel
theorem dX8_laySteps_49 : decode cX8_laySteps 49 = .ok (.istore 5, 2) := by decide +kernel
theorem dX8_laySteps_51 : decode cX8_laySteps 51 = .ok (.iload_n 3, 1) := by decide +kernel
theorem dX8_laySteps_52 : decode cX8_laySteps 52 = .ok (.aload_n 0, 1) := by decide +kernel
theorem dX8_laySteps_53 : decode cX8_laySteps 53 = .ok (.getfield 13, 3) := by decide +kernel
theorem dX8_laySteps_56 : decode cX8_laySteps 56 = .ok (.iload_n 1, 1) := by decide +kernel
theorem dX8_laySteps_57 : decode cX8_laySteps 57 = .ok (.iaload, 1) := by decide +kernel
theorem dX8_laySteps_58 : decode cX8_laySteps 58 = .ok (.if_icmp .ge 18, 3) := by decide +kernel
theorem dX8_laySteps_61 : decode cX8_laySteps 61 = .ok (.iload 4, 2) := by decide +kernel
theorem dX8_laySteps_63 : decode cX8_laySteps 63 = .ok (.aload_n 0, 1) := by decide +kernel
theorem dX8_laySteps_64 : decode cX8_laySteps 64 = .ok (.getfield 13, 3) := by decide +kernel
theorem dX8_laySteps_67 : decode cX8_laySteps 67 = .ok (.iload_n 2, 1) := by decide +kernel
theorem dX8_laySteps_68 : decode cX8_laySteps 68 = .ok (.iaload, 1) := by decide +kernel
theorem dX8_laySteps_69 : decode cX8_laySteps 69 = .ok (.if_icmp .ge 7, 3) := by decide +kernel
theorem dX8_laySteps_72 : decode cX8_laySteps 72 = .ok (.iconst 1, 1) := by decide +kernel
theorem dX8_laySteps_73 : decode cX8_laySteps 73 = .ok (.goto 4, 3) := by decide +kernel
theorem dX8_laySteps_76 : decode cX8_laySteps 76 = .ok (.iconst 0, 1) := by decide +kernel
theorem dX8_laySteps_77 : decode cX8_laySteps 77 = .ok (.istore 6, 2) := by decide +kernel
theorem dX8_laySteps_79 : decode cX8_laySteps 79 = .ok (.iload 6, 2) := by decide +kernel
theorem dX8_laySteps_81 : decode cX8_laySteps 81 = .ok (.ifCond .eq 66, 3) := by decide +kernel
theorem dX8_laySteps_84 : decode cX8_laySteps 84 = .ok (.aload_n 0, 1) := by decide +kernel
theorem dX8_laySteps_85 : decode cX8_laySteps 85 = .ok (.getfield 41, 3) := by decide +kernel
theorem dX8_laySteps_88 : decode cX8_laySteps 88 = .ok (.bipush 8, 2) := by decide +kernel
theorem dX8_laySteps_90 : decode cX8_laySteps 90 = .ok (.iload_n 3, 1) := by decide +kernel
theorem dX8_laySteps_91 : decode cX8_laySteps 91 = .ok (.imul, 1) := by decide +kernel
theorem dX8_laySteps_92 : decode cX8_laySteps 92 = .ok (.iload 4, 2) := by decide +kernel
theorem dX8_laySteps_94 : decode cX8_laySteps 94 = .ok (.iadd, 1) := by decide +kernel
theorem dX8_laySteps_95 : decode cX8_laySteps 95 = .ok (.iaload, 1) := by decide +kernel
theorem dX8_laySteps_96 : decode cX8_laySteps 96 = .ok (.aload_n 0, 1) := by decide +kernel
theorem dX8_laySteps_97 : decode cX8_laySteps 97 = .ok (.getfield 38, 3) := by decide +kernel
theorem dX8_laySteps_100 : decode cX8_laySteps 100 = .ok (.bipush 9, 2) := by decide +kernel
theorem dX8_laySteps_102 : decode cX8_laySteps 102 = .ok (.iload_n 3, 1) := by decide +kernel
theorem dX8_laySteps_103 : decode cX8_laySteps 103 = .ok (.iconst 1, 1) := by decide +kernel
theorem dX8_laySteps_104 : decode cX8_laySteps 104 = .ok (.iadd, 1) := by decide +kernel
theorem dX8_laySteps_105 : decode cX8_laySteps 105 = .ok (.imul, 1) := by decide +kernel
theorem dX8_laySteps_106 : decode cX8_laySteps 106 = .ok (.iload 4, 2) := by decide +kernel
theorem dX8_laySteps_108 : decode cX8_laySteps 108 = .ok (.iadd, 1) := by decide +kernel
theorem dX8_laySteps_109 : decode cX8_laySteps 109 = .ok (.iconst 1, 1) := by decide +kernel
theorem dX8_laySteps_110 : decode cX8_laySteps 110 = .ok (.iadd, 1) := by decide +kernel
theorem dX8_laySteps_111 : decode cX8_laySteps 111 = .ok (.iaload, 1) := by decide +kernel
theorem dX8_laySteps_112 : decode cX8_laySteps 112 = .ok (.iadd, 1) := by decide +kernel
theorem dX8_laySteps_113 : decode cX8_laySteps 113 = .ok (.iload 5, 2) := by decide +kernel
theorem dX8_laySteps_115 : decode cX8_laySteps 115 = .ok (.if_icmp .ne 32, 3) := by decide +kernel
theorem dX8_laySteps_118 : decode cX8_laySteps 118 = .ok (.aload_n 0, 1) := by decide +kernel
theorem dX8_laySteps_119 : decode cX8_laySteps 119 = .ok (.iconst 0, 1) := by decide +kernel
theorem dX8_laySteps_120 : decode cX8_laySteps 120 = .ok (.aload_n 0, 1) := by decide +kernel
theorem dX8_laySteps_121 : decode cX8_laySteps 121 = .ok (.getfield 41, 3) := by decide +kernel
theorem dX8_laySteps_124 : decode cX8_laySteps 124 = .ok (.bipush 8, 2) := by decide +kernel
theorem dX8_laySteps_126 : decode cX8_laySteps 126 = .ok (.iload_n 3, 1) := by decide +kernel
theorem dX8_laySteps_127 : decode cX8_laySteps 127 = .ok (.imul, 1) := by decide +kernel
theorem dX8_laySteps_128 : decode cX8_laySteps 128 = .ok (.iload 4, 2) := by decide +kernel
theorem dX8_laySteps_130 : decode cX8_laySteps 130 = .ok (.iadd, 1) := by decide +kernel
theorem dX8_laySteps_131 : decode cX8_laySteps 131 = .ok (.iaload, 1) := by decide +kernel
theorem dX8_laySteps_132 : decode cX8_laySteps 132 = .ok (.iload_n 3, 1) := by decide +kernel
theorem dX8_laySteps_133 : decode cX8_laySteps 133 = .ok (.iload 4, 2) := by decide +kernel
theorem dX8_laySteps_135 : decode cX8_laySteps 135 = .ok (.invokevirtual 160, 3) := by decide +kernel
theorem dX8_laySteps_138 : decode cX8_laySteps 138 = .ok (.iinc 3 1, 3) := by decide +kernel
theorem dX8_laySteps_141 : decode cX8_laySteps 141 = .ok (.iinc 4 1, 3) := by decide +kernel
theorem dX8_laySteps_144 : decode cX8_laySteps 144 = .ok (.goto 88, 3) := by decide +kernel
theorem dX8_laySteps_147 : decode cX8_laySteps 147 = .ok (.iload_n 3, 1) := by decide +kernel
theorem dX8_laySteps_148 : decode cX8_laySteps 148 = .ok (.aload_n 0, 1) := by decide +kernel
theorem dX8_laySteps_149 : decode cX8_laySteps 149 = .ok (.getfield 13, 3) := by decide +kernel
theorem dX8_laySteps_152 : decode cX8_laySteps 152 = .ok (.iload_n 1, 1) := by decide +kernel
theorem dX8_laySteps_153 : decode cX8_laySteps 153 = .ok (.iaload, 1) := by decide +kernel
theorem dX8_laySteps_154 : decode cX8_laySteps 154 = .ok (.if_icmp .ge 56, 3) := by decide +kernel
theorem dX8_laySteps_157 : decode cX8_laySteps 157 = .ok (.aload_n 0, 1) := by decide +kernel
theorem dX8_laySteps_158 : decode cX8_laySteps 158 = .ok (.bipush 8, 2) := by decide +kernel
theorem dX8_laySteps_160 : decode cX8_laySteps 160 = .ok (.iload_n 1, 1) := by decide +kernel
theorem dX8_laySteps_161 : decode cX8_laySteps 161 = .ok (.imul, 1) := by decide +kernel
theorem dX8_laySteps_162 : decode cX8_laySteps 162 = .ok (.iload_n 3, 1) := by decide +kernel
theorem dX8_laySteps_163 : decode cX8_laySteps 163 = .ok (.iadd, 1) := by decide +kernel
theorem dX8_laySteps_164 : decode cX8_laySteps 164 = .ok (.invokevirtual 150, 3) := by decide +kernel
theorem dX8_laySteps_167 : decode cX8_laySteps 167 = .ok (.aload_n 0, 1) := by decide +kernel
theorem dX8_laySteps_168 : decode cX8_laySteps 168 = .ok (.getfield 38, 3) := by decide +kernel
theorem dX8_laySteps_171 : decode cX8_laySteps 171 = .ok (.bipush 9, 2) := by decide +kernel
theorem dX8_laySteps_173 : decode cX8_laySteps 173 = .ok (.iload_n 3, 1) := by decide +kernel
theorem dX8_laySteps_174 : decode cX8_laySteps 174 = .ok (.iconst 1, 1) := by decide +kernel
theorem dX8_laySteps_175 : decode cX8_laySteps 175 = .ok (.iadd, 1) := by decide +kernel
theorem dX8_laySteps_176 : decode cX8_laySteps 176 = .ok (.imul, 1) := by decide +kernel
theorem dX8_laySteps_177 : decode cX8_laySteps 177 = .ok (.iload 4, 2) := by decide +kernel
theorem dX8_laySteps_179 : decode cX8_laySteps 179 = .ok (.iadd, 1) := by decide +kernel
theorem dX8_laySteps_180 : decode cX8_laySteps 180 = .ok (.iaload, 1) := by decide +kernel
theorem dX8_laySteps_181 : decode cX8_laySteps 181 = .ok (.iadd, 1) := by decide +kernel
theorem dX8_laySteps_182 : decode cX8_laySteps 182 = .ok (.iload 5, 2) := by decide +kernel
theorem dX8_laySteps_184 : decode cX8_laySteps 184 = .ok (.if_icmp .ne 26, 3) := by decide +kernel
theorem dX8_laySteps_187 : decode cX8_laySteps 187 = .ok (.aload_n 0, 1) := by decide +kernel
theorem dX8_laySteps_188 : decode cX8_laySteps 188 = .ok (.iconst 1, 1) := by decide +kernel
theorem dX8_laySteps_189 : decode cX8_laySteps 189 = .ok (.aload_n 0, 1) := by decide +kernel
theorem dX8_laySteps_190 : decode cX8_laySteps 190 = .ok (.bipush 8, 2) := by decide +kernel
theorem dX8_laySteps_192 : decode cX8_laySteps 192 = .ok (.iload_n 1, 1) := by decide +kernel
theorem dX8_laySteps_193 : decode cX8_laySteps 193 = .ok (.imul, 1) := by decide +kernel
theorem dX8_laySteps_194 : decode cX8_laySteps 194 = .ok (.iload_n 3, 1) := by decide +kernel
theorem dX8_laySteps_195 : decode cX8_laySteps 195 = .ok (.iadd, 1) := by decide +kernel
theorem dX8_laySteps_196 : decode cX8_laySteps 196 = .ok (.invokevirtual 150, 3) := by decide +kernel
theorem dX8_laySteps_199 : decode cX8_laySteps 199 = .ok (.iload_n 3, 1) := by decide +kernel
theorem dX8_laySteps_200 : decode cX8_laySteps 200 = .ok (.iconst (-1), 1) := by decide +kernel
theorem dX8_laySteps_201 : decode cX8_laySteps 201 = .ok (.invokevirtual 160, 3) := by decide +kernel
theorem dX8_laySteps_204 : decode cX8_laySteps 204 = .ok (.iinc 3 1, 3) := by decide +kernel
theorem dX8_laySteps_207 : decode cX8_laySteps 207 = .ok (.goto 25, 3) := by decide +kernel
theorem dX8_laySteps_210 : decode cX8_laySteps 210 = .ok (.aload_n 0, 1) := by decide +kernel
theorem dX8_laySteps_211 : decode cX8_laySteps 211 = .ok (.iconst 2, 1) := by decide +kernel
theorem dX8_laySteps_212 : decode cX8_laySteps 212 = .ok (.aload_n 0, 1) := by decide +kernel
theorem dX8_laySteps_213 : decode cX8_laySteps 213 = .ok (.bipush 8, 2) := by decide +kernel
theorem dX8_laySteps_215 : decode cX8_laySteps 215 = .ok (.iload_n 2, 1) := by decide +kernel
theorem dX8_laySteps_216 : decode cX8_laySteps 216 = .ok (.imul, 1) := by decide +kernel
theorem dX8_laySteps_217 : decode cX8_laySteps 217 = .ok (.iload 4, 2) := by decide +kernel
theorem dX8_laySteps_219 : decode cX8_laySteps 219 = .ok (.iadd, 1) := by decide +kernel
theorem dX8_laySteps_220 : decode cX8_laySteps 220 = .ok (.invokevirtual 150, 3) := by decide +kernel
theorem dX8_laySteps_223 : decode cX8_laySteps 223 = .ok (.iconst (-1), 1) := by decide +kernel
theorem dX8_laySteps_224 : decode cX8_laySteps 224 = .ok (.iload 4, 2) := by decide +kernel
theorem dX8_laySteps_226 : decode cX8_laySteps 226 = .ok (.invokevirtual 160, 3) := by decide +kernel
theorem dX8_laySteps_229 : decode cX8_laySteps 229 = .ok (.iinc 4 1, 3) := by decide +kernel
theorem dX8_laySteps_232 : decode cX8_laySteps 232 = .ok (.goto (-216), 3) := by decide +kernel
theorem dX8_laySteps_235 : decode cX8_laySteps 235 = .ok (.return_, 1) := by decide +kernel
theorem dX8_farOf_0 : decode cX8_farOf 0 = .ok (.aload_n 0, 1) := by decide +kernel
theorem dX8_farOf_1 : decode cX8_farOf 1 = .ok (.iload_n 1, 1) := by decide +kernel
theorem dX8_farOf_2 : decode cX8_farOf 2 = .ok (.iload_n 2, 1) := by decide +kernel
theorem dX8_farOf_3 : decode cX8_farOf 3 = .ok (.invokevirtual 157, 3) := by decide +kernel
theorem dX8_farOf_6 : decode cX8_farOf 6 = .ok (.aload_n 0, 1) := by decide +kernel
theorem dX8_farOf_7 : decode cX8_farOf 7 = .ok (.getfield 38, 3) := by decide +kernel
theorem dX8_farOf_10 : decode cX8_farOf 10 = .ok (.iconst 0, 1) := by decide +kernel
theorem dX8_farOf_11 : decode cX8_farOf 11 = .ok (.iaload, 1) := by decide +kernel
theorem dX8_farOf_12 : decode cX8_farOf 12 = .ok (.ireturn, 1) := by decide +kernel
theorem dX8_costAll_0 : decode cX8_costAll 0 = .ok (.iconst 0, 1) := by decide +kernel
theorem dX8_costAll_1 : decode cX8_costAll 1 = .ok (.istore_n 2, 1) := by decide +kernel
theorem dX8_costAll_2 : decode cX8_costAll 2 = .ok (.iconst 0, 1) := by decide +kernel
theorem dX8_costAll_3 : decode cX8_costAll 3 = .ok (.istore_n 3, 1) := by decide +kernel
theorem dX8_costAll_4 : decode cX8_costAll 4 = .ok (.iload_n 3, 1) := by decide +kernel
theorem dX8_costAll_5 : decode cX8_costAll 5 = .ok (.aload_n 0, 1) := by decide +kernel
theorem dX8_costAll_6 : decode cX8_costAll 6 = .ok (.getfield 13, 3) := by decide +kernel
theorem dX8_costAll_9 : decode cX8_costAll 9 = .ok (.iload_n 1, 1) := by decide +kernel
theorem dX8_costAll_10 : decode cX8_costAll 10 = .ok (.iaload, 1) := by decide +kernel
theorem dX8_costAll_11 : decode cX8_costAll 11 = .ok (.if_icmp .ge 22, 3) := by decide +kernel
theorem dX8_costAll_14 : decode cX8_costAll 14 = .ok (.iload_n 2, 1) := by decide +kernel
theorem dX8_costAll_15 : decode cX8_costAll 15 = .ok (.aload_n 0, 1) := by decide +kernel
theorem dX8_costAll_16 : decode cX8_costAll 16 = .ok (.bipush 8, 2) := by decide +kernel
theorem dX8_costAll_18 : decode cX8_costAll 18 = .ok (.iload_n 1, 1) := by decide +kernel
theorem dX8_costAll_19 : decode cX8_costAll 19 = .ok (.imul, 1) := by decide +kernel
theorem dX8_costAll_20 : decode cX8_costAll 20 = .ok (.iload_n 3, 1) := by decide +kernel
theorem dX8_costAll_21 : decode cX8_costAll 21 = .ok (.iadd, 1) := by decide +kernel
theorem dX8_costAll_22 : decode cX8_costAll 22 = .ok (.invokevirtual 150, 3) := by decide +kernel
theorem dX8_costAll_25 : decode cX8_costAll 25 = .ok (.iadd, 1) := by decide +kernel
theorem dX8_costAll_26 : decode cX8_costAll 26 = .ok (.istore_n 2, 1) := by decide +kernel
theorem dX8_costAll_27 : decode cX8_costAll 27 = .ok (.iinc 3 1, 3) := by decide +kernel
theorem dX8_costAll_30 : decode cX8_costAll 30 = .ok (.goto (-26), 3) := by decide +kernel
theorem dX8_costAll_33 : decode cX8_costAll 33 = .ok (.iload_n 2, 1) := by decide +kernel
theorem dX8_costAll_34 : decode cX8_costAll 34 = .ok (.ireturn, 1) := by decide +kernel
theorem dX8_allOf_0 : decode cX8_allOf 0 = .ok (.aload_n 0, 1) := by decide +kernel
theorem dX8_allOf_1 : decode cX8_allOf 1 = .ok (.iload_n 1, 1) := by decide +kernel
theorem dX8_allOf_2 : decode cX8_allOf 2 = .ok (.invokevirtual 164, 3) := by decide +kernel
theorem dX8_allOf_5 : decode cX8_allOf 5 = .ok (.aload_n 0, 1) := by decide +kernel
theorem dX8_allOf_6 : decode cX8_allOf 6 = .ok (.iload_n 2, 1) := by decide +kernel
theorem dX8_allOf_7 : decode cX8_allOf 7 = .ok (.invokevirtual 164, 3) := by decide +kernel
theorem dX8_allOf_10 : decode cX8_allOf 10 = .ok (.iadd, 1) := by decide +kernel
theorem dX8_allOf_11 : decode cX8_allOf 11 = .ok (.ireturn, 1) := by decide +kernel
theorem dX8_scoreOf_0 : decode cX8_scoreOf 0 = .ok (.aload_n 0, 1) := by decide +kernel
theorem dX8_scoreOf_1 : decode cX8_scoreOf 1 = .ok (.iload_n 1, 1) := by decide +kernel
theorem dX8_scoreOf_2 : decode cX8_scoreOf 2 = .ok (.iload_n 2, 1) := by decide +kernel
theorem dX8_scoreOf_3 : decode cX8_scoreOf 3 = .ok (.invokevirtual 167, 3) := by decide +kernel
theorem dX8_scoreOf_6 : decode cX8_scoreOf 6 = .ok (.istore_n 3, 1) := by decide +kernel
theorem dX8_scoreOf_7 : decode cX8_scoreOf 7 = .ok (.sipush 1000, 3) := by decide +kernel
theorem dX8_scoreOf_10 : decode cX8_scoreOf 10 = .ok (.sipush 1000, 3) := by decide +kernel
theorem dX8_scoreOf_13 : decode cX8_scoreOf 13 = .ok (.aload_n 0, 1) := by decide +kernel
theorem dX8_scoreOf_14 : decode cX8_scoreOf 14 = .ok (.iload_n 1, 1) := by decide +kernel
theorem dX8_scoreOf_15 : decode cX8_scoreOf 15 = .ok (.iload_n 2, 1) := by decide +kernel
theorem dX8_scoreOf_16 : decode cX8_scoreOf 16 = .ok (.invokevirtual 170, 3) := by decide +kernel
theorem dX8_scoreOf_19 : decode cX8_scoreOf 19 = .ok (.imul, 1) := by decide +kernel
theorem dX8_scoreOf_20 : decode cX8_scoreOf 20 = .ok (.iload_n 3, 1) := by decide +kernel
theorem dX8_scoreOf_21 : decode cX8_scoreOf 21 = .ok (.iadd, 1) := by decide +kernel
theorem dX8_scoreOf_22 : decode cX8_scoreOf 22 = .ok (.iconst 1, 1) := by decide +kernel
theorem dX8_scoreOf_23 : decode cX8_scoreOf 23 = .ok (.isub, 1) := by decide +kernel
theorem dX8_scoreOf_24 : decode cX8_scoreOf 24 = .ok (.iload_n 3, 1) := by decide +kernel
theorem dX8_scoreOf_25 : decode cX8_scoreOf 25 = .ok (.idiv, 1) := by decide +kernel
theorem dX8_scoreOf_26 : decode cX8_scoreOf 26 = .ok (.isub, 1) := by decide +kernel
theorem dX8_scoreOf_27 : decode cX8_scoreOf 27 = .ok (.ireturn, 1) := by decide +kernel
theorem dX8_gramSign_0 : decode cX8_gramSign 0 = .ok (.iload_n 0, 1) := by decide +kernel
theorem dX8_gramSign_1 : decode cX8_gramSign 1 = .ok (.bipush 94, 2) := by decide +kernel
theorem dX8_gramSign_3 : decode cX8_gramSign 3 = .ok (.if_icmp .ne 7, 3) := by decide +kernel
theorem dX8_gramSign_6 : decode cX8_gramSign 6 = .ok (.iconst 0, 1) := by decide +kernel
theorem dX8_gramSign_7 : decode cX8_gramSign 7 = .ok (.goto 20, 3) := by decide +kernel
theorem dX8_gramSign_10 : decode cX8_gramSign 10 = .ok (.iload_n 0, 1) := by decide +kernel
theorem dX8_gramSign_11 : decode cX8_gramSign 11 = .ok (.bipush 36, 2) := by decide +kernel
theorem dX8_gramSign_13 : decode cX8_gramSign 13 = .ok (.if_icmp .ne 8, 3) := by decide +kernel
theorem dX8_gramSign_16 : decode cX8_gramSign 16 = .ok (.bipush 27, 2) := by decide +kernel
theorem dX8_gramSign_18 : decode cX8_gramSign 18 = .ok (.goto 9, 3) := by decide +kernel
theorem dX8_gramSign_21 : decode cX8_gramSign 21 = .ok (.iload_n 0, 1) := by decide +kernel
theorem dX8_gramSign_22 : decode cX8_gramSign 22 = .ok (.bipush 97, 2) := by decide +kernel
theorem dX8_gramSign_24 : decode cX8_gramSign 24 = .ok (.isub, 1) := by decide +kernel
theorem dX8_gramSign_25 : decode cX8_gramSign 25 = .ok (.iconst 1, 1) := by decide +kernel
theorem dX8_gramSign_26 : decode cX8_gramSign 26 = .ok (.iadd, 1) := by decide +kernel
theorem dX8_gramSign_27 : decode cX8_gramSign 27 = .ok (.ireturn, 1) := by decide +kernel
theorem dX8_gramAt_0 : decode cX8_gramAt 0 = .ok (.iload_n 2, 1) := by decide +kernel
theorem dX8_gramAt_1 : decode cX8_gramAt 1 = .ok (.ifCond .ne 7, 3) := by decide +kernel
theorem dX8_gramAt_4 : decode cX8_gramAt 4 = .ok (.iconst 0, 1) := by decide +kernel
theorem dX8_gramAt_5 : decode cX8_gramAt 5 = .ok (.goto 19, 3) := by decide +kernel
theorem dX8_gramAt_8 : decode cX8_gramAt 8 = .ok (.aload_n 0, 1) := by decide +kernel
theorem dX8_gramAt_9 : decode cX8_gramAt 9 = .ok (.getfield 25, 3) := by decide +kernel
theorem dX8_gramAt_12 : decode cX8_gramAt 12 = .ok (.bipush 12, 2) := by decide +kernel
theorem dX8_gramAt_14 : decode cX8_gramAt 14 = .ok (.iload_n 1, 1) := by decide +kernel
theorem dX8_gramAt_15 : decode cX8_gramAt 15 = .ok (.imul, 1) := by decide +kernel
theorem dX8_gramAt_16 : decode cX8_gramAt 16 = .ok (.iload_n 2, 1) := by decide +kernel
theorem dX8_gramAt_17 : decode cX8_gramAt 17 = .ok (.iadd, 1) := by decide +kernel
theorem dX8_gramAt_18 : decode cX8_gramAt 18 = .ok (.iconst 1, 1) := by decide +kernel
theorem dX8_gramAt_19 : decode cX8_gramAt 19 = .ok (.isub, 1) := by decide +kernel
theorem dX8_gramAt_20 : decode cX8_gramAt 20 = .ok (.iaload, 1) := by decide +kernel
theorem dX8_gramAt_21 : decode cX8_gramAt 21 = .ok (.invokestatic 173, 3) := by decide +kernel
theorem dX8_gramAt_24 : decode cX8_gramAt 24 = .ok (.istore_n 3, 1) := by decide +kernel
theorem dX8_gramAt_25 : decode cX8_gramAt 25 = .ok (.iload_n 2, 1) := by decide +kernel
theorem dX8_gramAt_26 : decode cX8_gramAt 26 = .ok (.aload_n 0, 1) := by decide +kernel
theorem dX8_gramAt_27 : decode cX8_gramAt 27 = .ok (.getfield 19, 3) := by decide +kernel
theorem dX8_gramAt_30 : decode cX8_gramAt 30 = .ok (.iload_n 1, 1) := by decide +kernel
theorem dX8_gramAt_31 : decode cX8_gramAt 31 = .ok (.iaload, 1) := by decide +kernel
theorem dX8_gramAt_32 : decode cX8_gramAt 32 = .ok (.if_icmp .ne 8, 3) := by decide +kernel
theorem dX8_gramAt_35 : decode cX8_gramAt 35 = .ok (.bipush 27, 2) := by decide +kernel
theorem dX8_gramAt_37 : decode cX8_gramAt 37 = .ok (.goto 17, 3) := by decide +kernel
theorem dX8_gramAt_40 : decode cX8_gramAt 40 = .ok (.aload_n 0, 1) := by decide +kernel
theorem dX8_gramAt_41 : decode cX8_gramAt 41 = .ok (.getfield 25, 3) := by decide +kernel
theorem dX8_gramAt_44 : decode cX8_gramAt 44 = .ok (.bipush 12, 2) := by decide +kernel
theorem dX8_gramAt_46 : decode cX8_gramAt 46 = .ok (.iload_n 1, 1) := by decide +kernel
theorem dX8_gramAt_47 : decode cX8_gramAt 47 = .ok (.imul, 1) := by decide +kernel
theorem dX8_gramAt_48 : decode cX8_gramAt 48 = .ok (.iload_n 2, 1) := by decide +kernel
theorem dX8_gramAt_49 : decode cX8_gramAt 49 = .ok (.iadd, 1) := by decide +kernel
theorem dX8_gramAt_50 : decode cX8_gramAt 50 = .ok (.iaload, 1) := by decide +kernel
theorem dX8_gramAt_51 : decode cX8_gramAt 51 = .ok (.invokestatic 173, 3) := by decide +kernel
theorem dX8_gramAt_54 : decode cX8_gramAt 54 = .ok (.istore 4, 2) := by decide +kernel
theorem dX8_gramAt_56 : decode cX8_gramAt 56 = .ok (.bipush 28, 2) := by decide +kernel
theorem dX8_gramAt_58 : decode cX8_gramAt 58 = .ok (.iload_n 3, 1) := by decide +kernel
theorem dX8_gramAt_59 : decode cX8_gramAt 59 = .ok (.imul, 1) := by decide +kernel
theorem dX8_gramAt_60 : decode cX8_gramAt 60 = .ok (.iload 4, 2) := by decide +kernel
theorem dX8_gramAt_62 : decode cX8_gramAt 62 = .ok (.iadd, 1) := by decide +kernel
theorem dX8_gramAt_63 : decode cX8_gramAt 63 = .ok (.ireturn, 1) := by decide +kernel
theorem dX8_layGrams_0 : decode cX8_layGrams 0 = .ok (.iconst 0, 1) := by decide +kernel
theorem dX8_layGrams_1 : decode cX8_layGrams 1 = .ok (.istore_n 2, 1) := by decide +kernel
theorem dX8_layGrams_2 : decode cX8_layGrams 2 = .ok (.iload_n 2, 1) := by decide +kernel
theorem dX8_layGrams_3 : decode cX8_layGrams 3 = .ok (.sipush 784, 3) := by decide +kernel
theorem dX8_layGrams_6 : decode cX8_layGrams 6 = .ok (.if_icmp .ge 16, 3) := by decide +kernel
theorem dX8_layGrams_9 : decode cX8_layGrams 9 = .ok (.aload_n 0, 1) := by decide +kernel
theorem dX8_layGrams_10 : decode cX8_layGrams 10 = .ok (.getfield 56, 3) := by decide +kernel
theorem dX8_layGrams_13 : decode cX8_layGrams 13 = .ok (.iload_n 2, 1) := by decide +kernel
theorem dX8_layGrams_14 : decode cX8_layGrams 14 = .ok (.iconst 0, 1) := by decide +kernel
theorem dX8_layGrams_15 : decode cX8_layGrams 15 = .ok (.iastore, 1) := by decide +kernel
theorem dX8_layGrams_16 : decode cX8_layGrams 16 = .ok (.iinc 2 1, 3) := by decide +kernel
theorem dX8_layGrams_19 : decode cX8_layGrams 19 = .ok (.goto (-17), 3) := by decide +kernel
theorem dX8_layGrams_22 : decode cX8_layGrams 22 = .ok (.bipush 8, 2) := by decide +kernel
theorem dX8_layGrams_24 : decode cX8_layGrams 24 = .ok (.iload_n 1, 1) := by decide +kernel
theorem dX8_layGrams_25 : decode cX8_layGrams 25 = .ok (.imul, 1) := by decide +kernel
theorem dX8_layGrams_26 : decode cX8_layGrams 26 = .ok (.istore_n 2, 1) := by decide +kernel
theorem dX8_layGrams_27 : decode cX8_layGrams 27 = .ok (.iload_n 2, 1) := by decide +kernel
theorem dX8_layGrams_28 : decode cX8_layGrams 28 = .ok (.bipush 8, 2) := by decide +kernel
theorem dX8_layGrams_30 : decode cX8_layGrams 30 = .ok (.iload_n 1, 1) := by decide +kernel
theorem dX8_layGrams_31 : decode cX8_layGrams 31 = .ok (.imul, 1) := by decide +kernel
theorem dX8_layGrams_32 : decode cX8_layGrams 32 = .ok (.aload_n 0, 1) := by decide +kernel
theorem dX8_layGrams_33 : decode cX8_layGrams 33 = .ok (.getfield 13, 3) := by decide +kernel
theorem dX8_layGrams_36 : decode cX8_layGrams 36 = .ok (.iload_n 1, 1) := by decide +kernel
theorem dX8_layGrams_37 : decode cX8_layGrams 37 = .ok (.iaload, 1) := by decide +kernel
theorem dX8_layGrams_38 : decode cX8_layGrams 38 = .ok (.iadd, 1) := by decide +kernel
theorem dX8_layGrams_39 : decode cX8_layGrams 39 = .ok (.if_icmp .ge 50, 3) := by decide +kernel
theorem dX8_layGrams_42 : decode cX8_layGrams 42 = .ok (.iconst 0, 1) := by decide +kernel
theorem dX8_layGrams_43 : decode cX8_layGrams 43 = .ok (.istore_n 3, 1) := by decide +kernel
theorem dX8_layGrams_44 : decode cX8_layGrams 44 = .ok (.iload_n 3, 1) := by decide +kernel
theorem dX8_layGrams_45 : decode cX8_layGrams 45 = .ok (.aload_n 0, 1) := by decide +kernel
theorem dX8_layGrams_46 : decode cX8_layGrams 46 = .ok (.getfield 19, 3) := by decide +kernel
theorem dX8_layGrams_49 : decode cX8_layGrams 49 = .ok (.iload_n 2, 1) := by decide +kernel
theorem dX8_layGrams_50 : decode cX8_layGrams 50 = .ok (.iaload, 1) := by decide +kernel
theorem dX8_layGrams_51 : decode cX8_layGrams 51 = .ok (.if_icmp .gt 32, 3) := by decide +kernel
theorem dX8_layGrams_54 : decode cX8_layGrams 54 = .ok (.aload_n 0, 1) := by decide +kernel
theorem dX8_layGrams_55 : decode cX8_layGrams 55 = .ok (.iload_n 2, 1) := by decide +kernel
theorem dX8_layGrams_56 : decode cX8_layGrams 56 = .ok (.invokevirtual 140, 3) := by decide +kernel
theorem dX8_layGrams_59 : decode cX8_layGrams 59 = .ok (.ifCond .eq 24, 3) := by decide +kernel
theorem dX8_layGrams_62 : decode cX8_layGrams 62 = .ok (.aload_n 0, 1) := by decide +kernel
theorem dX8_layGrams_63 : decode cX8_layGrams 63 = .ok (.getfield 56, 3) := by decide +kernel
theorem dX8_layGrams_66 : decode cX8_layGrams 66 = .ok (.aload_n 0, 1) := by decide +kernel
theorem dX8_layGrams_67 : decode cX8_layGrams 67 = .ok (.iload_n 2, 1) := by decide +kernel
theorem dX8_layGrams_68 : decode cX8_layGrams 68 = .ok (.iload_n 3, 1) := by decide +kernel
theorem dX8_layGrams_69 : decode cX8_layGrams 69 = .ok (.invokevirtual 176, 3) := by decide +kernel
theorem dX8_layGrams_72 : decode cX8_layGrams 72 = .ok (.dup2, 1) := by decide +kernel
theorem dX8_layGrams_73 : decode cX8_layGrams 73 = .ok (.iaload, 1) := by decide +kernel
theorem dX8_layGrams_74 : decode cX8_layGrams 74 = .ok (.iconst 1, 1) := by decide +kernel
theorem dX8_layGrams_75 : decode cX8_layGrams 75 = .ok (.iadd, 1) := by decide +kernel
theorem dX8_layGrams_76 : decode cX8_layGrams 76 = .ok (.iastore, 1) := by decide +kernel
theorem dX8_layGrams_77 : decode cX8_layGrams 77 = .ok (.iinc 3 1, 3) := by decide +kernel
theorem dX8_layGrams_80 : decode cX8_layGrams 80 = .ok (.goto (-36), 3) := by decide +kernel
theorem dX8_layGrams_83 : decode cX8_layGrams 83 = .ok (.iinc 2 1, 3) := by decide +kernel
theorem dX8_layGrams_86 : decode cX8_layGrams 86 = .ok (.goto (-59), 3) := by decide +kernel
theorem dX8_layGrams_89 : decode cX8_layGrams 89 = .ok (.return_, 1) := by decide +kernel
theorem dX8_gramsOf_0 : decode cX8_gramsOf 0 = .ok (.iconst 0, 1) := by decide +kernel
theorem dX8_gramsOf_1 : decode cX8_gramsOf 1 = .ok (.istore_n 2, 1) := by decide +kernel
theorem dX8_gramsOf_2 : decode cX8_gramsOf 2 = .ok (.bipush 8, 2) := by decide +kernel
theorem dX8_gramsOf_4 : decode cX8_gramsOf 4 = .ok (.iload_n 1, 1) := by decide +kernel
theorem dX8_gramsOf_5 : decode cX8_gramsOf 5 = .ok (.imul, 1) := by decide +kernel
theorem dX8_gramsOf_6 : decode cX8_gramsOf 6 = .ok (.istore_n 3, 1) := by decide +kernel
theorem dX8_gramsOf_7 : decode cX8_gramsOf 7 = .ok (.iload_n 3, 1) := by decide +kernel
theorem dX8_gramsOf_8 : decode cX8_gramsOf 8 = .ok (.bipush 8, 2) := by decide +kernel
theorem dX8_gramsOf_10 : decode cX8_gramsOf 10 = .ok (.iload_n 1, 1) := by decide +kernel
theorem dX8_gramsOf_11 : decode cX8_gramsOf 11 = .ok (.imul, 1) := by decide +kernel
theorem dX8_gramsOf_12 : decode cX8_gramsOf 12 = .ok (.aload_n 0, 1) := by decide +kernel
theorem dX8_gramsOf_13 : decode cX8_gramsOf 13 = .ok (.getfield 13, 3) := by decide +kernel
theorem dX8_gramsOf_16 : decode cX8_gramsOf 16 = .ok (.iload_n 1, 1) := by decide +kernel
theorem dX8_gramsOf_17 : decode cX8_gramsOf 17 = .ok (.iaload, 1) := by decide +kernel
theorem dX8_gramsOf_18 : decode cX8_gramsOf 18 = .ok (.iadd, 1) := by decide +kernel
theorem dX8_gramsOf_19 : decode cX8_gramsOf 19 = .ok (.if_icmp .ge 32, 3) := by decide +kernel
theorem dX8_gramsOf_22 : decode cX8_gramsOf 22 = .ok (.iload_n 2, 1) := by decide +kernel
theorem dX8_gramsOf_23 : decode cX8_gramsOf 23 = .ok (.aload_n 0, 1) := by decide +kernel
theorem dX8_gramsOf_24 : decode cX8_gramsOf 24 = .ok (.iload_n 3, 1) := by decide +kernel
theorem dX8_gramsOf_25 : decode cX8_gramsOf 25 = .ok (.invokevirtual 140, 3) := by decide +kernel
theorem dX8_gramsOf_28 : decode cX8_gramsOf 28 = .ok (.ifCond .eq 14, 3) := by decide +kernel
theorem dX8_gramsOf_31 : decode cX8_gramsOf 31 = .ok (.aload_n 0, 1) := by decide +kernel
theorem dX8_gramsOf_32 : decode cX8_gramsOf 32 = .ok (.getfield 19, 3) := by decide +kernel
theorem dX8_gramsOf_35 : decode cX8_gramsOf 35 = .ok (.iload_n 3, 1) := by decide +kernel
theorem dX8_gramsOf_36 : decode cX8_gramsOf 36 = .ok (.iaload, 1) := by decide +kernel
theorem dX8_gramsOf_37 : decode cX8_gramsOf 37 = .ok (.iconst 1, 1) := by decide +kernel
theorem dX8_gramsOf_38 : decode cX8_gramsOf 38 = .ok (.iadd, 1) := by decide +kernel
theorem dX8_gramsOf_39 : decode cX8_gramsOf 39 = .ok (.goto 4, 3) := by decide +kernel
theorem dX8_gramsOf_42 : decode cX8_gramsOf 42 = .ok (.iconst 0, 1) := by decide +kernel
theorem dX8_gramsOf_43 : decode cX8_gramsOf 43 = .ok (.iadd, 1) := by decide +kernel
theorem dX8_gramsOf_44 : decode cX8_gramsOf 44 = .ok (.istore_n 2, 1) := by decide +kernel
theorem dX8_gramsOf_45 : decode cX8_gramsOf 45 = .ok (.iinc 3 1, 3) := by decide +kernel
theorem dX8_gramsOf_48 : decode cX8_gramsOf 48 = .ok (.goto (-41), 3) := by decide +kernel
theorem dX8_gramsOf_51 : decode cX8_gramsOf 51 = .ok (.iload_n 2, 1) := by decide +kernel
theorem dX8_gramsOf_52 : decode cX8_gramsOf 52 = .ok (.ireturn, 1) := by decide +kernel
theorem dX8_sharedOf_0 : decode cX8_sharedOf 0 = .ok (.aload_n 0, 1) := by decide +kernel
theorem dX8_sharedOf_1 : decode cX8_sharedOf 1 = .ok (.iload_n 1, 1) := by decide +kernel
theorem dX8_sharedOf_2 : decode cX8_sharedOf 2 = .ok (.invokevirtual 179, 3) := by decide +kernel
theorem dX8_sharedOf_5 : decode cX8_sharedOf 5 = .ok (.iconst 0, 1) := by decide +kernel
theorem dX8_sharedOf_6 : decode cX8_sharedOf 6 = .ok (.istore_n 3, 1) := by decide +kernel
theorem dX8_sharedOf_7 : decode cX8_sharedOf 7 = .ok (.bipush 8, 2) := by decide +kernel
theorem dX8_sharedOf_9 : decode cX8_sharedOf 9 = .ok (.iload_n 2, 1) := by decide +kernel
theorem dX8_sharedOf_10 : decode cX8_sharedOf 10 = .ok (.imul, 1) := by decide +kernel
theorem dX8_sharedOf_11 : decode cX8_sharedOf 11 = .ok (.istore 4, 2) := by decide +kernel
theorem dX8_sharedOf_13 : decode cX8_sharedOf 13 = .ok (.iload 4, 2) := by decide +kernel
theorem dX8_sharedOf_15 : decode cX8_sharedOf 15 = .ok (.bipush 8, 2) := by decide +kernel
theorem dX8_sharedOf_17 : decode cX8_sharedOf 17 = .ok (.iload_n 2, 1) := by decide +kernel
theorem dX8_sharedOf_18 : decode cX8_sharedOf 18 = .ok (.imul, 1) := by decide +kernel
theorem dX8_sharedOf_19 : decode cX8_sharedOf 19 = .ok (.aload_n 0, 1) := by decide +kernel
theorem dX8_sharedOf_20 : decode cX8_sharedOf 20 = .ok (.getfield 13, 3) := by decide +kernel
theorem dX8_sharedOf_23 : decode cX8_sharedOf 23 = .ok (.iload_n 2, 1) := by decide +kernel
theorem dX8_sharedOf_24 : decode cX8_sharedOf 24 = .ok (.iaload, 1) := by decide +kernel
theorem dX8_sharedOf_25 : decode cX8_sharedOf 25 = .ok (.iadd, 1) := by decide +kernel
theorem dX8_sharedOf_26 : decode cX8_sharedOf 26 = .ok (.if_icmp .ge 92, 3) := by decide +kernel
theorem dX8_sharedOf_29 : decode cX8_sharedOf 29 = .ok (.iconst 0, 1) := by decide +kernel
theorem dX8_sharedOf_30 : decode cX8_sharedOf 30 = .ok (.istore 5, 2) := by decide +kernel
theorem dX8_sharedOf_32 : decode cX8_sharedOf 32 = .ok (.iload 5, 2) := by decide +kernel
theorem dX8_sharedOf_34 : decode cX8_sharedOf 34 = .ok (.aload_n 0, 1) := by decide +kernel
theorem dX8_sharedOf_35 : decode cX8_sharedOf 35 = .ok (.getfield 19, 3) := by decide +kernel
theorem dX8_sharedOf_38 : decode cX8_sharedOf 38 = .ok (.iload 4, 2) := by decide +kernel
theorem dX8_sharedOf_40 : decode cX8_sharedOf 40 = .ok (.iaload, 1) := by decide +kernel
theorem dX8_sharedOf_41 : decode cX8_sharedOf 41 = .ok (.if_icmp .gt 71, 3) := by decide +kernel
theorem dX8_sharedOf_44 : decode cX8_sharedOf 44 = .ok (.aload_n 0, 1) := by decide +kernel
theorem dX8_sharedOf_45 : decode cX8_sharedOf 45 = .ok (.iload 4, 2) := by decide +kernel
theorem dX8_sharedOf_47 : decode cX8_sharedOf 47 = .ok (.invokevirtual 140, 3) := by decide +kernel
theorem dX8_sharedOf_50 : decode cX8_sharedOf 50 = .ok (.ifCond .eq 62, 3) := by decide +kernel
theorem dX8_sharedOf_53 : decode cX8_sharedOf 53 = .ok (.aload_n 0, 1) := by decide +kernel
theorem dX8_sharedOf_54 : decode cX8_sharedOf 54 = .ok (.iload 4, 2) := by decide +kernel
theorem dX8_sharedOf_56 : decode cX8_sharedOf 56 = .ok (.iload 5, 2) := by decide +kernel
theorem dX8_sharedOf_58 : decode cX8_sharedOf 58 = .ok (.invokevirtual 176, 3) := by decide +kernel
theorem dX8_sharedOf_61 : decode cX8_sharedOf 61 = .ok (.istore 6, 2) := by decide +kernel
theorem dX8_sharedOf_63 : decode cX8_sharedOf 63 = .ok (.iload_n 3, 1) := by decide +kernel
theorem dX8_sharedOf_64 : decode cX8_sharedOf 64 = .ok (.aload_n 0, 1) := by decide +kernel
theorem dX8_sharedOf_65 : decode cX8_sharedOf 65 = .ok (.getfield 56, 3) := by decide +kernel
theorem dX8_sharedOf_68 : decode cX8_sharedOf 68 = .ok (.iload 6, 2) := by decide +kernel
theorem dX8_sharedOf_70 : decode cX8_sharedOf 70 = .ok (.iaload, 1) := by decide +kernel
theorem dX8_sharedOf_71 : decode cX8_sharedOf 71 = .ok (.ifCond .le 7, 3) := by decide +kernel
theorem dX8_sharedOf_74 : decode cX8_sharedOf 74 = .ok (.iconst 1, 1) := by decide +kernel
theorem dX8_sharedOf_75 : decode cX8_sharedOf 75 = .ok (.goto 4, 3) := by decide +kernel
theorem dX8_sharedOf_78 : decode cX8_sharedOf 78 = .ok (.iconst 0, 1) := by decide +kernel
theorem dX8_sharedOf_79 : decode cX8_sharedOf 79 = .ok (.iadd, 1) := by decide +kernel
theorem dX8_sharedOf_80 : decode cX8_sharedOf 80 = .ok (.istore_n 3, 1) := by decide +kernel
theorem dX8_sharedOf_81 : decode cX8_sharedOf 81 = .ok (.aload_n 0, 1) := by decide +kernel
theorem dX8_sharedOf_82 : decode cX8_sharedOf 82 = .ok (.getfield 56, 3) := by decide +kernel
theorem dX8_sharedOf_85 : decode cX8_sharedOf 85 = .ok (.iload 6, 2) := by decide +kernel
theorem dX8_sharedOf_87 : decode cX8_sharedOf 87 = .ok (.dup2, 1) := by decide +kernel
theorem dX8_sharedOf_88 : decode cX8_sharedOf 88 = .ok (.iaload, 1) := by decide +kernel
theorem dX8_sharedOf_89 : decode cX8_sharedOf 89 = .ok (.aload_n 0, 1) := by decide +kernel
theorem dX8_sharedOf_90 : decode cX8_sharedOf 90 = .ok (.getfield 56, 3) := by decide +kernel
theorem dX8_sharedOf_93 : decode cX8_sharedOf 93 = .ok (.iload 6, 2) := by decide +kernel
theorem dX8_sharedOf_95 : decode cX8_sharedOf 95 = .ok (.iaload, 1) := by decide +kernel
theorem dX8_sharedOf_96 : decode cX8_sharedOf 96 = .ok (.ifCond .le 7, 3) := by decide +kernel
theorem dX8_sharedOf_99 : decode cX8_sharedOf 99 = .ok (.iconst 1, 1) := by decide +kernel
theorem dX8_sharedOf_100 : decode cX8_sharedOf 100 = .ok (.goto 4, 3) := by decide +kernel
theorem dX8_sharedOf_103 : decode cX8_sharedOf 103 = .ok (.iconst 0, 1) := by decide +kernel
theorem dX8_sharedOf_104 : decode cX8_sharedOf 104 = .ok (.isub, 1) := by decide +kernel
theorem dX8_sharedOf_105 : decode cX8_sharedOf 105 = .ok (.iastore, 1) := by decide +kernel
theorem dX8_sharedOf_106 : decode cX8_sharedOf 106 = .ok (.iinc 5 1, 3) := by decide +kernel
theorem dX8_sharedOf_109 : decode cX8_sharedOf 109 = .ok (.goto (-77), 3) := by decide +kernel
theorem dX8_sharedOf_112 : decode cX8_sharedOf 112 = .ok (.iinc 4 1, 3) := by decide +kernel
theorem dX8_sharedOf_115 : decode cX8_sharedOf 115 = .ok (.goto (-102), 3) := by decide +kernel
theorem dX8_sharedOf_118 : decode cX8_sharedOf 118 = .ok (.iload_n 3, 1) := by decide +kernel
theorem dX8_sharedOf_119 : decode cX8_sharedOf 119 = .ok (.ireturn, 1) := by decide +kernel
theorem dX8_wordsOf_0 : decode cX8_wordsOf 0 = .ok (.iconst 0, 1) := by decide +kernel
theorem dX8_wordsOf_1 : decode cX8_wordsOf 1 = .ok (.istore_n 2, 1) := by decide +kernel
theorem dX8_wordsOf_2 : decode cX8_wordsOf 2 = .ok (.iconst 0, 1) := by decide +kernel
theorem dX8_wordsOf_3 : decode cX8_wordsOf 3 = .ok (.istore_n 3, 1) := by decide +kernel
theorem dX8_wordsOf_4 : decode cX8_wordsOf 4 = .ok (.iload_n 3, 1) := by decide +kernel
theorem dX8_wordsOf_5 : decode cX8_wordsOf 5 = .ok (.aload_n 0, 1) := by decide +kernel
theorem dX8_wordsOf_6 : decode cX8_wordsOf 6 = .ok (.getfield 13, 3) := by decide +kernel
theorem dX8_wordsOf_9 : decode cX8_wordsOf 9 = .ok (.iload_n 1, 1) := by decide +kernel
theorem dX8_wordsOf_10 : decode cX8_wordsOf 10 = .ok (.iaload, 1) := by decide +kernel
theorem dX8_wordsOf_11 : decode cX8_wordsOf 11 = .ok (.if_icmp .ge 30, 3) := by decide +kernel
theorem dX8_wordsOf_14 : decode cX8_wordsOf 14 = .ok (.iload_n 2, 1) := by decide +kernel
theorem dX8_wordsOf_15 : decode cX8_wordsOf 15 = .ok (.aload_n 0, 1) := by decide +kernel
theorem dX8_wordsOf_16 : decode cX8_wordsOf 16 = .ok (.bipush 8, 2) := by decide +kernel
theorem dX8_wordsOf_18 : decode cX8_wordsOf 18 = .ok (.iload_n 1, 1) := by decide +kernel
theorem dX8_wordsOf_19 : decode cX8_wordsOf 19 = .ok (.imul, 1) := by decide +kernel
theorem dX8_wordsOf_20 : decode cX8_wordsOf 20 = .ok (.iload_n 3, 1) := by decide +kernel
theorem dX8_wordsOf_21 : decode cX8_wordsOf 21 = .ok (.iadd, 1) := by decide +kernel
theorem dX8_wordsOf_22 : decode cX8_wordsOf 22 = .ok (.invokevirtual 140, 3) := by decide +kernel
theorem dX8_wordsOf_25 : decode cX8_wordsOf 25 = .ok (.ifCond .eq 7, 3) := by decide +kernel
theorem dX8_wordsOf_28 : decode cX8_wordsOf 28 = .ok (.iconst 1, 1) := by decide +kernel
theorem dX8_wordsOf_29 : decode cX8_wordsOf 29 = .ok (.goto 4, 3) := by decide +kernel
theorem dX8_wordsOf_32 : decode cX8_wordsOf 32 = .ok (.iconst 0, 1) := by decide +kernel
theorem dX8_wordsOf_33 : decode cX8_wordsOf 33 = .ok (.iadd, 1) := by decide +kernel
theorem dX8_wordsOf_34 : decode cX8_wordsOf 34 = .ok (.istore_n 2, 1) := by decide +kernel
theorem dX8_wordsOf_35 : decode cX8_wordsOf 35 = .ok (.iinc 3 1, 3) := by decide +kernel
theorem dX8_wordsOf_38 : decode cX8_wordsOf 38 = .ok (.goto (-34), 3) := by decide +kernel
theorem dX8_wordsOf_41 : decode cX8_wordsOf 41 = .ok (.iload_n 2, 1) := by decide +kernel
theorem dX8_wordsOf_42 : decode cX8_wordsOf 42 = .ok (.ireturn, 1) := by decide +kernel
theorem dX8_tagsOf_0 : decode cX8_tagsOf 0 = .ok (.aload_n 0, 1) := by decide +kernel
theorem dX8_tagsOf_1 : decode cX8_tagsOf 1 = .ok (.getfield 13, 3) := by decide +kernel
theorem dX8_tagsOf_4 : decode cX8_tagsOf 4 = .ok (.iload_n 1, 1) := by decide +kernel
theorem dX8_tagsOf_5 : decode cX8_tagsOf 5 = .ok (.iaload, 1) := by decide +kernel
theorem dX8_tagsOf_6 : decode cX8_tagsOf 6 = .ok (.aload_n 0, 1) := by decide +kernel
theorem dX8_tagsOf_7 : decode cX8_tagsOf 7 = .ok (.iload_n 1, 1) := by decide +kernel
theorem dX8_tagsOf_8 : decode cX8_tagsOf 8 = .ok (.invokevirtual 183, 3) := by decide +kernel
theorem dX8_tagsOf_11 : decode cX8_tagsOf 11 = .ok (.isub, 1) := by decide +kernel
theorem dX8_tagsOf_12 : decode cX8_tagsOf 12 = .ok (.ireturn, 1) := by decide +kernel
theorem dX8_segmentNow_0 : decode cX8_segmentNow 0 = .ok (.iload_n 2, 1) := by decide +kernel
theorem dX8_segmentNow_1 : decode cX8_segmentNow 1 = .ok (.tableswitch 66 0 4 #[35, 42, 48, 54, 60], 35) := by decide +kernel
theorem dX8_segmentNow_36 : decode cX8_segmentNow 36 = .ok (.aload_n 0, 1) := by decide +kernel
theorem dX8_segmentNow_37 : decode cX8_segmentNow 37 = .ok (.getfield 13, 3) := by decide +kernel
theorem dX8_segmentNow_40 : decode cX8_segmentNow 40 = .ok (.iload_n 1, 1) := by decide +kernel
theorem dX8_segmentNow_41 : decode cX8_segmentNow 41 = .ok (.iaload, 1) := by decide +kernel
theorem dX8_segmentNow_42 : decode cX8_segmentNow 42 = .ok (.ireturn, 1) := by decide +kernel
theorem dX8_segmentNow_43 : decode cX8_segmentNow 43 = .ok (.aload_n 0, 1) := by decide +kernel
theorem dX8_segmentNow_44 : decode cX8_segmentNow 44 = .ok (.iload_n 1, 1) := by decide +kernel
theorem dX8_segmentNow_45 : decode cX8_segmentNow 45 = .ok (.invokevirtual 183, 3) := by decide +kernel
theorem dX8_segmentNow_48 : decode cX8_segmentNow 48 = .ok (.ireturn, 1) := by decide +kernel
theorem dX8_segmentNow_49 : decode cX8_segmentNow 49 = .ok (.aload_n 0, 1) := by decide +kernel
theorem dX8_segmentNow_50 : decode cX8_segmentNow 50 = .ok (.iload_n 1, 1) := by decide +kernel
theorem dX8_segmentNow_51 : decode cX8_segmentNow 51 = .ok (.invokevirtual 186, 3) := by decide +kernel
theorem dX8_segmentNow_54 : decode cX8_segmentNow 54 = .ok (.ireturn, 1) := by decide +kernel
theorem dX8_segmentNow_55 : decode cX8_segmentNow 55 = .ok (.aload_n 0, 1) := by decide +kernel
theorem dX8_segmentNow_56 : decode cX8_segmentNow 56 = .ok (.iload_n 1, 1) := by decide +kernel
theorem dX8_segmentNow_57 : decode cX8_segmentNow 57 = .ok (.invokevirtual 189, 3) := by decide +kernel
theorem dX8_segmentNow_60 : decode cX8_segmentNow 60 = .ok (.ireturn, 1) := by decide +kernel
theorem dX8_segmentNow_61 : decode cX8_segmentNow 61 = .ok (.aload_n 0, 1) := by decide +kernel
theorem dX8_segmentNow_62 : decode cX8_segmentNow 62 = .ok (.iload_n 1, 1) := by decide +kernel
theorem dX8_segmentNow_63 : decode cX8_segmentNow 63 = .ok (.invokevirtual 164, 3) := by decide +kernel
theorem dX8_segmentNow_66 : decode cX8_segmentNow 66 = .ok (.ireturn, 1) := by decide +kernel
theorem dX8_segmentNow_67 : decode cX8_segmentNow 67 = .ok (.aload_n 0, 1) := by decide +kernel
theorem dX8_segmentNow_68 : decode cX8_segmentNow 68 = .ok (.getfield 16, 3) := by decide +kernel
theorem dX8_segmentNow_71 : decode cX8_segmentNow 71 = .ok (.iload_n 1, 1) := by decide +kernel
theorem dX8_segmentNow_72 : decode cX8_segmentNow 72 = .ok (.iaload, 1) := by decide +kernel
theorem dX8_segmentNow_73 : decode cX8_segmentNow 73 = .ok (.ireturn, 1) := by decide +kernel
theorem dX8_segment_0 : decode cX8_segment 0 = .ok (.aload_n 0, 1) := by decide +kernel
theorem dX8_segment_1 : decode cX8_segment 1 = .ok (.iload_n 1, 1) := by decide +kernel
theorem dX8_segment_2 : decode cX8_segment 2 = .ok (.invokevirtual 120, 3) := by decide +kernel
theorem dX8_segment_5 : decode cX8_segment 5 = .ok (.ifCond .ne 7, 3) := by decide +kernel
theorem dX8_segment_8 : decode cX8_segment 8 = .ok (.sipush (-1001), 3) := by decide +kernel
theorem dX8_segment_11 : decode cX8_segment 11 = .ok (.ireturn, 1) := by decide +kernel
theorem dX8_segment_12 : decode cX8_segment 12 = .ok (.iload_n 2, 1) := by decide +kernel
theorem dX8_segment_13 : decode cX8_segment 13 = .ok (.iconst 0, 1) := by decide +kernel
theorem dX8_segment_14 : decode cX8_segment 14 = .ok (.iconst 5, 1) := by decide +kernel
theorem dX8_segment_15 : decode cX8_segment 15 = .ok (.invokestatic 75, 3) := by decide +kernel
theorem dX8_segment_18 : decode cX8_segment 18 = .ok (.ifCond .eq 12, 3) := by decide +kernel
theorem dX8_segment_21 : decode cX8_segment 21 = .ok (.aload_n 0, 1) := by decide +kernel
theorem dX8_segment_22 : decode cX8_segment 22 = .ok (.iload_n 1, 1) := by decide +kernel
theorem dX8_segment_23 : decode cX8_segment 23 = .ok (.iload_n 2, 1) := by decide +kernel
theorem dX8_segment_24 : decode cX8_segment 24 = .ok (.invokevirtual 192, 3) := by decide +kernel
theorem dX8_segment_27 : decode cX8_segment 27 = .ok (.goto 6, 3) := by decide +kernel
theorem dX8_segment_30 : decode cX8_segment 30 = .ok (.sipush (-1002), 3) := by decide +kernel
theorem dX8_segment_33 : decode cX8_segment 33 = .ok (.ireturn, 1) := by decide +kernel
theorem dX8_isSign_0 : decode cX8_isSign 0 = .ok (.aload_n 0, 1) := by decide +kernel
theorem dX8_isSign_1 : decode cX8_isSign 1 = .ok (.iload_n 1, 1) := by decide +kernel
theorem dX8_isSign_2 : decode cX8_isSign 2 = .ok (.invokevirtual 120, 3) := by decide +kernel
theorem dX8_isSign_5 : decode cX8_isSign 5 = .ok (.ifCond .eq 23, 3) := by decide +kernel
theorem dX8_isSign_8 : decode cX8_isSign 8 = .ok (.iload_n 2, 1) := by decide +kernel
theorem dX8_isSign_9 : decode cX8_isSign 9 = .ok (.iconst 0, 1) := by decide +kernel
theorem dX8_isSign_10 : decode cX8_isSign 10 = .ok (.aload_n 0, 1) := by decide +kernel
theorem dX8_isSign_11 : decode cX8_isSign 11 = .ok (.getfield 13, 3) := by decide +kernel
theorem dX8_isSign_14 : decode cX8_isSign 14 = .ok (.iload_n 1, 1) := by decide +kernel
theorem dX8_isSign_15 : decode cX8_isSign 15 = .ok (.iaload, 1) := by decide +kernel
theorem dX8_isSign_16 : decode cX8_isSign 16 = .ok (.iconst 1, 1) := by decide +kernel
theorem dX8_isSign_17 : decode cX8_isSign 17 = .ok (.isub, 1) := by decide +kernel
theorem dX8_isSign_18 : decode cX8_isSign 18 = .ok (.invokestatic 75, 3) := by decide +kernel
theorem dX8_isSign_21 : decode cX8_isSign 21 = .ok (.ifCond .eq 7, 3) := by decide +kernel
theorem dX8_isSign_24 : decode cX8_isSign 24 = .ok (.iconst 1, 1) := by decide +kernel
theorem dX8_isSign_25 : decode cX8_isSign 25 = .ok (.goto 4, 3) := by decide +kernel
theorem dX8_isSign_28 : decode cX8_isSign 28 = .ok (.iconst 0, 1) := by decide +kernel
theorem dX8_isSign_29 : decode cX8_isSign 29 = .ok (.ireturn, 1) := by decide +kernel
theorem dX8_signNow_0 : decode cX8_signNow 0 = .ok (.iload_n 2, 1) := by decide +kernel
theorem dX8_signNow_1 : decode cX8_signNow 1 = .ok (.iconst 2, 1) := by decide +kernel
theorem dX8_signNow_2 : decode cX8_signNow 2 = .ok (.if_icmp .ge 35, 3) := by decide +kernel
theorem dX8_signNow_5 : decode cX8_signNow 5 = .ok (.iload_n 2, 1) := by decide +kernel
theorem dX8_signNow_6 : decode cX8_signNow 6 = .ok (.ifCond .ne 12, 3) := by decide +kernel
theorem dX8_signNow_9 : decode cX8_signNow 9 = .ok (.aload_n 0, 1) := by decide +kernel
theorem dX8_signNow_10 : decode cX8_signNow 10 = .ok (.getfield 19, 3) := by decide +kernel
theorem dX8_signNow_13 : decode cX8_signNow 13 = .ok (.iload_n 1, 1) := by decide +kernel
theorem dX8_signNow_14 : decode cX8_signNow 14 = .ok (.iaload, 1) := by decide +kernel
theorem dX8_signNow_15 : decode cX8_signNow 15 = .ok (.goto 21, 3) := by decide +kernel
theorem dX8_signNow_18 : decode cX8_signNow 18 = .ok (.aload_n 0, 1) := by decide +kernel
theorem dX8_signNow_19 : decode cX8_signNow 19 = .ok (.iload_n 1, 1) := by decide +kernel
theorem dX8_signNow_20 : decode cX8_signNow 20 = .ok (.invokevirtual 140, 3) := by decide +kernel
theorem dX8_signNow_23 : decode cX8_signNow 23 = .ok (.ifCond .eq 7, 3) := by decide +kernel
theorem dX8_signNow_26 : decode cX8_signNow 26 = .ok (.iconst 0, 1) := by decide +kernel
theorem dX8_signNow_27 : decode cX8_signNow 27 = .ok (.goto 9, 3) := by decide +kernel
theorem dX8_signNow_30 : decode cX8_signNow 30 = .ok (.aload_n 0, 1) := by decide +kernel
theorem dX8_signNow_31 : decode cX8_signNow 31 = .ok (.getfield 22, 3) := by decide +kernel
theorem dX8_signNow_34 : decode cX8_signNow 34 = .ok (.iload_n 1, 1) := by decide +kernel
theorem dX8_signNow_35 : decode cX8_signNow 35 = .ok (.iaload, 1) := by decide +kernel
theorem dX8_signNow_36 : decode cX8_signNow 36 = .ok (.ireturn, 1) := by decide +kernel
theorem dX8_signNow_37 : decode cX8_signNow 37 = .ok (.iload_n 2, 1) := by decide +kernel
theorem dX8_signNow_38 : decode cX8_signNow 38 = .ok (.iconst 2, 1) := by decide +kernel
theorem dX8_signNow_39 : decode cX8_signNow 39 = .ok (.isub, 1) := by decide +kernel
theorem dX8_signNow_40 : decode cX8_signNow 40 = .ok (.aload_n 0, 1) := by decide +kernel
theorem dX8_signNow_41 : decode cX8_signNow 41 = .ok (.getfield 19, 3) := by decide +kernel
theorem dX8_signNow_44 : decode cX8_signNow 44 = .ok (.iload_n 1, 1) := by decide +kernel
theorem dX8_signNow_45 : decode cX8_signNow 45 = .ok (.iaload, 1) := by decide +kernel
theorem dX8_signNow_46 : decode cX8_signNow 46 = .ok (.if_icmp .ge 19, 3) := by decide +kernel
theorem dX8_signNow_49 : decode cX8_signNow 49 = .ok (.aload_n 0, 1) := by decide +kernel
theorem dX8_signNow_50 : decode cX8_signNow 50 = .ok (.getfield 25, 3) := by decide +kernel
theorem dX8_signNow_53 : decode cX8_signNow 53 = .ok (.bipush 12, 2) := by decide +kernel
theorem dX8_signNow_55 : decode cX8_signNow 55 = .ok (.iload_n 1, 1) := by decide +kernel
theorem dX8_signNow_56 : decode cX8_signNow 56 = .ok (.imul, 1) := by decide +kernel
theorem dX8_signNow_57 : decode cX8_signNow 57 = .ok (.iload_n 2, 1) := by decide +kernel
theorem dX8_signNow_58 : decode cX8_signNow 58 = .ok (.iadd, 1) := by decide +kernel
theorem dX8_signNow_59 : decode cX8_signNow 59 = .ok (.iconst 2, 1) := by decide +kernel
theorem dX8_signNow_60 : decode cX8_signNow 60 = .ok (.isub, 1) := by decide +kernel
theorem dX8_signNow_61 : decode cX8_signNow 61 = .ok (.iaload, 1) := by decide +kernel
theorem dX8_signNow_62 : decode cX8_signNow 62 = .ok (.goto 4, 3) := by decide +kernel
theorem dX8_signNow_65 : decode cX8_signNow 65 = .ok (.iconst (-1), 1) := by decide +kernel
theorem dX8_signNow_66 : decode cX8_signNow 66 = .ok (.ireturn, 1) := by decide +kernel
theorem dX8_sign_0 : decode cX8_sign 0 = .ok (.aload_n 0, 1) := by decide +kernel
theorem dX8_sign_1 : decode cX8_sign 1 = .ok (.iload_n 1, 1) := by decide +kernel
theorem dX8_sign_2 : decode cX8_sign 2 = .ok (.iload_n 2, 1) := by decide +kernel
theorem dX8_sign_3 : decode cX8_sign 3 = .ok (.invokevirtual 195, 3) := by decide +kernel
theorem dX8_sign_6 : decode cX8_sign 6 = .ok (.ifCond .ne 7, 3) := by decide +kernel
theorem dX8_sign_9 : decode cX8_sign 9 = .ok (.sipush (-1001), 3) := by decide +kernel
theorem dX8_sign_12 : decode cX8_sign 12 = .ok (.ireturn, 1) := by decide +kernel
theorem dX8_sign_13 : decode cX8_sign 13 = .ok (.iload_n 3, 1) := by decide +kernel
theorem dX8_sign_14 : decode cX8_sign 14 = .ok (.iconst 0, 1) := by decide +kernel
theorem dX8_sign_15 : decode cX8_sign 15 = .ok (.bipush 13, 2) := by decide +kernel
theorem dX8_sign_17 : decode cX8_sign 17 = .ok (.invokestatic 75, 3) := by decide +kernel
theorem dX8_sign_20 : decode cX8_sign 20 = .ok (.ifCond .eq 17, 3) := by decide +kernel
theorem dX8_sign_23 : decode cX8_sign 23 = .ok (.aload_n 0, 1) := by decide +kernel
theorem dX8_sign_24 : decode cX8_sign 24 = .ok (.bipush 8, 2) := by decide +kernel
theorem dX8_sign_26 : decode cX8_sign 26 = .ok (.iload_n 1, 1) := by decide +kernel
theorem dX8_sign_27 : decode cX8_sign 27 = .ok (.imul, 1) := by decide +kernel
theorem dX8_sign_28 : decode cX8_sign 28 = .ok (.iload_n 2, 1) := by decide +kernel
theorem dX8_sign_29 : decode cX8_sign 29 = .ok (.iadd, 1) := by decide +kernel
theorem dX8_sign_30 : decode cX8_sign 30 = .ok (.iload_n 3, 1) := by decide +kernel
theorem dX8_sign_31 : decode cX8_sign 31 = .ok (.invokevirtual 198, 3) := by decide +kernel
theorem dX8_sign_34 : decode cX8_sign 34 = .ok (.goto 6, 3) := by decide +kernel
theorem dX8_sign_37 : decode cX8_sign 37 = .ok (.sipush (-1002), 3) := by decide +kernel
theorem dX8_sign_40 : decode cX8_sign 40 = .ok (.ireturn, 1) := by decide +kernel
theorem dX8_alike_0 : decode cX8_alike 0 = .ok (.aload_n 0, 1) := by decide +kernel
theorem dX8_alike_1 : decode cX8_alike 1 = .ok (.iload_n 1, 1) := by decide +kernel
theorem dX8_alike_2 : decode cX8_alike 2 = .ok (.iload_n 2, 1) := by decide +kernel
theorem dX8_alike_3 : decode cX8_alike 3 = .ok (.invokevirtual 195, 3) := by decide +kernel
theorem dX8_alike_6 : decode cX8_alike 6 = .ok (.ifCond .eq 13, 3) := by decide +kernel
theorem dX8_alike_9 : decode cX8_alike 9 = .ok (.aload_n 0, 1) := by decide +kernel
theorem dX8_alike_10 : decode cX8_alike 10 = .ok (.iload_n 3, 1) := by decide +kernel
theorem dX8_alike_11 : decode cX8_alike 11 = .ok (.iload 4, 2) := by decide +kernel
theorem dX8_alike_13 : decode cX8_alike 13 = .ok (.invokevirtual 195, 3) := by decide +kernel
theorem dX8_alike_16 : decode cX8_alike 16 = .ok (.ifCond .ne 7, 3) := by decide +kernel
theorem dX8_alike_19 : decode cX8_alike 19 = .ok (.sipush (-1001), 3) := by decide +kernel
theorem dX8_alike_22 : decode cX8_alike 22 = .ok (.ireturn, 1) := by decide +kernel
theorem dX8_alike_23 : decode cX8_alike 23 = .ok (.aload_n 0, 1) := by decide +kernel
theorem dX8_alike_24 : decode cX8_alike 24 = .ok (.bipush 8, 2) := by decide +kernel
theorem dX8_alike_26 : decode cX8_alike 26 = .ok (.iload_n 1, 1) := by decide +kernel
theorem dX8_alike_27 : decode cX8_alike 27 = .ok (.imul, 1) := by decide +kernel
theorem dX8_alike_28 : decode cX8_alike 28 = .ok (.iload_n 2, 1) := by decide +kernel
theorem dX8_alike_29 : decode cX8_alike 29 = .ok (.iadd, 1) := by decide +kernel
theorem dX8_alike_30 : decode cX8_alike 30 = .ok (.invokevirtual 140, 3) := by decide +kernel
theorem dX8_alike_33 : decode cX8_alike 33 = .ok (.ifCond .eq 21, 3) := by decide +kernel
theorem dX8_alike_36 : decode cX8_alike 36 = .ok (.aload_n 0, 1) := by decide +kernel
theorem dX8_alike_37 : decode cX8_alike 37 = .ok (.bipush 8, 2) := by decide +kernel
theorem dX8_alike_39 : decode cX8_alike 39 = .ok (.iload_n 3, 1) := by decide +kernel
theorem dX8_alike_40 : decode cX8_alike 40 = .ok (.imul, 1) := by decide +kernel
theorem dX8_alike_41 : decode cX8_alike 41 = .ok (.iload 4, 2) := by decide +kernel
theorem dX8_alike_43 : decode cX8_alike 43 = .ok (.iadd, 1) := by decide +kernel
theorem dX8_alike_44 : decode cX8_alike 44 = .ok (.invokevirtual 140, 3) := by decide +kernel
theorem dX8_alike_47 : decode cX8_alike 47 = .ok (.ifCond .eq 7, 3) := by decide +kernel
theorem dX8_alike_50 : decode cX8_alike 50 = .ok (.iconst 1, 1) := by decide +kernel
theorem dX8_alike_51 : decode cX8_alike 51 = .ok (.goto 4, 3) := by decide +kernel
theorem dX8_alike_54 : decode cX8_alike 54 = .ok (.iconst 0, 1) := by decide +kernel
theorem dX8_alike_55 : decode cX8_alike 55 = .ok (.istore 5, 2) := by decide +kernel
theorem dX8_alike_57 : decode cX8_alike 57 = .ok (.iload 5, 2) := by decide +kernel
theorem dX8_alike_59 : decode cX8_alike 59 = .ok (.ifCond .eq 23, 3) := by decide +kernel
theorem dX8_alike_62 : decode cX8_alike 62 = .ok (.aload_n 0, 1) := by decide +kernel
theorem dX8_alike_63 : decode cX8_alike 63 = .ok (.bipush 8, 2) := by decide +kernel
theorem dX8_alike_65 : decode cX8_alike 65 = .ok (.iload_n 1, 1) := by decide +kernel
theorem dX8_alike_66 : decode cX8_alike 66 = .ok (.imul, 1) := by decide +kernel
theorem dX8_alike_67 : decode cX8_alike 67 = .ok (.iload_n 2, 1) := by decide +kernel
theorem dX8_alike_68 : decode cX8_alike 68 = .ok (.iadd, 1) := by decide +kernel
theorem dX8_alike_69 : decode cX8_alike 69 = .ok (.bipush 8, 2) := by decide +kernel
theorem dX8_alike_71 : decode cX8_alike 71 = .ok (.iload_n 3, 1) := by decide +kernel
theorem dX8_alike_72 : decode cX8_alike 72 = .ok (.imul, 1) := by decide +kernel
theorem dX8_alike_73 : decode cX8_alike 73 = .ok (.iload 4, 2) := by decide +kernel
theorem dX8_alike_75 : decode cX8_alike 75 = .ok (.iadd, 1) := by decide +kernel
theorem dX8_alike_76 : decode cX8_alike 76 = .ok (.invokevirtual 144, 3) := by decide +kernel
theorem dX8_alike_79 : decode cX8_alike 79 = .ok (.goto 4, 3) := by decide +kernel
theorem dX8_alike_82 : decode cX8_alike 82 = .ok (.iconst (-1), 1) := by decide +kernel
theorem dX8_alike_83 : decode cX8_alike 83 = .ok (.ireturn, 1) := by decide +kernel
theorem dX8_stepsOf_0 : decode cX8_stepsOf 0 = .ok (.aload_n 0, 1) := by decide +kernel
theorem dX8_stepsOf_1 : decode cX8_stepsOf 1 = .ok (.iload_n 1, 1) := by decide +kernel
theorem dX8_stepsOf_2 : decode cX8_stepsOf 2 = .ok (.iload_n 2, 1) := by decide +kernel
theorem dX8_stepsOf_3 : decode cX8_stepsOf 3 = .ok (.invokevirtual 201, 3) := by decide +kernel
theorem dX8_stepsOf_6 : decode cX8_stepsOf 6 = .ok (.aload_n 0, 1) := by decide +kernel
theorem dX8_stepsOf_7 : decode cX8_stepsOf 7 = .ok (.getfield 154, 3) := by decide +kernel
theorem dX8_stepsOf_10 : decode cX8_stepsOf 10 = .ok (.ireturn, 1) := by decide +kernel
theorem dX8_twoNow_0 : decode cX8_twoNow 0 = .ok (.iload_n 3, 1) := by decide +kernel
theorem dX8_twoNow_1 : decode cX8_twoNow 1 = .ok (.tableswitch 59 0 3 #[31, 38, 45, 52], 31) := by decide +kernel
theorem dX8_twoNow_32 : decode cX8_twoNow 32 = .ok (.aload_n 0, 1) := by decide +kernel
theorem dX8_twoNow_33 : decode cX8_twoNow 33 = .ok (.iload_n 1, 1) := by decide +kernel
theorem dX8_twoNow_34 : decode cX8_twoNow 34 = .ok (.iload_n 2, 1) := by decide +kernel
theorem dX8_twoNow_35 : decode cX8_twoNow 35 = .ok (.invokevirtual 170, 3) := by decide +kernel
theorem dX8_twoNow_38 : decode cX8_twoNow 38 = .ok (.ireturn, 1) := by decide +kernel
theorem dX8_twoNow_39 : decode cX8_twoNow 39 = .ok (.aload_n 0, 1) := by decide +kernel
theorem dX8_twoNow_40 : decode cX8_twoNow 40 = .ok (.iload_n 1, 1) := by decide +kernel
theorem dX8_twoNow_41 : decode cX8_twoNow 41 = .ok (.iload_n 2, 1) := by decide +kernel
theorem dX8_twoNow_42 : decode cX8_twoNow 42 = .ok (.invokevirtual 167, 3) := by decide +kernel
theorem dX8_twoNow_45 : decode cX8_twoNow 45 = .ok (.ireturn, 1) := by decide +kernel
theorem dX8_twoNow_46 : decode cX8_twoNow 46 = .ok (.aload_n 0, 1) := by decide +kernel
theorem dX8_twoNow_47 : decode cX8_twoNow 47 = .ok (.iload_n 1, 1) := by decide +kernel
theorem dX8_twoNow_48 : decode cX8_twoNow 48 = .ok (.iload_n 2, 1) := by decide +kernel
theorem dX8_twoNow_49 : decode cX8_twoNow 49 = .ok (.invokevirtual 204, 3) := by decide +kernel
theorem dX8_twoNow_52 : decode cX8_twoNow 52 = .ok (.ireturn, 1) := by decide +kernel
theorem dX8_twoNow_53 : decode cX8_twoNow 53 = .ok (.aload_n 0, 1) := by decide +kernel
theorem dX8_twoNow_54 : decode cX8_twoNow 54 = .ok (.iload_n 1, 1) := by decide +kernel
theorem dX8_twoNow_55 : decode cX8_twoNow 55 = .ok (.iload_n 2, 1) := by decide +kernel
theorem dX8_twoNow_56 : decode cX8_twoNow 56 = .ok (.invokevirtual 207, 3) := by decide +kernel
theorem dX8_twoNow_59 : decode cX8_twoNow 59 = .ok (.ireturn, 1) := by decide +kernel
theorem dX8_twoNow_60 : decode cX8_twoNow 60 = .ok (.aload_n 0, 1) := by decide +kernel
theorem dX8_twoNow_61 : decode cX8_twoNow 61 = .ok (.iload_n 1, 1) := by decide +kernel
theorem dX8_twoNow_62 : decode cX8_twoNow 62 = .ok (.iload_n 2, 1) := by decide +kernel
theorem dX8_twoNow_63 : decode cX8_twoNow 63 = .ok (.invokevirtual 210, 3) := by decide +kernel
theorem dX8_twoNow_66 : decode cX8_twoNow 66 = .ok (.ireturn, 1) := by decide +kernel
theorem dX8_two_0 : decode cX8_two 0 = .ok (.aload_n 0, 1) := by decide +kernel
theorem dX8_two_1 : decode cX8_two 1 = .ok (.iload_n 1, 1) := by decide +kernel
theorem dX8_two_2 : decode cX8_two 2 = .ok (.invokevirtual 120, 3) := by decide +kernel
theorem dX8_two_5 : decode cX8_two 5 = .ok (.ifCond .eq 11, 3) := by decide +kernel
theorem dX8_two_8 : decode cX8_two 8 = .ok (.aload_n 0, 1) := by decide +kernel
theorem dX8_two_9 : decode cX8_two 9 = .ok (.iload_n 2, 1) := by decide +kernel
theorem dX8_two_10 : decode cX8_two 10 = .ok (.invokevirtual 120, 3) := by decide +kernel
theorem dX8_two_13 : decode cX8_two 13 = .ok (.ifCond .ne 7, 3) := by decide +kernel
theorem dX8_two_16 : decode cX8_two 16 = .ok (.sipush (-1001), 3) := by decide +kernel
theorem dX8_two_19 : decode cX8_two 19 = .ok (.ireturn, 1) := by decide +kernel
theorem dX8_two_20 : decode cX8_two 20 = .ok (.iload_n 3, 1) := by decide +kernel
theorem dX8_two_21 : decode cX8_two 21 = .ok (.iconst 0, 1) := by decide +kernel
theorem dX8_two_22 : decode cX8_two 22 = .ok (.iconst 4, 1) := by decide +kernel
theorem dX8_two_23 : decode cX8_two 23 = .ok (.invokestatic 75, 3) := by decide +kernel
theorem dX8_two_26 : decode cX8_two 26 = .ok (.ifCond .eq 13, 3) := by decide +kernel
theorem dX8_two_29 : decode cX8_two 29 = .ok (.aload_n 0, 1) := by decide +kernel
theorem dX8_two_30 : decode cX8_two 30 = .ok (.iload_n 1, 1) := by decide +kernel
theorem dX8_two_31 : decode cX8_two 31 = .ok (.iload_n 2, 1) := by decide +kernel
theorem dX8_two_32 : decode cX8_two 32 = .ok (.iload_n 3, 1) := by decide +kernel
theorem dX8_two_33 : decode cX8_two 33 = .ok (.invokevirtual 213, 3) := by decide +kernel
theorem dX8_two_36 : decode cX8_two 36 = .ok (.goto 6, 3) := by decide +kernel
theorem dX8_two_39 : decode cX8_two 39 = .ok (.sipush (-1002), 3) := by decide +kernel
theorem dX8_two_42 : decode cX8_two 42 = .ok (.ireturn, 1) := by decide +kernel
theorem dX8_isLetter_0 : decode cX8_isLetter 0 = .ok (.iload_n 0, 1) := by decide +kernel
theorem dX8_isLetter_1 : decode cX8_isLetter 1 = .ok (.bipush 97, 2) := by decide +kernel
theorem dX8_isLetter_3 : decode cX8_isLetter 3 = .ok (.bipush 122, 2) := by decide +kernel
theorem dX8_isLetter_5 : decode cX8_isLetter 5 = .ok (.invokestatic 75, 3) := by decide +kernel
theorem dX8_isLetter_8 : decode cX8_isLetter 8 = .ok (.ireturn, 1) := by decide +kernel
theorem dX8_gram_0 : decode cX8_gram 0 = .ok (.iload_n 1, 1) := by decide +kernel
theorem dX8_gram_1 : decode cX8_gram 1 = .ok (.bipush 94, 2) := by decide +kernel
theorem dX8_gram_3 : decode cX8_gram 3 = .ok (.if_icmp .eq 10, 3) := by decide +kernel
theorem dX8_gram_6 : decode cX8_gram 6 = .ok (.iload_n 1, 1) := by decide +kernel
theorem dX8_gram_7 : decode cX8_gram 7 = .ok (.invokestatic 217, 3) := by decide +kernel
theorem dX8_gram_10 : decode cX8_gram 10 = .ok (.ifCond .eq 32, 3) := by decide +kernel
theorem dX8_gram_13 : decode cX8_gram 13 = .ok (.iload_n 2, 1) := by decide +kernel
theorem dX8_gram_14 : decode cX8_gram 14 = .ok (.bipush 36, 2) := by decide +kernel
theorem dX8_gram_16 : decode cX8_gram 16 = .ok (.if_icmp .eq 10, 3) := by decide +kernel
theorem dX8_gram_19 : decode cX8_gram 19 = .ok (.iload_n 2, 1) := by decide +kernel
theorem dX8_gram_20 : decode cX8_gram 20 = .ok (.invokestatic 217, 3) := by decide +kernel
theorem dX8_gram_23 : decode cX8_gram 23 = .ok (.ifCond .eq 19, 3) := by decide +kernel
theorem dX8_gram_26 : decode cX8_gram 26 = .ok (.iload_n 1, 1) := by decide +kernel
theorem dX8_gram_27 : decode cX8_gram 27 = .ok (.bipush 94, 2) := by decide +kernel
theorem dX8_gram_29 : decode cX8_gram 29 = .ok (.if_icmp .ne 9, 3) := by decide +kernel
theorem dX8_gram_32 : decode cX8_gram 32 = .ok (.iload_n 2, 1) := by decide +kernel
theorem dX8_gram_33 : decode cX8_gram 33 = .ok (.bipush 36, 2) := by decide +kernel
theorem dX8_gram_35 : decode cX8_gram 35 = .ok (.if_icmp .eq 7, 3) := by decide +kernel
theorem dX8_gram_38 : decode cX8_gram 38 = .ok (.iconst 1, 1) := by decide +kernel
theorem dX8_gram_39 : decode cX8_gram 39 = .ok (.goto 4, 3) := by decide +kernel
theorem dX8_gram_42 : decode cX8_gram 42 = .ok (.iconst 0, 1) := by decide +kernel
theorem dX8_gram_43 : decode cX8_gram 43 = .ok (.istore_n 3, 1) := by decide +kernel
theorem dX8_gram_44 : decode cX8_gram 44 = .ok (.iload_n 3, 1) := by decide +kernel
theorem dX8_gram_45 : decode cX8_gram 45 = .ok (.ifCond .ne 7, 3) := by decide +kernel
theorem dX8_gram_48 : decode cX8_gram 48 = .ok (.sipush (-1002), 3) := by decide +kernel
theorem dX8_gram_51 : decode cX8_gram 51 = .ok (.ireturn, 1) := by decide +kernel
theorem dX8_gram_52 : decode cX8_gram 52 = .ok (.iconst 0, 1) := by decide +kernel
theorem dX8_gram_53 : decode cX8_gram 53 = .ok (.istore 4, 2) := by decide +kernel
theorem dX8_gram_55 : decode cX8_gram 55 = .ok (.iconst 0, 1) := by decide +kernel
