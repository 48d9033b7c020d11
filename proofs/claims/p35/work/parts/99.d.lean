/-! ===== the law's code ===== -/
theorem dW_0 : decode code 0 = .ok (.new 11, 3) := by decide +kernel
theorem dW_3 : decode code 3 = .ok (.dup, 1) := by decide +kernel
theorem dW_4 : decode code 4 = .ok (.invokespecial 221, 3) := by decide +kernel
theorem dW_7 : decode code 7 = .ok (.astore_n 1, 1) := by decide +kernel
theorem dW_8 : decode code 8 = .ok (.bipush 7, 2) := by decide +kernel
theorem dW_10 : decode code 10 = .ok (.newarray .int, 2) := by decide +kernel
theorem dW_12 : decode code 12 = .ok (.astore_n 2, 1) := by decide +kernel
theorem dW_13 : decode code 13 = .ok (.iconst 2, 1) := by decide +kernel
theorem dW_14 : decode code 14 = .ok (.newarray .int, 2) := by decide +kernel
theorem dW_16 : decode code 16 = .ok (.astore_n 3, 1) := by decide +kernel
theorem dW_17 : decode code 17 = .ok (.aload_n 1, 1) := by decide +kernel
theorem dW_18 : decode code 18 = .ok (.aload_n 2, 1) := by decide +kernel
theorem dW_19 : decode code 19 = .ok (.invokestatic 218, 3) := by decide +kernel
theorem dW_22 : decode code 22 = .ok (.istore 4, 2) := by decide +kernel
theorem dW_24 : decode code 24 = .ok (.iconst 0, 1) := by decide +kernel
theorem dW_25 : decode code 25 = .ok (.istore 5, 2) := by decide +kernel
theorem dW_27 : decode code 27 = .ok (.iload 5, 2) := by decide +kernel
theorem dW_29 : decode code 29 = .ok (.bipush 20, 2) := by decide +kernel
theorem dW_31 : decode code 31 = .ok (.if_icmp .ge 69, 3) := by decide +kernel
theorem dW_34 : decode code 34 = .ok (.iload 4, 2) := by decide +kernel
theorem dW_36 : decode code 36 = .ok (.ifCond .eq 64, 3) := by decide +kernel
theorem dW_39 : decode code 39 = .ok (.iload 5, 2) := by decide +kernel
theorem dW_41 : decode code 41 = .ok (.iconst 5, 1) := by decide +kernel
theorem dW_42 : decode code 42 = .ok (.irem, 1) := by decide +kernel
theorem dW_43 : decode code 43 = .ok (.istore 6, 2) := by decide +kernel
theorem dW_45 : decode code 45 = .ok (.iload 5, 2) := by decide +kernel
theorem dW_47 : decode code 47 = .ok (.iconst 5, 1) := by decide +kernel
theorem dW_48 : decode code 48 = .ok (.idiv, 1) := by decide +kernel
theorem dW_49 : decode code 49 = .ok (.iconst 1, 1) := by decide +kernel
theorem dW_50 : decode code 50 = .ok (.iadd, 1) := by decide +kernel
theorem dW_51 : decode code 51 = .ok (.iload 6, 2) := by decide +kernel
theorem dW_53 : decode code 53 = .ok (.iadd, 1) := by decide +kernel
theorem dW_54 : decode code 54 = .ok (.iconst 5, 1) := by decide +kernel
theorem dW_55 : decode code 55 = .ok (.irem, 1) := by decide +kernel
theorem dW_56 : decode code 56 = .ok (.istore 7, 2) := by decide +kernel
theorem dW_58 : decode code 58 = .ok (.iload 6, 2) := by decide +kernel
theorem dW_60 : decode code 60 = .ok (.iload 7, 2) := by decide +kernel
theorem dW_62 : decode code 62 = .ok (.if_icmp .ge 25, 3) := by decide +kernel
theorem dW_65 : decode code 65 = .ok (.aload_n 1, 1) := by decide +kernel
theorem dW_66 : decode code 66 = .ok (.iload 6, 2) := by decide +kernel
theorem dW_68 : decode code 68 = .ok (.iload 7, 2) := by decide +kernel
theorem dW_70 : decode code 70 = .ok (.sipush 250, 3) := by decide +kernel
theorem dW_73 : decode code 73 = .ok (.bipush 50, 2) := by decide +kernel
theorem dW_75 : decode code 75 = .ok (.iload 5, 2) := by decide +kernel
theorem dW_77 : decode code 77 = .ok (.iconst 4, 1) := by decide +kernel
theorem dW_78 : decode code 78 = .ok (.irem, 1) := by decide +kernel
theorem dW_79 : decode code 79 = .ok (.imul, 1) := by decide +kernel
theorem dW_80 : decode code 80 = .ok (.iadd, 1) := by decide +kernel
theorem dW_81 : decode code 81 = .ok (.invokestatic 151, 3) := by decide +kernel
theorem dW_84 : decode code 84 = .ok (.ifCond .lt 7, 3) := by decide +kernel
theorem dW_87 : decode code 87 = .ok (.iconst 1, 1) := by decide +kernel
theorem dW_88 : decode code 88 = .ok (.goto 4, 3) := by decide +kernel
theorem dW_91 : decode code 91 = .ok (.iconst 0, 1) := by decide +kernel
theorem dW_92 : decode code 92 = .ok (.istore 4, 2) := by decide +kernel
theorem dW_94 : decode code 94 = .ok (.iinc 5 1, 3) := by decide +kernel
theorem dW_97 : decode code 97 = .ok (.goto (-70), 3) := by decide +kernel
theorem dW_100 : decode code 100 = .ok (.iconst 0, 1) := by decide +kernel
theorem dW_101 : decode code 101 = .ok (.istore 5, 2) := by decide +kernel
theorem dW_103 : decode code 103 = .ok (.iload 5, 2) := by decide +kernel
theorem dW_105 : decode code 105 = .ok (.bipush 8, 2) := by decide +kernel
theorem dW_107 : decode code 107 = .ok (.if_icmp .ge 28, 3) := by decide +kernel
theorem dW_110 : decode code 110 = .ok (.iload 4, 2) := by decide +kernel
theorem dW_112 : decode code 112 = .ok (.ifCond .eq 23, 3) := by decide +kernel
theorem dW_115 : decode code 115 = .ok (.aload_n 1, 1) := by decide +kernel
theorem dW_116 : decode code 116 = .ok (.aload_n 2, 1) := by decide +kernel
theorem dW_117 : decode code 117 = .ok (.iconst 2, 1) := by decide +kernel
theorem dW_118 : decode code 118 = .ok (.aload_n 0, 1) := by decide +kernel
theorem dW_119 : decode code 119 = .ok (.iload 5, 2) := by decide +kernel
theorem dW_121 : decode code 121 = .ok (.invokestatic 222, 3) := by decide +kernel
theorem dW_124 : decode code 124 = .ok (.invokestatic 195, 3) := by decide +kernel
theorem dW_127 : decode code 127 = .ok (.istore 4, 2) := by decide +kernel
theorem dW_129 : decode code 129 = .ok (.iinc 5 1, 3) := by decide +kernel
theorem dW_132 : decode code 132 = .ok (.goto (-29), 3) := by decide +kernel
theorem dW_135 : decode code 135 = .ok (.iconst 4, 1) := by decide +kernel
theorem dW_136 : decode code 136 = .ok (.istore 5, 2) := by decide +kernel
theorem dW_138 : decode code 138 = .ok (.iload 5, 2) := by decide +kernel
theorem dW_140 : decode code 140 = .ok (.bipush 60, 2) := by decide +kernel
theorem dW_142 : decode code 142 = .ok (.if_icmp .ge 40, 3) := by decide +kernel
theorem dW_145 : decode code 145 = .ok (.iload 4, 2) := by decide +kernel
theorem dW_147 : decode code 147 = .ok (.ifCond .eq 35, 3) := by decide +kernel
theorem dW_150 : decode code 150 = .ok (.aload_n 1, 1) := by decide +kernel
theorem dW_151 : decode code 151 = .ok (.aload_n 2, 1) := by decide +kernel
theorem dW_152 : decode code 152 = .ok (.aload_n 3, 1) := by decide +kernel
theorem dW_153 : decode code 153 = .ok (.aload_n 0, 1) := by decide +kernel
theorem dW_154 : decode code 154 = .ok (.iconst 2, 1) := by decide +kernel
theorem dW_155 : decode code 155 = .ok (.iload 5, 2) := by decide +kernel
theorem dW_157 : decode code 157 = .ok (.imul, 1) := by decide +kernel
theorem dW_158 : decode code 158 = .ok (.invokestatic 222, 3) := by decide +kernel
theorem dW_161 : decode code 161 = .ok (.aload_n 0, 1) := by decide +kernel
theorem dW_162 : decode code 162 = .ok (.iconst 2, 1) := by decide +kernel
theorem dW_163 : decode code 163 = .ok (.iload 5, 2) := by decide +kernel
theorem dW_165 : decode code 165 = .ok (.imul, 1) := by decide +kernel
theorem dW_166 : decode code 166 = .ok (.iconst 1, 1) := by decide +kernel
theorem dW_167 : decode code 167 = .ok (.iadd, 1) := by decide +kernel
theorem dW_168 : decode code 168 = .ok (.invokestatic 222, 3) := by decide +kernel
theorem dW_171 : decode code 171 = .ok (.invokestatic 226, 3) := by decide +kernel
theorem dW_174 : decode code 174 = .ok (.istore 4, 2) := by decide +kernel
theorem dW_176 : decode code 176 = .ok (.iinc 5 1, 3) := by decide +kernel
theorem dW_179 : decode code 179 = .ok (.goto (-41), 3) := by decide +kernel
theorem dW_182 : decode code 182 = .ok (.iconst 0, 1) := by decide +kernel
theorem dW_183 : decode code 183 = .ok (.istore 5, 2) := by decide +kernel
theorem dW_185 : decode code 185 = .ok (.iload 5, 2) := by decide +kernel
theorem dW_187 : decode code 187 = .ok (.aload_n 2, 1) := by decide +kernel
theorem dW_188 : decode code 188 = .ok (.iconst 2, 1) := by decide +kernel
theorem dW_189 : decode code 189 = .ok (.iaload, 1) := by decide +kernel
theorem dW_190 : decode code 190 = .ok (.if_icmp .ge 23, 3) := by decide +kernel
theorem dW_193 : decode code 193 = .ok (.iload 4, 2) := by decide +kernel
theorem dW_195 : decode code 195 = .ok (.ifCond .eq 18, 3) := by decide +kernel
theorem dW_198 : decode code 198 = .ok (.aload_n 1, 1) := by decide +kernel
theorem dW_199 : decode code 199 = .ok (.aload_n 2, 1) := by decide +kernel
theorem dW_200 : decode code 200 = .ok (.iload 5, 2) := by decide +kernel
theorem dW_202 : decode code 202 = .ok (.invokestatic 170, 3) := by decide +kernel
theorem dW_205 : decode code 205 = .ok (.istore 4, 2) := by decide +kernel
theorem dW_207 : decode code 207 = .ok (.iinc 5 1, 3) := by decide +kernel
theorem dW_210 : decode code 210 = .ok (.goto (-25), 3) := by decide +kernel
theorem dW_213 : decode code 213 = .ok (.iconst 0, 1) := by decide +kernel
theorem dW_214 : decode code 214 = .ok (.istore 5, 2) := by decide +kernel
theorem dW_216 : decode code 216 = .ok (.iload 5, 2) := by decide +kernel
theorem dW_218 : decode code 218 = .ok (.aload_n 2, 1) := by decide +kernel
theorem dW_219 : decode code 219 = .ok (.iconst 3, 1) := by decide +kernel
theorem dW_220 : decode code 220 = .ok (.iaload, 1) := by decide +kernel
theorem dW_221 : decode code 221 = .ok (.if_icmp .ge 23, 3) := by decide +kernel
theorem dW_224 : decode code 224 = .ok (.iload 4, 2) := by decide +kernel
theorem dW_226 : decode code 226 = .ok (.ifCond .eq 18, 3) := by decide +kernel
theorem dW_229 : decode code 229 = .ok (.aload_n 1, 1) := by decide +kernel
theorem dW_230 : decode code 230 = .ok (.aload_n 2, 1) := by decide +kernel
theorem dW_231 : decode code 231 = .ok (.iload 5, 2) := by decide +kernel
theorem dW_233 : decode code 233 = .ok (.invokestatic 192, 3) := by decide +kernel
theorem dW_236 : decode code 236 = .ok (.istore 4, 2) := by decide +kernel
theorem dW_238 : decode code 238 = .ok (.iinc 5 1, 3) := by decide +kernel
theorem dW_241 : decode code 241 = .ok (.goto (-25), 3) := by decide +kernel
theorem dW_244 : decode code 244 = .ok (.iload 4, 2) := by decide +kernel
theorem dW_246 : decode code 246 = .ok (.ifCond .eq 15, 3) := by decide +kernel
theorem dW_249 : decode code 249 = .ok (.aload_n 1, 1) := by decide +kernel
theorem dW_250 : decode code 250 = .ok (.aload_n 2, 1) := by decide +kernel
theorem dW_251 : decode code 251 = .ok (.invokestatic 218, 3) := by decide +kernel
theorem dW_254 : decode code 254 = .ok (.ifCond .eq 7, 3) := by decide +kernel
theorem dW_257 : decode code 257 = .ok (.iconst 1, 1) := by decide +kernel
theorem dW_258 : decode code 258 = .ok (.goto 4, 3) := by decide +kernel
theorem dW_261 : decode code 261 = .ok (.iconst 0, 1) := by decide +kernel
theorem dW_262 : decode code 262 = .ok (.ireturn, 1) := by decide +kernel
