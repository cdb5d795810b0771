theorem dL_hangs_0 : decode cL_hangs 0 = .ok (.aload_n 0, 1) := by decide +kernel
theorem dL_hangs_1 : decode cL_hangs 1 = .ok (.invokevirtual 191, 3) := by decide +kernel
theorem dL_hangs_4 : decode cL_hangs 4 = .ok (.istore_n 1, 1) := by decide +kernel
theorem dL_hangs_5 : decode cL_hangs 5 = .ok (.iconst 0, 1) := by decide +kernel
theorem dL_hangs_6 : decode cL_hangs 6 = .ok (.istore_n 2, 1) := by decide +kernel
theorem dL_hangs_7 : decode cL_hangs 7 = .ok (.iload_n 1, 1) := by decide +kernel
theorem dL_hangs_8 : decode cL_hangs 8 = .ok (.ifCond .lt 66, 3) := by decide +kernel
theorem dL_hangs_11 : decode cL_hangs 11 = .ok (.iload_n 1, 1) := by decide +kernel
theorem dL_hangs_12 : decode cL_hangs 12 = .ok (.bipush 24, 2) := by decide +kernel
theorem dL_hangs_14 : decode cL_hangs 14 = .ok (.if_icmp .gt 60, 3) := by decide +kernel
theorem dL_hangs_17 : decode cL_hangs 17 = .ok (.aload_n 0, 1) := by decide +kernel
theorem dL_hangs_18 : decode cL_hangs 18 = .ok (.invokevirtual 243, 3) := by decide +kernel
theorem dL_hangs_21 : decode cL_hangs 21 = .ok (.ifCond .lt 53, 3) := by decide +kernel
theorem dL_hangs_24 : decode cL_hangs 24 = .ok (.aload_n 0, 1) := by decide +kernel
theorem dL_hangs_25 : decode cL_hangs 25 = .ok (.invokevirtual 246, 3) := by decide +kernel
theorem dL_hangs_28 : decode cL_hangs 28 = .ok (.ifCond .lt 46, 3) := by decide +kernel
theorem dL_hangs_31 : decode cL_hangs 31 = .ok (.aload_n 0, 1) := by decide +kernel
theorem dL_hangs_32 : decode cL_hangs 32 = .ok (.invokevirtual 246, 3) := by decide +kernel
theorem dL_hangs_35 : decode cL_hangs 35 = .ok (.bipush 7, 2) := by decide +kernel
theorem dL_hangs_37 : decode cL_hangs 37 = .ok (.if_icmp .ge 37, 3) := by decide +kernel
theorem dL_hangs_40 : decode cL_hangs 40 = .ok (.aload_n 0, 1) := by decide +kernel
theorem dL_hangs_41 : decode cL_hangs 41 = .ok (.invokevirtual 249, 3) := by decide +kernel
theorem dL_hangs_44 : decode cL_hangs 44 = .ok (.ifCond .lt 30, 3) := by decide +kernel
theorem dL_hangs_47 : decode cL_hangs 47 = .ok (.aload_n 0, 1) := by decide +kernel
theorem dL_hangs_48 : decode cL_hangs 48 = .ok (.invokevirtual 249, 3) := by decide +kernel
theorem dL_hangs_51 : decode cL_hangs 51 = .ok (.iconst 3, 1) := by decide +kernel
theorem dL_hangs_52 : decode cL_hangs 52 = .ok (.if_icmp .ge 22, 3) := by decide +kernel
theorem dL_hangs_55 : decode cL_hangs 55 = .ok (.aload_n 0, 1) := by decide +kernel
theorem dL_hangs_56 : decode cL_hangs 56 = .ok (.invokevirtual 252, 3) := by decide +kernel
theorem dL_hangs_59 : decode cL_hangs 59 = .ok (.ifCond .lt 15, 3) := by decide +kernel
theorem dL_hangs_62 : decode cL_hangs 62 = .ok (.aload_n 0, 1) := by decide +kernel
theorem dL_hangs_63 : decode cL_hangs 63 = .ok (.invokevirtual 252, 3) := by decide +kernel
theorem dL_hangs_66 : decode cL_hangs 66 = .ok (.iconst 5, 1) := by decide +kernel
theorem dL_hangs_67 : decode cL_hangs 67 = .ok (.if_icmp .ge 7, 3) := by decide +kernel
theorem dL_hangs_70 : decode cL_hangs 70 = .ok (.iconst 1, 1) := by decide +kernel
theorem dL_hangs_71 : decode cL_hangs 71 = .ok (.goto 4, 3) := by decide +kernel
theorem dL_hangs_74 : decode cL_hangs 74 = .ok (.iconst 0, 1) := by decide +kernel
theorem dL_hangs_75 : decode cL_hangs 75 = .ok (.istore_n 3, 1) := by decide +kernel
theorem dL_hangs_76 : decode cL_hangs 76 = .ok (.iconst 4, 1) := by decide +kernel
theorem dL_hangs_77 : decode cL_hangs 77 = .ok (.newarray .int, 2) := by decide +kernel
theorem dL_hangs_79 : decode cL_hangs 79 = .ok (.astore 4, 2) := by decide +kernel
theorem dL_hangs_81 : decode cL_hangs 81 = .ok (.iconst 0, 1) := by decide +kernel
theorem dL_hangs_82 : decode cL_hangs 82 = .ok (.istore 5, 2) := by decide +kernel
theorem dL_hangs_84 : decode cL_hangs 84 = .ok (.iload 5, 2) := by decide +kernel
theorem dL_hangs_86 : decode cL_hangs 86 = .ok (.iconst 3, 1) := by decide +kernel
theorem dL_hangs_87 : decode cL_hangs 87 = .ok (.if_icmp .ge 1035, 3) := by decide +kernel
theorem dL_hangs_90 : decode cL_hangs 90 = .ok (.iload_n 3, 1) := by decide +kernel
theorem dL_hangs_91 : decode cL_hangs 91 = .ok (.ifCond .eq 1031, 3) := by decide +kernel
theorem dL_hangs_94 : decode cL_hangs 94 = .ok (.iconst 0, 1) := by decide +kernel
theorem dL_hangs_95 : decode cL_hangs 95 = .ok (.istore 6, 2) := by decide +kernel
theorem dL_hangs_97 : decode cL_hangs 97 = .ok (.iconst 0, 1) := by decide +kernel
theorem dL_hangs_98 : decode cL_hangs 98 = .ok (.istore 7, 2) := by decide +kernel
theorem dL_hangs_100 : decode cL_hangs 100 = .ok (.iconst 0, 1) := by decide +kernel
theorem dL_hangs_101 : decode cL_hangs 101 = .ok (.istore 8, 2) := by decide +kernel
theorem dL_hangs_103 : decode cL_hangs 103 = .ok (.iconst 0, 1) := by decide +kernel
theorem dL_hangs_104 : decode cL_hangs 104 = .ok (.istore 9, 2) := by decide +kernel
theorem dL_hangs_106 : decode cL_hangs 106 = .ok (.iconst 0, 1) := by decide +kernel
theorem dL_hangs_107 : decode cL_hangs 107 = .ok (.istore 10, 2) := by decide +kernel
theorem dL_hangs_109 : decode cL_hangs 109 = .ok (.iconst 0, 1) := by decide +kernel
theorem dL_hangs_110 : decode cL_hangs 110 = .ok (.istore 11, 2) := by decide +kernel
theorem dL_hangs_112 : decode cL_hangs 112 = .ok (.iconst 0, 1) := by decide +kernel
theorem dL_hangs_113 : decode cL_hangs 113 = .ok (.istore 12, 2) := by decide +kernel
theorem dL_hangs_115 : decode cL_hangs 115 = .ok (.iload 12, 2) := by decide +kernel
theorem dL_hangs_117 : decode cL_hangs 117 = .ok (.iload_n 1, 1) := by decide +kernel
theorem dL_hangs_118 : decode cL_hangs 118 = .ok (.if_icmp .ge 530, 3) := by decide +kernel
theorem dL_hangs_121 : decode cL_hangs 121 = .ok (.iload 12, 2) := by decide +kernel
theorem dL_hangs_123 : decode cL_hangs 123 = .ok (.bipush 24, 2) := by decide +kernel
theorem dL_hangs_125 : decode cL_hangs 125 = .ok (.if_icmp .ge 523, 3) := by decide +kernel
theorem dL_hangs_128 : decode cL_hangs 128 = .ok (.iload_n 3, 1) := by decide +kernel
theorem dL_hangs_129 : decode cL_hangs 129 = .ok (.ifCond .eq 519, 3) := by decide +kernel
theorem dL_hangs_132 : decode cL_hangs 132 = .ok (.aload_n 0, 1) := by decide +kernel
theorem dL_hangs_133 : decode cL_hangs 133 = .ok (.iload 12, 2) := by decide +kernel
theorem dL_hangs_135 : decode cL_hangs 135 = .ok (.invokestatic 255, 3) := by decide +kernel
theorem dL_hangs_138 : decode cL_hangs 138 = .ok (.bipush 32, 2) := by decide +kernel
theorem dL_hangs_140 : decode cL_hangs 140 = .ok (.idiv, 1) := by decide +kernel
theorem dL_hangs_141 : decode cL_hangs 141 = .ok (.bipush 64, 2) := by decide +kernel
theorem dL_hangs_143 : decode cL_hangs 143 = .ok (.irem, 1) := by decide +kernel
theorem dL_hangs_144 : decode cL_hangs 144 = .ok (.istore 13, 2) := by decide +kernel
theorem dL_hangs_146 : decode cL_hangs 146 = .ok (.aload_n 0, 1) := by decide +kernel
theorem dL_hangs_147 : decode cL_hangs 147 = .ok (.iload 12, 2) := by decide +kernel
theorem dL_hangs_149 : decode cL_hangs 149 = .ok (.invokestatic 255, 3) := by decide +kernel
theorem dL_hangs_152 : decode cL_hangs 152 = .ok (.sipush 2048, 3) := by decide +kernel
theorem dL_hangs_155 : decode cL_hangs 155 = .ok (.idiv, 1) := by decide +kernel
theorem dL_hangs_156 : decode cL_hangs 156 = .ok (.istore 14, 2) := by decide +kernel
theorem dL_hangs_158 : decode cL_hangs 158 = .ok (.aload_n 0, 1) := by decide +kernel
theorem dL_hangs_159 : decode cL_hangs 159 = .ok (.iload 12, 2) := by decide +kernel
theorem dL_hangs_161 : decode cL_hangs 161 = .ok (.iload 5, 2) := by decide +kernel
theorem dL_hangs_163 : decode cL_hangs 163 = .ok (.invokestatic 258, 3) := by decide +kernel
theorem dL_hangs_166 : decode cL_hangs 166 = .ok (.istore 15, 2) := by decide +kernel
theorem dL_hangs_168 : decode cL_hangs 168 = .ok (.aload_n 0, 1) := by decide +kernel
theorem dL_hangs_169 : decode cL_hangs 169 = .ok (.iload 12, 2) := by decide +kernel
theorem dL_hangs_171 : decode cL_hangs 171 = .ok (.iload 5, 2) := by decide +kernel
theorem dL_hangs_173 : decode cL_hangs 173 = .ok (.invokestatic 260, 3) := by decide +kernel
theorem dL_hangs_176 : decode cL_hangs 176 = .ok (.istore 16, 2) := by decide +kernel
theorem dL_hangs_178 : decode cL_hangs 178 = .ok (.aload_n 0, 1) := by decide +kernel
theorem dL_hangs_179 : decode cL_hangs 179 = .ok (.iload 12, 2) := by decide +kernel
theorem dL_hangs_181 : decode cL_hangs 181 = .ok (.iload 5, 2) := by decide +kernel
theorem dL_hangs_183 : decode cL_hangs 183 = .ok (.invokestatic 262, 3) := by decide +kernel
theorem dL_hangs_186 : decode cL_hangs 186 = .ok (.istore 17, 2) := by decide +kernel
theorem dL_hangs_188 : decode cL_hangs 188 = .ok (.aload_n 0, 1) := by decide +kernel
theorem dL_hangs_189 : decode cL_hangs 189 = .ok (.iload 12, 2) := by decide +kernel
theorem dL_hangs_191 : decode cL_hangs 191 = .ok (.iload 5, 2) := by decide +kernel
theorem dL_hangs_193 : decode cL_hangs 193 = .ok (.invokestatic 264, 3) := by decide +kernel
theorem dL_hangs_196 : decode cL_hangs 196 = .ok (.istore 18, 2) := by decide +kernel
theorem dL_hangs_198 : decode cL_hangs 198 = .ok (.aload_n 0, 1) := by decide +kernel
theorem dL_hangs_199 : decode cL_hangs 199 = .ok (.iload 12, 2) := by decide +kernel
theorem dL_hangs_201 : decode cL_hangs 201 = .ok (.iload 5, 2) := by decide +kernel
theorem dL_hangs_203 : decode cL_hangs 203 = .ok (.invokestatic 266, 3) := by decide +kernel
theorem dL_hangs_206 : decode cL_hangs 206 = .ok (.istore 19, 2) := by decide +kernel
theorem dL_hangs_208 : decode cL_hangs 208 = .ok (.iload 13, 2) := by decide +kernel
theorem dL_hangs_210 : decode cL_hangs 210 = .ok (.iconst 3, 1) := by decide +kernel
theorem dL_hangs_211 : decode cL_hangs 211 = .ok (.if_icmp .le 313, 3) := by decide +kernel
theorem dL_hangs_214 : decode cL_hangs 214 = .ok (.iload 13, 2) := by decide +kernel
theorem dL_hangs_216 : decode cL_hangs 216 = .ok (.bipush 61, 2) := by decide +kernel
theorem dL_hangs_218 : decode cL_hangs 218 = .ok (.if_icmp .ge 306, 3) := by decide +kernel
theorem dL_hangs_221 : decode cL_hangs 221 = .ok (.iload 14, 2) := by decide +kernel
theorem dL_hangs_223 : decode cL_hangs 223 = .ok (.iload 13, 2) := by decide +kernel
theorem dL_hangs_225 : decode cL_hangs 225 = .ok (.if_icmp .gt 299, 3) := by decide +kernel
theorem dL_hangs_228 : decode cL_hangs 228 = .ok (.iload 14, 2) := by decide +kernel
theorem dL_hangs_230 : decode cL_hangs 230 = .ok (.bipush 21, 2) := by decide +kernel
theorem dL_hangs_232 : decode cL_hangs 232 = .ok (.if_icmp .ge 292, 3) := by decide +kernel
theorem dL_hangs_235 : decode cL_hangs 235 = .ok (.iload 15, 2) := by decide +kernel
theorem dL_hangs_237 : decode cL_hangs 237 = .ok (.bipush (-4), 2) := by decide +kernel
theorem dL_hangs_239 : decode cL_hangs 239 = .ok (.if_icmp .ne 58, 3) := by decide +kernel
theorem dL_hangs_242 : decode cL_hangs 242 = .ok (.iload 16, 2) := by decide +kernel
theorem dL_hangs_244 : decode cL_hangs 244 = .ok (.sipush (-904), 3) := by decide +kernel
theorem dL_hangs_247 : decode cL_hangs 247 = .ok (.if_icmp .ne 277, 3) := by decide +kernel
theorem dL_hangs_250 : decode cL_hangs 250 = .ok (.iload 17, 2) := by decide +kernel
theorem dL_hangs_252 : decode cL_hangs 252 = .ok (.iconst 1, 1) := by decide +kernel
theorem dL_hangs_253 : decode cL_hangs 253 = .ok (.if_icmp .ne 271, 3) := by decide +kernel
theorem dL_hangs_256 : decode cL_hangs 256 = .ok (.iload 18, 2) := by decide +kernel
theorem dL_hangs_258 : decode cL_hangs 258 = .ok (.bipush (-4), 2) := by decide +kernel
theorem dL_hangs_260 : decode cL_hangs 260 = .ok (.if_icmp .ne 264, 3) := by decide +kernel
theorem dL_hangs_263 : decode cL_hangs 263 = .ok (.iload 19, 2) := by decide +kernel
theorem dL_hangs_265 : decode cL_hangs 265 = .ok (.bipush (-4), 2) := by decide +kernel
theorem dL_hangs_267 : decode cL_hangs 267 = .ok (.if_icmp .ne 257, 3) := by decide +kernel
theorem dL_hangs_270 : decode cL_hangs 270 = .ok (.aload_n 0, 1) := by decide +kernel
theorem dL_hangs_271 : decode cL_hangs 271 = .ok (.iload 12, 2) := by decide +kernel
theorem dL_hangs_273 : decode cL_hangs 273 = .ok (.iload 5, 2) := by decide +kernel
theorem dL_hangs_275 : decode cL_hangs 275 = .ok (.invokestatic 268, 3) := by decide +kernel
theorem dL_hangs_278 : decode cL_hangs 278 = .ok (.bipush (-4), 2) := by decide +kernel
theorem dL_hangs_280 : decode cL_hangs 280 = .ok (.if_icmp .ne 244, 3) := by decide +kernel
theorem dL_hangs_283 : decode cL_hangs 283 = .ok (.aload_n 0, 1) := by decide +kernel
theorem dL_hangs_284 : decode cL_hangs 284 = .ok (.iload 12, 2) := by decide +kernel
theorem dL_hangs_286 : decode cL_hangs 286 = .ok (.iload 5, 2) := by decide +kernel
theorem dL_hangs_288 : decode cL_hangs 288 = .ok (.invokestatic 270, 3) := by decide +kernel
theorem dL_hangs_291 : decode cL_hangs 291 = .ok (.ifCond .ne 233, 3) := by decide +kernel
theorem dL_hangs_294 : decode cL_hangs 294 = .ok (.goto 146, 3) := by decide +kernel
theorem dL_hangs_297 : decode cL_hangs 297 = .ok (.iload 15, 2) := by decide +kernel
theorem dL_hangs_299 : decode cL_hangs 299 = .ok (.ifCond .le 225, 3) := by decide +kernel
