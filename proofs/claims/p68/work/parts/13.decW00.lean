theorem dL_acts_0 : decode cL_acts 0 = .ok (.iload_n 1, 1) := by decide +kernel
theorem dL_acts_1 : decode cL_acts 1 = .ok (.bipush 32, 2) := by decide +kernel
theorem dL_acts_3 : decode cL_acts 3 = .ok (.idiv, 1) := by decide +kernel
theorem dL_acts_4 : decode cL_acts 4 = .ok (.istore_n 2, 1) := by decide +kernel
theorem dL_acts_5 : decode cL_acts 5 = .ok (.aload_n 0, 1) := by decide +kernel
theorem dL_acts_6 : decode cL_acts 6 = .ok (.invokevirtual 191, 3) := by decide +kernel
theorem dL_acts_9 : decode cL_acts 9 = .ok (.istore_n 3, 1) := by decide +kernel
theorem dL_acts_10 : decode cL_acts 10 = .ok (.iload_n 3, 1) := by decide +kernel
theorem dL_acts_11 : decode cL_acts 11 = .ok (.ifCond .ne 7, 3) := by decide +kernel
theorem dL_acts_14 : decode cL_acts 14 = .ok (.iconst 0, 1) := by decide +kernel
theorem dL_acts_15 : decode cL_acts 15 = .ok (.goto 6, 3) := by decide +kernel
theorem dL_acts_18 : decode cL_acts 18 = .ok (.iload_n 2, 1) := by decide +kernel
theorem dL_acts_19 : decode cL_acts 19 = .ok (.iload_n 3, 1) := by decide +kernel
theorem dL_acts_20 : decode cL_acts 20 = .ok (.irem, 1) := by decide +kernel
theorem dL_acts_21 : decode cL_acts 21 = .ok (.istore 4, 2) := by decide +kernel
theorem dL_acts_23 : decode cL_acts 23 = .ok (.iload_n 2, 1) := by decide +kernel
theorem dL_acts_24 : decode cL_acts 24 = .ok (.bipush 32, 2) := by decide +kernel
theorem dL_acts_26 : decode cL_acts 26 = .ok (.idiv, 1) := by decide +kernel
theorem dL_acts_27 : decode cL_acts 27 = .ok (.iconst 3, 1) := by decide +kernel
theorem dL_acts_28 : decode cL_acts 28 = .ok (.irem, 1) := by decide +kernel
theorem dL_acts_29 : decode cL_acts 29 = .ok (.istore 5, 2) := by decide +kernel
theorem dL_acts_31 : decode cL_acts 31 = .ok (.iload_n 3, 1) := by decide +kernel
theorem dL_acts_32 : decode cL_acts 32 = .ok (.iconst 3, 1) := by decide +kernel
theorem dL_acts_33 : decode cL_acts 33 = .ok (.if_icmp .ge 7, 3) := by decide +kernel
theorem dL_acts_36 : decode cL_acts 36 = .ok (.iconst 0, 1) := by decide +kernel
theorem dL_acts_37 : decode cL_acts 37 = .ok (.goto 7, 3) := by decide +kernel
theorem dL_acts_40 : decode cL_acts 40 = .ok (.iload_n 1, 1) := by decide +kernel
theorem dL_acts_41 : decode cL_acts 41 = .ok (.bipush 32, 2) := by decide +kernel
theorem dL_acts_43 : decode cL_acts 43 = .ok (.irem, 1) := by decide +kernel
theorem dL_acts_44 : decode cL_acts 44 = .ok (.tableswitch 527 0 23 #[112, 112, 134, 151, 151, 166, 180, 180, 180, 180, 180, 180, 210, 229, 238, 259, 264, 273, 283, 283, 300, 305, 313, 321], 112) := by decide +kernel
theorem dL_acts_156 : decode cL_acts 156 = .ok (.aload_n 0, 1) := by decide +kernel
theorem dL_acts_157 : decode cL_acts 157 = .ok (.iload_n 2, 1) := by decide +kernel
theorem dL_acts_158 : decode cL_acts 158 = .ok (.iconst 3, 1) := by decide +kernel
theorem dL_acts_159 : decode cL_acts 159 = .ok (.irem, 1) := by decide +kernel
theorem dL_acts_160 : decode cL_acts 160 = .ok (.iload_n 2, 1) := by decide +kernel
theorem dL_acts_161 : decode cL_acts 161 = .ok (.iconst 4, 1) := by decide +kernel
theorem dL_acts_162 : decode cL_acts 162 = .ok (.idiv, 1) := by decide +kernel
theorem dL_acts_163 : decode cL_acts 163 = .ok (.iconst 4, 1) := by decide +kernel
theorem dL_acts_164 : decode cL_acts 164 = .ok (.irem, 1) := by decide +kernel
theorem dL_acts_165 : decode cL_acts 165 = .ok (.iconst 4, 1) := by decide +kernel
theorem dL_acts_166 : decode cL_acts 166 = .ok (.iload_n 2, 1) := by decide +kernel
theorem dL_acts_167 : decode cL_acts 167 = .ok (.bipush 32, 2) := by decide +kernel
theorem dL_acts_169 : decode cL_acts 169 = .ok (.idiv, 1) := by decide +kernel
theorem dL_acts_170 : decode cL_acts 170 = .ok (.bipush 57, 2) := by decide +kernel
theorem dL_acts_172 : decode cL_acts 172 = .ok (.irem, 1) := by decide +kernel
theorem dL_acts_173 : decode cL_acts 173 = .ok (.iadd, 1) := by decide +kernel
theorem dL_acts_174 : decode cL_acts 174 = .ok (.invokestatic 194, 3) := by decide +kernel
theorem dL_acts_177 : decode cL_acts 177 = .ok (.ireturn, 1) := by decide +kernel
theorem dL_acts_178 : decode cL_acts 178 = .ok (.aload_n 0, 1) := by decide +kernel
theorem dL_acts_179 : decode cL_acts 179 = .ok (.iload 4, 2) := by decide +kernel
theorem dL_acts_181 : decode cL_acts 181 = .ok (.iconst 4, 1) := by decide +kernel
theorem dL_acts_182 : decode cL_acts 182 = .ok (.iload_n 2, 1) := by decide +kernel
theorem dL_acts_183 : decode cL_acts 183 = .ok (.sipush 128, 3) := by decide +kernel
theorem dL_acts_186 : decode cL_acts 186 = .ok (.idiv, 1) := by decide +kernel
theorem dL_acts_187 : decode cL_acts 187 = .ok (.bipush 57, 2) := by decide +kernel
theorem dL_acts_189 : decode cL_acts 189 = .ok (.irem, 1) := by decide +kernel
theorem dL_acts_190 : decode cL_acts 190 = .ok (.iadd, 1) := by decide +kernel
theorem dL_acts_191 : decode cL_acts 191 = .ok (.invokestatic 199, 3) := by decide +kernel
theorem dL_acts_194 : decode cL_acts 194 = .ok (.ireturn, 1) := by decide +kernel
theorem dL_acts_195 : decode cL_acts 195 = .ok (.aload_n 0, 1) := by decide +kernel
theorem dL_acts_196 : decode cL_acts 196 = .ok (.iload 4, 2) := by decide +kernel
theorem dL_acts_198 : decode cL_acts 198 = .ok (.iload_n 2, 1) := by decide +kernel
theorem dL_acts_199 : decode cL_acts 199 = .ok (.sipush 128, 3) := by decide +kernel
theorem dL_acts_202 : decode cL_acts 202 = .ok (.idiv, 1) := by decide +kernel
theorem dL_acts_203 : decode cL_acts 203 = .ok (.bipush 12, 2) := by decide +kernel
theorem dL_acts_205 : decode cL_acts 205 = .ok (.irem, 1) := by decide +kernel
theorem dL_acts_206 : decode cL_acts 206 = .ok (.invokestatic 202, 3) := by decide +kernel
theorem dL_acts_209 : decode cL_acts 209 = .ok (.ireturn, 1) := by decide +kernel
theorem dL_acts_210 : decode cL_acts 210 = .ok (.aload_n 0, 1) := by decide +kernel
theorem dL_acts_211 : decode cL_acts 211 = .ok (.iload 4, 2) := by decide +kernel
theorem dL_acts_213 : decode cL_acts 213 = .ok (.iload_n 2, 1) := by decide +kernel
theorem dL_acts_214 : decode cL_acts 214 = .ok (.sipush 128, 3) := by decide +kernel
theorem dL_acts_217 : decode cL_acts 217 = .ok (.idiv, 1) := by decide +kernel
theorem dL_acts_218 : decode cL_acts 218 = .ok (.iconst 4, 1) := by decide +kernel
theorem dL_acts_219 : decode cL_acts 219 = .ok (.irem, 1) := by decide +kernel
theorem dL_acts_220 : decode cL_acts 220 = .ok (.invokestatic 204, 3) := by decide +kernel
theorem dL_acts_223 : decode cL_acts 223 = .ok (.ireturn, 1) := by decide +kernel
theorem dL_acts_224 : decode cL_acts 224 = .ok (.aload_n 0, 1) := by decide +kernel
theorem dL_acts_225 : decode cL_acts 225 = .ok (.iload 4, 2) := by decide +kernel
theorem dL_acts_227 : decode cL_acts 227 = .ok (.iload 5, 2) := by decide +kernel
theorem dL_acts_229 : decode cL_acts 229 = .ok (.iconst 1, 1) := by decide +kernel
theorem dL_acts_230 : decode cL_acts 230 = .ok (.iload_n 2, 1) := by decide +kernel
theorem dL_acts_231 : decode cL_acts 231 = .ok (.sipush 128, 3) := by decide +kernel
theorem dL_acts_234 : decode cL_acts 234 = .ok (.idiv, 1) := by decide +kernel
theorem dL_acts_235 : decode cL_acts 235 = .ok (.iload_n 2, 1) := by decide +kernel
theorem dL_acts_236 : decode cL_acts 236 = .ok (.iconst 4, 1) := by decide +kernel
theorem dL_acts_237 : decode cL_acts 237 = .ok (.irem, 1) := by decide +kernel
theorem dL_acts_238 : decode cL_acts 238 = .ok (.ifCond .ne 8, 3) := by decide +kernel
theorem dL_acts_241 : decode cL_acts 241 = .ok (.bipush 60, 2) := by decide +kernel
theorem dL_acts_243 : decode cL_acts 243 = .ok (.goto 5, 3) := by decide +kernel
theorem dL_acts_246 : decode cL_acts 246 = .ok (.bipush 20, 2) := by decide +kernel
theorem dL_acts_248 : decode cL_acts 248 = .ok (.irem, 1) := by decide +kernel
theorem dL_acts_249 : decode cL_acts 249 = .ok (.iadd, 1) := by decide +kernel
theorem dL_acts_250 : decode cL_acts 250 = .ok (.invokestatic 206, 3) := by decide +kernel
theorem dL_acts_253 : decode cL_acts 253 = .ok (.ireturn, 1) := by decide +kernel
theorem dL_acts_254 : decode cL_acts 254 = .ok (.aload_n 0, 1) := by decide +kernel
theorem dL_acts_255 : decode cL_acts 255 = .ok (.iload 4, 2) := by decide +kernel
theorem dL_acts_257 : decode cL_acts 257 = .ok (.iload 5, 2) := by decide +kernel
theorem dL_acts_259 : decode cL_acts 259 = .ok (.iconst 1, 1) := by decide +kernel
theorem dL_acts_260 : decode cL_acts 260 = .ok (.iload_n 2, 1) := by decide +kernel
theorem dL_acts_261 : decode cL_acts 261 = .ok (.sipush 128, 3) := by decide +kernel
theorem dL_acts_264 : decode cL_acts 264 = .ok (.idiv, 1) := by decide +kernel
theorem dL_acts_265 : decode cL_acts 265 = .ok (.bipush 12, 2) := by decide +kernel
theorem dL_acts_267 : decode cL_acts 267 = .ok (.irem, 1) := by decide +kernel
theorem dL_acts_268 : decode cL_acts 268 = .ok (.iadd, 1) := by decide +kernel
theorem dL_acts_269 : decode cL_acts 269 = .ok (.invokestatic 208, 3) := by decide +kernel
theorem dL_acts_272 : decode cL_acts 272 = .ok (.ireturn, 1) := by decide +kernel
theorem dL_acts_273 : decode cL_acts 273 = .ok (.aload_n 0, 1) := by decide +kernel
theorem dL_acts_274 : decode cL_acts 274 = .ok (.iload 4, 2) := by decide +kernel
theorem dL_acts_276 : decode cL_acts 276 = .ok (.iload 5, 2) := by decide +kernel
theorem dL_acts_278 : decode cL_acts 278 = .ok (.invokestatic 210, 3) := by decide +kernel
theorem dL_acts_281 : decode cL_acts 281 = .ok (.ireturn, 1) := by decide +kernel
theorem dL_acts_282 : decode cL_acts 282 = .ok (.aload_n 0, 1) := by decide +kernel
theorem dL_acts_283 : decode cL_acts 283 = .ok (.iload_n 2, 1) := by decide +kernel
theorem dL_acts_284 : decode cL_acts 284 = .ok (.iconst 5, 1) := by decide +kernel
theorem dL_acts_285 : decode cL_acts 285 = .ok (.irem, 1) := by decide +kernel
theorem dL_acts_286 : decode cL_acts 286 = .ok (.iload 5, 2) := by decide +kernel
theorem dL_acts_288 : decode cL_acts 288 = .ok (.bipush 20, 2) := by decide +kernel
theorem dL_acts_290 : decode cL_acts 290 = .ok (.iload_n 2, 1) := by decide +kernel
theorem dL_acts_291 : decode cL_acts 291 = .ok (.sipush 128, 3) := by decide +kernel
theorem dL_acts_294 : decode cL_acts 294 = .ok (.idiv, 1) := by decide +kernel
theorem dL_acts_295 : decode cL_acts 295 = .ok (.bipush 101, 2) := by decide +kernel
theorem dL_acts_297 : decode cL_acts 297 = .ok (.irem, 1) := by decide +kernel
theorem dL_acts_298 : decode cL_acts 298 = .ok (.iadd, 1) := by decide +kernel
theorem dL_acts_299 : decode cL_acts 299 = .ok (.invokestatic 212, 3) := by decide +kernel
theorem dL_acts_302 : decode cL_acts 302 = .ok (.ireturn, 1) := by decide +kernel
theorem dL_acts_303 : decode cL_acts 303 = .ok (.aload_n 0, 1) := by decide +kernel
theorem dL_acts_304 : decode cL_acts 304 = .ok (.invokestatic 214, 3) := by decide +kernel
theorem dL_acts_307 : decode cL_acts 307 = .ok (.ireturn, 1) := by decide +kernel
theorem dL_acts_308 : decode cL_acts 308 = .ok (.aload_n 0, 1) := by decide +kernel
theorem dL_acts_309 : decode cL_acts 309 = .ok (.iload 4, 2) := by decide +kernel
theorem dL_acts_311 : decode cL_acts 311 = .ok (.iload 5, 2) := by decide +kernel
theorem dL_acts_313 : decode cL_acts 313 = .ok (.invokestatic 217, 3) := by decide +kernel
theorem dL_acts_316 : decode cL_acts 316 = .ok (.ireturn, 1) := by decide +kernel
theorem dL_acts_317 : decode cL_acts 317 = .ok (.aload_n 0, 1) := by decide +kernel
theorem dL_acts_318 : decode cL_acts 318 = .ok (.iload_n 2, 1) := by decide +kernel
theorem dL_acts_319 : decode cL_acts 319 = .ok (.iconst 3, 1) := by decide +kernel
theorem dL_acts_320 : decode cL_acts 320 = .ok (.irem, 1) := by decide +kernel
theorem dL_acts_321 : decode cL_acts 321 = .ok (.iload 5, 2) := by decide +kernel
theorem dL_acts_323 : decode cL_acts 323 = .ok (.invokestatic 219, 3) := by decide +kernel
theorem dL_acts_326 : decode cL_acts 326 = .ok (.ireturn, 1) := by decide +kernel
theorem dL_acts_327 : decode cL_acts 327 = .ok (.aload_n 0, 1) := by decide +kernel
theorem dL_acts_328 : decode cL_acts 328 = .ok (.iload_n 2, 1) := by decide +kernel
theorem dL_acts_329 : decode cL_acts 329 = .ok (.sipush 128, 3) := by decide +kernel
theorem dL_acts_332 : decode cL_acts 332 = .ok (.idiv, 1) := by decide +kernel
theorem dL_acts_333 : decode cL_acts 333 = .ok (.iconst 5, 1) := by decide +kernel
theorem dL_acts_334 : decode cL_acts 334 = .ok (.irem, 1) := by decide +kernel
theorem dL_acts_335 : decode cL_acts 335 = .ok (.iload_n 2, 1) := by decide +kernel
theorem dL_acts_336 : decode cL_acts 336 = .ok (.iconst 3, 1) := by decide +kernel
theorem dL_acts_337 : decode cL_acts 337 = .ok (.irem, 1) := by decide +kernel
