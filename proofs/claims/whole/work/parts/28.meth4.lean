/-! the methods: their rows, and what the tables say of them -/
section XM24
theorem lk_RL_306 : Cond.methodLink RL 306 yX5_hundredthsOf ∈ lwG := tk7 (i := 77) (by decide +kernel) rfl
theorem lk_RL_307 : Cond.methodLink RL 307 yL_reasonAgainst ∈ lwG := tk5 (i := 48) (by decide +kernel) rfl
theorem lk_RL_309 : Cond.methodLink RL 309 yX5_reasonAgainst ∈ lwG := tk7 (i := 85) (by decide +kernel) rfl
theorem lk_RL_310 : Cond.methodLink RL 310 yL_staminaOf ∈ lwG := tk5 (i := 55) (by decide +kernel) rfl
theorem lk_RL_312 : Cond.methodLink RL 312 yX5_staminaOf ∈ lwG := tk7 (i := 89) (by decide +kernel) rfl
theorem lk_RL_313 : Cond.methodLink RL 313 yL_strengthLeft ∈ lwG := tk5 (i := 62) (by decide +kernel) rfl
theorem lk_RL_315 : Cond.methodLink RL 315 yX5_strengthLeft ∈ lwG := tk7 (i := 93) (by decide +kernel) rfl
theorem lk_RL_316 : Cond.methodLink RL 316 yL_framesOfVoice ∈ lwG := tk5 (i := 69) (by decide +kernel) rfl
theorem lk_RL_318 : Cond.methodLink RL 318 yX5_framesOfVoice ∈ lwG := tk7 (i := 97) (by decide +kernel) rfl
theorem lk_RL_319 : Cond.methodLink RL 319 yL_sessionsByGoing ∈ lwG := tk5 (i := 76) (by decide +kernel) rfl
theorem lk_RL_321 : Cond.methodLink RL 321 yX5_sessionsByGoing ∈ lwG := tk7 (i := 105) (by decide +kernel) rfl
theorem lk_RL_322 : Cond.methodLink RL 322 yL_sessionsByTable ∈ lwG := tk5 (i := 88) (by decide +kernel) rfl
theorem lk_RL_324 : Cond.methodLink RL 324 yX5_sessionsByTable ∈ lwG := tk7 (i := 121) (by decide +kernel) rfl
theorem lk_RL_325 : Cond.methodLink RL 325 yL_clausesIn ∈ lwG := tk5 (i := 95) (by decide +kernel) rfl
theorem lk_RL_327 : Cond.methodLink RL 327 yX5_clausesIn ∈ lwG := tk7 (i := 125) (by decide +kernel) rfl
theorem lk_RL_328 : Cond.methodLink RL 328 yL_lengthOf ∈ lwG := tk5 (i := 102) (by decide +kernel) rfl
theorem lk_RL_330 : Cond.methodLink RL 330 yX5_lengthOf ∈ lwG := tk7 (i := 133) (by decide +kernel) rfl
theorem lk_RL_331 : Cond.methodLink RL 331 yL_speaksIn ∈ lwG := tk5 (i := 109) (by decide +kernel) rfl
theorem lk_RL_333 : Cond.methodLink RL 333 yX5_speaksIn ∈ lwG := tk7 (i := 141) (by decide +kernel) rfl
theorem lk_RL_334 : Cond.methodLink RL 334 yL_isComplete ∈ lwG := tk5 (i := 116) (by decide +kernel) rfl
theorem lk_RL_336 : Cond.methodLink RL 336 yX5_isComplete ∈ lwG := tk7 (i := 145) (by decide +kernel) rfl
theorem lk_RL_337 : Cond.methodLink RL 337 yL_isMixed ∈ lwG := tk5 (i := 123) (by decide +kernel) rfl
theorem lk_RL_339 : Cond.methodLink RL 339 yX5_isMixed ∈ lwG := tk7 (i := 149) (by decide +kernel) rfl
theorem lk_RL_340 : Cond.methodLink RL 340 yL_hasSigned ∈ lwG := tk5 (i := 130) (by decide +kernel) rfl
theorem lk_RL_342 : Cond.methodLink RL 342 yX5_hasSigned ∈ lwG := tk7 (i := 153) (by decide +kernel) rfl
theorem lk_RL_343 : Cond.methodLink RL 343 yL_signaturesOn ∈ lwG := tk5 (i := 137) (by decide +kernel) rfl
theorem lk_RL_345 : Cond.methodLink RL 345 yX5_signaturesOn ∈ lwG := tk7 (i := 157) (by decide +kernel) rfl
theorem lk_RL_346 : Cond.methodLink RL 346 yL_missingOn ∈ lwG := tk5 (i := 144) (by decide +kernel) rfl
theorem lk_RL_348 : Cond.methodLink RL 348 yX5_missingOn ∈ lwG := tk7 (i := 165) (by decide +kernel) rfl
theorem lk_RL_349 : Cond.methodLink RL 349 yL_annexOf ∈ lwG := tk5 (i := 151) (by decide +kernel) rfl
theorem lk_RL_351 : Cond.methodLink RL 351 yX5_annexOf ∈ lwG := tk7 (i := 169) (by decide +kernel) rfl
theorem lk_RL_352 : Cond.methodLink RL 352 yL_recordedIn ∈ lwG := tk5 (i := 158) (by decide +kernel) rfl
theorem lk_RL_354 : Cond.methodLink RL 354 yX5_recordedIn ∈ lwG := tk7 (i := 173) (by decide +kernel) rfl
theorem lk_RL_355 : Cond.methodLink RL 355 yL_readyByClauses ∈ lwG := tk5 (i := 165) (by decide +kernel) rfl
theorem lk_RL_357 : Cond.methodLink RL 357 yX5_readyByClauses ∈ lwG := tk7 (i := 181) (by decide +kernel) rfl
theorem lk_RL_358 : Cond.methodLink RL 358 yL_readyByVoices ∈ lwG := tk5 (i := 172) (by decide +kernel) rfl
theorem lk_RL_360 : Cond.methodLink RL 360 yX5_readyByVoices ∈ lwG := tk7 (i := 189) (by decide +kernel) rfl
theorem lk_RL_361 : Cond.methodLink RL 361 yL_isRatified ∈ lwG := tk5 (i := 179) (by decide +kernel) rfl
theorem lk_RL_363 : Cond.methodLink RL 363 yX5_isRatified ∈ lwG := tk7 (i := 193) (by decide +kernel) rfl
theorem lk_RL_364 : Cond.methodLink RL 364 yL_misfitsIn ∈ lwG := tk5 (i := 186) (by decide +kernel) rfl
theorem lk_RL_366 : Cond.methodLink RL 366 yX5_misfitsIn ∈ lwG := tk7 (i := 201) (by decide +kernel) rfl
theorem lk_RL_367 : Cond.methodLink RL 367 yX4_session ∈ lwG := tk2 (i := 0) (by decide +kernel) rfl
theorem lk_RL_370 : Cond.methodLink RL 370 yX5_session ∈ lwG := tk7 (i := 209) (by decide +kernel) rfl
theorem lk_RL_371 : Cond.methodLink RL 371 yX4_recordings ∈ lwG := tk2 (i := 4) (by decide +kernel) rfl
theorem lk_RL_374 : Cond.methodLink RL 374 yX5_recordings ∈ lwG := tk7 (i := 213) (by decide +kernel) rfl
theorem lk_RL_375 : Cond.methodLink RL 375 yX4_wiped ∈ lwG := tk2 (i := 8) (by decide +kernel) rfl
theorem lk_RL_378 : Cond.methodLink RL 378 yX5_wiped ∈ lwG := tk7 (i := 217) (by decide +kernel) rfl
theorem lk_RL_379 : Cond.methodLink RL 379 yX4_mixes ∈ lwG := tk2 (i := 12) (by decide +kernel) rfl
theorem lk_RL_382 : Cond.methodLink RL 382 yX5_mixes ∈ lwG := tk7 (i := 221) (by decide +kernel) rfl
theorem lk_RL_383 : Cond.methodLink RL 383 yL_leastAnnex ∈ lwG := tk5 (i := 193) (by decide +kernel) rfl
theorem lk_RL_385 : Cond.methodLink RL 385 yX5_leastAnnex ∈ lwG := tk7 (i := 225) (by decide +kernel) rfl
theorem lk_RL_386 : Cond.methodLink RL 386 yL_longestSigh ∈ lwG := tk5 (i := 201) (by decide +kernel) rfl
theorem lk_RL_388 : Cond.methodLink RL 388 yX5_longestSigh ∈ lwG := tk7 (i := 233) (by decide +kernel) rfl
theorem lk_RL_389 : Cond.methodLink RL 389 yL_nextClause ∈ lwG := tk5 (i := 209) (by decide +kernel) rfl
theorem lk_RL_391 : Cond.methodLink RL 391 yX5_nextClause ∈ lwG := tk8 (i := 1) (by decide +kernel) rfl
theorem lk_RL_392 : Cond.methodLink RL 392 yX4_bestTongue ∈ lwG := tk2 (i := 16) (by decide +kernel) rfl
theorem lk_RL_395 : Cond.methodLink RL 395 yX5_bestTongue ∈ lwG := tk8 (i := 9) (by decide +kernel) rfl
theorem lk_RL_396 : Cond.methodLink RL 396 yX4_loudestState ∈ lwG := tk2 (i := 36) (by decide +kernel) rfl
theorem lk_RL_399 : Cond.methodLink RL 399 yX5_loudestState ∈ lwG := tk8 (i := 17) (by decide +kernel) rfl
theorem lk_RL_400 : Cond.methodLink RL 400 yL_meanFit ∈ lwG := tk5 (i := 217) (by decide +kernel) rfl
theorem lk_RL_403 : Cond.methodLink RL 403 yX5_meanFit ∈ lwG := tk8 (i := 29) (by decide +kernel) rfl
theorem lk_RL_404 : Cond.methodLink RL 404 yX4_digest ∈ lwG := tk2 (i := 56) (by decide +kernel) rfl
theorem lk_RL_408 : Cond.methodLink RL 408 yX5_digest ∈ lwG := tk8 (i := 37) (by decide +kernel) rfl
theorem lk_RX0_45 : Cond.methodLink RX0 45 yX0_accepts ∈ lwG := tk1 (i := 201) (by decide +kernel) rfl
theorem lk_RX0_49 : Cond.methodLink RX0 49 yX0_readToError ∈ lwG := tk4 (i := 162) (by decide +kernel) rfl
theorem lk_RX0_53 : Cond.methodLink RX0 53 yX0_acceptsReel ∈ lwG := tk1 (i := 205) (by decide +kernel) rfl
theorem lk_RX0_56 : Cond.methodLink RX0 56 yX0_acceptsSpeaker ∈ lwG := tk1 (i := 212) (by decide +kernel) rfl
theorem lk_RX0_59 : Cond.methodLink RX0 59 yX0_acceptsLips ∈ lwG := tk1 (i := 216) (by decide +kernel) rfl
theorem lk_RX0_62 : Cond.methodLink RX0 62 yX0_acceptsSigh ∈ lwG := tk1 (i := 228) (by decide +kernel) rfl
theorem lk_RX0_65 : Cond.methodLink RX0 65 yX0_acceptsDigit ∈ lwG := tk1 (i := 220) (by decide +kernel) rfl
theorem lk_RX0_69 : Cond.methodLink RX0 69 yX0_acceptsEnd ∈ lwG := tk1 (i := 224) (by decide +kernel) rfl
theorem lk_RX1_17 : Cond.methodLink RX1 17 yX3_init ∈ lwG := tk1 (i := 97) (by decide +kernel) rfl
theorem lk_RX1_22 : Cond.methodLink RX1 22 yX1_dropOldest ∈ lwG := tk3 (i := 182) (by decide +kernel) rfl
theorem lk_RX1_29 : Cond.methodLink RX1 29 yX3_becomeLike ∈ lwG := tk3 (i := 189) (by decide +kernel) rfl
theorem lk_RX2_36 : Cond.methodLink RX2 36 yX2_fewestFor ∈ lwG := tk2 (i := 188) (by decide +kernel) rfl
theorem lk_RX3_69 : Cond.methodLink RX3 69 yX3_unmixEverywhere ∈ lwG := tk3 (i := 205) (by decide +kernel) rfl
theorem lk_RX3_73 : Cond.methodLink RX3 73 yX3_place ∈ lwG := tk2 (i := 32) (by decide +kernel) rfl
theorem lk_RX3_77 : Cond.methodLink RX3 77 yX3_speakerAt ∈ lwG := tk2 (i := 48) (by decide +kernel) rfl
theorem lk_RX3_85 : Cond.methodLink RX3 85 yX3_spokenAt ∈ lwG := tk2 (i := 127) (by decide +kernel) rfl
theorem lk_RX3_88 : Cond.methodLink RX3 88 yX3_reelAt ∈ lwG := tk2 (i := 201) (by decide +kernel) rfl
theorem lk_RX3_91 : Cond.methodLink RX3 91 yX3_unmix ∈ lwG := tk3 (i := 209) (by decide +kernel) rfl
theorem lk_RX3_95 : Cond.methodLink RX3 95 yX3_framesAt ∈ lwG := tk2 (i := 86) (by decide +kernel) rfl
theorem lk_RX3_98 : Cond.methodLink RX3 98 yX3_isTaken ∈ lwG := tk2 (i := 28) (by decide +kernel) rfl
theorem lk_RX3_102 : Cond.methodLink RX3 102 yX3_lipsAt ∈ lwG := tk2 (i := 52) (by decide +kernel) rfl
theorem lk_RX3_105 : Cond.methodLink RX3 105 yX3_hasFit ∈ lwG := tk2 (i := 111) (by decide +kernel) rfl
theorem lk_RX3_108 : Cond.methodLink RX3 108 yX3_hasTranslation ∈ lwG := tk2 (i := 107) (by decide +kernel) rfl
theorem lk_RX3_111 : Cond.methodLink RX3 111 yX3_strengthAt ∈ lwG := tk2 (i := 115) (by decide +kernel) rfl
theorem lk_RX3_114 : Cond.methodLink RX3 114 yX3_annexTotal ∈ lwG := tk4 (i := 39) (by decide +kernel) rfl
theorem lk_RX3_117 : Cond.methodLink RX3 117 yX3_roomAt ∈ lwG := tk2 (i := 144) (by decide +kernel) rfl
theorem lk_RX3_128 : Cond.methodLink RX3 128 yX3_staminaAt ∈ lwG := tk2 (i := 119) (by decide +kernel) rfl
theorem lk_RX3_131 : Cond.methodLink RX3 131 yX3_usedBy ∈ lwG := tk2 (i := 123) (by decide +kernel) rfl
theorem lk_RX3_134 : Cond.methodLink RX3 134 yX3_isReady ∈ lwG := tk2 (i := 166) (by decide +kernel) rfl
theorem lk_RX3_137 : Cond.methodLink RX3 137 yX2_start ∈ lwG := tk2 (i := 162) (by decide +kernel) rfl
theorem lk_RX3_142 : Cond.methodLink RX3 142 yX2_add ∈ lwG := tk2 (i := 170) (by decide +kernel) rfl
theorem lk_RX3_145 : Cond.methodLink RX3 145 yX3_lipsBy ∈ lwG := tk2 (i := 44) (by decide +kernel) rfl
theorem lk_RX3_148 : Cond.methodLink RX3 148 yX3_clausesOn ∈ lwG := tk2 (i := 210) (by decide +kernel) rfl
theorem lk_RX3_151 : Cond.methodLink RX3 151 yJ6_bitCount_0f7a4 ∈ lwG := tk2 (i := 219) (by decide +kernel) rfl
theorem lk_RX3_156 : Cond.methodLink RX3 156 yX3_isHeardIn ∈ lwG := tk2 (i := 229) (by decide +kernel) rfl
theorem lk_RX3_159 : Cond.methodLink RX3 159 yX3_hasSignature ∈ lwG := tk2 (i := 233) (by decide +kernel) rfl
theorem lk_RX3_163 : Cond.methodLink RX3 163 yX3_annexedAt ∈ lwG := tk3 (i := 5) (by decide +kernel) rfl
theorem lk_RX3_166 : Cond.methodLink RX3 166 yX3_readyOfVoice ∈ lwG := tk3 (i := 15) (by decide +kernel) rfl
theorem lk_RX3_169 : Cond.methodLink RX3 169 yX3_hasMix ∈ lwG := tk3 (i := 23) (by decide +kernel) rfl
theorem lk_RX3_172 : Cond.methodLink RX3 172 yX3_signaturesMissing ∈ lwG := tk3 (i := 24) (by decide +kernel) rfl
theorem lk_RX3_175 : Cond.methodLink RX3 175 yX3_hundredthsAt ∈ lwG := tk3 (i := 38) (by decide +kernel) rfl
theorem lk_RX3_178 : Cond.methodLink RX3 178 yX3_reasonAt ∈ lwG := tk3 (i := 33) (by decide +kernel) rfl
theorem lk_RX3_181 : Cond.methodLink RX3 181 yX3_takenTotal ∈ lwG := tk2 (i := 24) (by decide +kernel) rfl
theorem lk_RX4_9 : Cond.methodLink RX4 9 yX3_init ∈ lwG := tk1 (i := 27) (by decide +kernel) rfl
theorem lk_RX4_18 : Cond.methodLink RX4 18 yX1_init ∈ lwG := tk1 (i := 91) (by decide +kernel) rfl
theorem lk_RX4_45 : Cond.methodLink RX4 45 yX4_checkReel ∈ lwG := tk3 (i := 68) (by decide +kernel) rfl
theorem lk_RX4_49 : Cond.methodLink RX4 49 yX4_checkState ∈ lwG := tk3 (i := 139) (by decide +kernel) rfl
theorem lk_RX4_52 : Cond.methodLink RX4 52 yX4_checkRange ∈ lwG := tk3 (i := 143) (by decide +kernel) rfl
theorem lk_RX4_67 : Cond.methodLink RX4 67 yX1_push ∈ lwG := tk3 (i := 178) (by decide +kernel) rfl
theorem lk_RX4_71 : Cond.methodLink RX4 71 yX3_add ∈ lwG := tk3 (i := 200) (by decide +kernel) rfl
theorem lk_RX4_75 : Cond.methodLink RX4 75 yX4_checkClause ∈ lwG := tk3 (i := 220) (by decide +kernel) rfl
theorem lk_RX4_78 : Cond.methodLink RX4 78 yX3_isRecordedAnywhere ∈ lwG := tk3 (i := 225) (by decide +kernel) rfl
theorem lk_RX4_82 : Cond.methodLink RX4 82 yX3_sighAt ∈ lwG := tk2 (i := 75) (by decide +kernel) rfl
theorem lk_RX4_88 : Cond.methodLink RX4 88 yX3_lipsAt ∈ lwG := tk2 (i := 74) (by decide +kernel) rfl
theorem lk_RX4_95 : Cond.methodLink RX4 95 yX4_put ∈ lwG := tk3 (i := 230) (by decide +kernel) rfl
theorem lk_RX4_104 : Cond.methodLink RX4 104 yX3_reelAt ∈ lwG := tk2 (i := 69) (by decide +kernel) rfl
theorem lk_RX4_112 : Cond.methodLink RX4 112 yX3_unmixEverywhere ∈ lwG := tk4 (i := 7) (by decide +kernel) rfl
theorem lk_RX4_115 : Cond.methodLink RX4 115 yX4_checkTranslation ∈ lwG := tk4 (i := 15) (by decide +kernel) rfl
theorem lk_RX4_119 : Cond.methodLink RX4 119 yX3_isTaken ∈ lwG := tk2 (i := 99) (by decide +kernel) rfl
theorem lk_RX4_125 : Cond.methodLink RX4 125 yX3_putTranslation ∈ lwG := tk4 (i := 24) (by decide +kernel) rfl
theorem lk_RX4_129 : Cond.methodLink RX4 129 yX3_roomAt ∈ lwG := tk2 (i := 132) (by decide +kernel) rfl
theorem lk_RX4_133 : Cond.methodLink RX4 133 yX3_canAnnex ∈ lwG := tk4 (i := 35) (by decide +kernel) rfl
theorem lk_RX4_139 : Cond.methodLink RX4 139 yX3_framesAt ∈ lwG := tk2 (i := 94) (by decide +kernel) rfl
theorem lk_RX4_142 : Cond.methodLink RX4 142 yX3_annexedAt ∈ lwG := tk2 (i := 95) (by decide +kernel) rfl
theorem lk_RX4_145 : Cond.methodLink RX4 145 yX3_annexTotal ∈ lwG := tk3 (i := 1) (by decide +kernel) rfl
theorem lk_RX4_150 : Cond.methodLink RX4 150 yX4_checkVoice ∈ lwG := tk4 (i := 56) (by decide +kernel) rfl
theorem lk_RX4_153 : Cond.methodLink RX4 153 yX3_usedBy ∈ lwG := tk4 (i := 59) (by decide +kernel) rfl
theorem lk_RX4_158 : Cond.methodLink RX4 158 yX3_staminaAt ∈ lwG := tk2 (i := 152) (by decide +kernel) rfl
theorem lk_RX4_161 : Cond.methodLink RX4 161 yX3_putStamina ∈ lwG := tk4 (i := 61) (by decide +kernel) rfl
theorem lk_RX4_164 : Cond.methodLink RX4 164 yX3_reasonAt ∈ lwG := tk2 (i := 103) (by decide +kernel) rfl
theorem lk_RX4_169 : Cond.methodLink RX4 169 yX3_take ∈ lwG := tk4 (i := 73) (by decide +kernel) rfl
theorem lk_RX4_172 : Cond.methodLink RX4 172 yX3_speakerAt ∈ lwG := tk2 (i := 73) (by decide +kernel) rfl
theorem lk_RX4_175 : Cond.methodLink RX4 175 yX3_strengthAt ∈ lwG := tk2 (i := 153) (by decide +kernel) rfl
theorem lk_RX4_178 : Cond.methodLink RX4 178 yX4_checkTaken ∈ lwG := tk4 (i := 84) (by decide +kernel) rfl
theorem lk_RX4_181 : Cond.methodLink RX4 181 yX3_takenIn ∈ lwG := tk4 (i := 89) (by decide +kernel) rfl
theorem lk_RX4_184 : Cond.methodLink RX4 184 yX3_dropTaken ∈ lwG := tk4 (i := 93) (by decide +kernel) rfl
theorem lk_RX4_192 : Cond.methodLink RX4 192 yX3_beginSession ∈ lwG := tk4 (i := 105) (by decide +kernel) rfl
theorem lk_RX4_195 : Cond.methodLink RX4 195 yX4_checkTongue ∈ lwG := tk4 (i := 19) (by decide +kernel) rfl
theorem lk_RX4_198 : Cond.methodLink RX4 198 yX3_hasMix ∈ lwG := tk2 (i := 211) (by decide +kernel) rfl
theorem lk_RX4_201 : Cond.methodLink RX4 201 yX3_isWholeReel ∈ lwG := tk2 (i := 206) (by decide +kernel) rfl
theorem lk_RX4_206 : Cond.methodLink RX4 206 yX3_putMix ∈ lwG := tk4 (i := 117) (by decide +kernel) rfl
theorem lk_RX4_209 : Cond.methodLink RX4 209 yX3_silenceIn ∈ lwG := tk4 (i := 121) (by decide +kernel) rfl
theorem lk_RX4_212 : Cond.methodLink RX4 212 yX3_isHeardIn ∈ lwG := tk4 (i := 132) (by decide +kernel) rfl
theorem lk_RX4_215 : Cond.methodLink RX4 215 yX3_hasSignature ∈ lwG := tk4 (i := 133) (by decide +kernel) rfl
theorem lk_RX4_220 : Cond.methodLink RX4 220 yX3_putSignature ∈ lwG := tk4 (i := 135) (by decide +kernel) rfl
theorem lk_RX4_223 : Cond.methodLink RX4 223 yX3_signaturesMissing ∈ lwG := tk2 (i := 225) (by decide +kernel) rfl
theorem lk_RX4_231 : Cond.methodLink RX4 231 yX0_putSign ∈ lwG := tk4 (i := 147) (by decide +kernel) rfl
theorem lk_RX4_234 : Cond.methodLink RX4 234 yX0_readToError ∈ lwG := tk1 (i := 194) (by decide +kernel) rfl
theorem lk_RX4_238 : Cond.methodLink RX4 238 yX0_readWhole ∈ lwG := tk4 (i := 158) (by decide +kernel) rfl
theorem lk_RX4_250 : Cond.methodLink RX4 250 yX0_hasSighBeyondLips ∈ lwG := tk4 (i := 164) (by decide +kernel) rfl
theorem lk_RX4_256 : Cond.methodLink RX4 256 yX4_at ∈ lwG := tk3 (i := 57) (by decide +kernel) rfl
theorem lk_RX4_265 : Cond.methodLink RX4 265 yX4_treatyAt ∈ lwG := tk4 (i := 176) (by decide +kernel) rfl
theorem lk_RX4_269 : Cond.methodLink RX4 269 yX3_becomeLike ∈ lwG := tk4 (i := 177) (by decide +kernel) rfl
theorem lk_RX4_272 : Cond.methodLink RX4 272 yX4_hasSnapshot ∈ lwG := tk3 (i := 49) (by decide +kernel) rfl
theorem lk_RX4_280 : Cond.methodLink RX4 280 yX1_popInto ∈ lwG := tk4 (i := 194) (by decide +kernel) rfl
theorem lk_RX4_283 : Cond.methodLink RX4 283 yX3_hasTranslation ∈ lwG := tk2 (i := 131) (by decide +kernel) rfl
theorem lk_RX4_286 : Cond.methodLink RX4 286 yX4_checkTranslated ∈ lwG := tk5 (i := 0) (by decide +kernel) rfl
theorem lk_RX4_289 : Cond.methodLink RX4 289 yX3_hasFit ∈ lwG := tk5 (i := 40) (by decide +kernel) rfl
theorem lk_RX4_292 : Cond.methodLink RX4 292 yX3_hundredthsAt ∈ lwG := tk2 (i := 136) (by decide +kernel) rfl
theorem lk_RX4_295 : Cond.methodLink RX4 295 yX3_takenFramesOf ∈ lwG := tk2 (i := 154) (by decide +kernel) rfl
theorem lk_RX4_298 : Cond.methodLink RX4 298 yX4_checkPlan ∈ lwG := tk5 (i := 83) (by decide +kernel) rfl
theorem lk_RX4_301 : Cond.methodLink RX4 301 yX2_goThrough ∈ lwG := tk2 (i := 180) (by decide +kernel) rfl
theorem lk_RX4_304 : Cond.methodLink RX4 304 yX2_fillTable ∈ lwG := tk2 (i := 184) (by decide +kernel) rfl
theorem lk_RX4_307 : Cond.methodLink RX4 307 yX3_clausesOn ∈ lwG := tk2 (i := 197) (by decide +kernel) rfl
theorem lk_RX4_310 : Cond.methodLink RX4 310 yX3_lipsOn ∈ lwG := tk2 (i := 202) (by decide +kernel) rfl
theorem lk_RX4_313 : Cond.methodLink RX4 313 yX3_signaturesAt ∈ lwG := tk2 (i := 215) (by decide +kernel) rfl
theorem lk_RX4_316 : Cond.methodLink RX4 316 yX3_takenTotal ∈ lwG := tk3 (i := 6) (by decide +kernel) rfl
theorem lk_RX4_319 : Cond.methodLink RX4 319 yX3_readyTotal ∈ lwG := tk3 (i := 7) (by decide +kernel) rfl
theorem lk_RX4_322 : Cond.methodLink RX4 322 yX3_readyOfAllVoices ∈ lwG := tk3 (i := 11) (by decide +kernel) rfl
theorem lk_RX4_325 : Cond.methodLink RX4 325 yX3_hasRatification ∈ lwG := tk3 (i := 19) (by decide +kernel) rfl
theorem lk_RX4_328 : Cond.methodLink RX4 328 yX3_misfitTotal ∈ lwG := tk3 (i := 25) (by decide +kernel) rfl
theorem lk_RX4_340 : Cond.methodLink RX4 340 yX3_leastAnnexAt ∈ lwG := tk2 (i := 140) (by decide +kernel) rfl
theorem lk_RX4_345 : Cond.methodLink RX4 345 yX3_longestSighAt ∈ lwG := tk2 (i := 79) (by decide +kernel) rfl
theorem lk_RX4_350 : Cond.methodLink RX4 350 yX3_longestToTake ∈ lwG := tk3 (i := 29) (by decide +kernel) rfl
theorem lk_RX4_355 : Cond.methodLink RX4 355 yX3_mostTakenTongue ∈ lwG := tk2 (i := 20) (by decide +kernel) rfl
theorem lk_RX4_358 : Cond.methodLink RX4 358 yX3_mostLipsState ∈ lwG := tk2 (i := 40) (by decide +kernel) rfl
theorem lk_RX4_361 : Cond.methodLink RX4 361 yX3_meanHundredths ∈ lwG := tk3 (i := 34) (by decide +kernel) rfl
theorem lk_RX4_367 : Cond.methodLink RX4 367 yX4_chain ∈ lwG := tk2 (i := 61) (by decide +kernel) rfl
theorem lk_RX4_371 : Cond.methodLink RX4 371 yX4_chainClause ∈ lwG := tk2 (i := 65) (by decide +kernel) rfl
theorem lk_RX4_375 : Cond.methodLink RX4 375 yX4_chainVoice ∈ lwG := tk2 (i := 148) (by decide +kernel) rfl
theorem lk_RX4_379 : Cond.methodLink RX4 379 yX4_chainReel ∈ lwG := tk2 (i := 193) (by decide +kernel) rfl
theorem lk_RX4_382 : Cond.methodLink RX4 382 yX4_chainTongue ∈ lwG := tk2 (i := 237) (by decide +kernel) rfl
theorem lk_RX4_385 : Cond.methodLink RX4 385 yX4_chainAccounts ∈ lwG := tk3 (i := 45) (by decide +kernel) rfl
theorem lk_RX4_389 : Cond.methodLink RX4 389 yX4_chainBuffer ∈ lwG := tk3 (i := 53) (by decide +kernel) rfl
theorem lk_RX4_394 : Cond.methodLink RX4 394 yX4_chainTranslation ∈ lwG := tk2 (i := 90) (by decide +kernel) rfl
theorem lk_RX4_397 : Cond.methodLink RX4 397 yX4_chainFlag ∈ lwG := tk2 (i := 100) (by decide +kernel) rfl
theorem lk_RX4_401 : Cond.methodLink RX4 401 yX3_fillPlan ∈ lwG := tk2 (i := 158) (by decide +kernel) rfl
theorem lk_RX4_405 : Cond.methodLink RX4 405 yX2_hasTooLong ∈ lwG := tk2 (i := 175) (by decide +kernel) rfl
theorem lk_RX4_408 : Cond.methodLink RX4 408 yX4_bitsOf ∈ lwG := tk3 (i := 39) (by decide +kernel) rfl
theorem lk_RX5_30 : Cond.methodLink RX5 30 yX5_in ∈ lwG := tk6 (i := 47) (by decide +kernel) rfl
theorem lk_RX5_34 : Cond.methodLink RX5 34 yX5_isClause ∈ lwG := tk6 (i := 80) (by decide +kernel) rfl
theorem lk_RX5_38 : Cond.methodLink RX5 38 yX5_isTongue ∈ lwG := tk6 (i := 112) (by decide +kernel) rfl
theorem lk_RX5_44 : Cond.methodLink RX5 44 yX5_at ∈ lwG := tk6 (i := 65) (by decide +kernel) rfl
theorem lk_RX5_48 : Cond.methodLink RX5 48 yX5_frames ∈ lwG := tk6 (i := 119) (by decide +kernel) rfl
theorem lk_RX5_51 : Cond.methodLink RX5 51 yX5_isTaken ∈ lwG := tk6 (i := 88) (by decide +kernel) rfl
theorem lk_RX5_55 : Cond.methodLink RX5 55 yX5_unmix ∈ lwG := tk6 (i := 72) (by decide +kernel) rfl
theorem lk_RX5_59 : Cond.methodLink RX5 59 yX5_both ∈ lwG := tk6 (i := 115) (by decide +kernel) rfl
theorem lk_RX5_62 : Cond.methodLink RX5 62 yX5_fitting ∈ lwG := tk6 (i := 150) (by decide +kernel) rfl
theorem lk_RX5_65 : Cond.methodLink RX5 65 yX5_left ∈ lwG := tk6 (i := 154) (by decide +kernel) rfl
theorem lk_RX5_68 : Cond.methodLink RX5 68 yX5_reason ∈ lwG := tk6 (i := 146) (by decide +kernel) rfl
theorem lk_RX5_71 : Cond.methodLink RX5 71 yX5_unmixes ∈ lwG := tk6 (i := 68) (by decide +kernel) rfl
theorem lk_RX5_75 : Cond.methodLink RX5 75 yX5_isReel ∈ lwG := tk6 (i := 44) (by decide +kernel) rfl
theorem lk_RX5_78 : Cond.methodLink RX5 78 yX5_isState ∈ lwG := tk6 (i := 50) (by decide +kernel) rfl
theorem lk_RX5_81 : Cond.methodLink RX5 81 yX5_refused ∈ lwG := tk6 (i := 53) (by decide +kernel) rfl
theorem lk_RX5_84 : Cond.methodLink RX5 84 yX5_saves ∈ lwG := tk6 (i := 57) (by decide +kernel) rfl
theorem lk_RX5_87 : Cond.methodLink RX5 87 yX5_adds ∈ lwG := tk6 (i := 61) (by decide +kernel) rfl
theorem lk_RX5_91 : Cond.methodLink RX5 91 yX5_isTakenAnywhere ∈ lwG := tk6 (i := 84) (by decide +kernel) rfl
theorem lk_RX5_94 : Cond.methodLink RX5 94 yX5_sets ∈ lwG := tk6 (i := 92) (by decide +kernel) rfl
theorem lk_RX5_97 : Cond.methodLink RX5 97 yX5_are ∈ lwG := tk6 (i := 108) (by decide +kernel) rfl
theorem lk_RX5_100 : Cond.methodLink RX5 100 yX5_annexed ∈ lwG := tk6 (i := 127) (by decide +kernel) rfl
theorem lk_RX5_104 : Cond.methodLink RX5 104 yX5_isVoice ∈ lwG := tk6 (i := 139) (by decide +kernel) rfl
theorem lk_RX5_107 : Cond.methodLink RX5 107 yX5_isPlace ∈ lwG := tk6 (i := 170) (by decide +kernel) rfl
theorem lk_RX5_110 : Cond.methodLink RX5 110 yX5_mixed ∈ lwG := tk6 (i := 173) (by decide +kernel) rfl
theorem lk_RX5_113 : Cond.methodLink RX5 113 yX5_complete ∈ lwG := tk6 (i := 177) (by decide +kernel) rfl
theorem lk_RX5_116 : Cond.methodLink RX5 116 yX5_speaks ∈ lwG := tk6 (i := 185) (by decide +kernel) rfl
theorem lk_RX5_119 : Cond.methodLink RX5 119 yX5_signed ∈ lwG := tk6 (i := 189) (by decide +kernel) rfl
theorem lk_RX5_122 : Cond.methodLink RX5 122 yX5_missing ∈ lwG := tk6 (i := 193) (by decide +kernel) rfl
theorem lk_RX5_131 : Cond.methodLink RX5 131 yX5_next ∈ lwG := tk6 (i := 221) (by decide +kernel) rfl
theorem lk_RX5_139 : Cond.methodLink RX5 139 yX5_within ∈ lwG := tk6 (i := 217) (by decide +kernel) rfl
theorem lk_RX5_148 : Cond.methodLink RX5 148 yX5_number ∈ lwG := tk6 (i := 225) (by decide +kernel) rfl
theorem lk_RX5_157 : Cond.methodLink RX5 157 yX5_part ∈ lwG := tk6 (i := 213) (by decide +kernel) rfl
theorem lk_RX5_160 : Cond.methodLink RX5 160 yX5_isWhole ∈ lwG := tk6 (i := 209) (by decide +kernel) rfl
theorem lk_RX5_164 : Cond.methodLink RX5 164 yX5_canLoad ∈ lwG := tk6 (i := 233) (by decide +kernel) rfl
theorem lk_RX5_167 : Cond.methodLink RX5 167 yX5_told ∈ lwG := tk7 (i := 13) (by decide +kernel) rfl
theorem lk_RX5_170 : Cond.methodLink RX5 170 yX5_ofClause ∈ lwG := tk7 (i := 25) (by decide +kernel) rfl
theorem lk_RX5_173 : Cond.methodLink RX5 173 yX5_badTranslation ∈ lwG := tk7 (i := 49) (by decide +kernel) rfl
theorem lk_RX5_176 : Cond.methodLink RX5 176 yX5_room ∈ lwG := tk7 (i := 69) (by decide +kernel) rfl
theorem lk_RX5_179 : Cond.methodLink RX5 179 yX5_hundredths ∈ lwG := tk7 (i := 81) (by decide +kernel) rfl
theorem lk_RX5_182 : Cond.methodLink RX5 182 yX5_voiced ∈ lwG := tk7 (i := 101) (by decide +kernel) rfl
theorem lk_RX5_185 : Cond.methodLink RX5 185 yX5_isReady ∈ lwG := tk7 (i := 117) (by decide +kernel) rfl
theorem lk_RX5_188 : Cond.methodLink RX5 188 yX5_sessions ∈ lwG := tk7 (i := 113) (by decide +kernel) rfl
theorem lk_RX5_191 : Cond.methodLink RX5 191 yX5_inSessions ∈ lwG := tk7 (i := 109) (by decide +kernel) rfl
theorem lk_RX5_194 : Cond.methodLink RX5 194 yX5_many ∈ lwG := tk7 (i := 129) (by decide +kernel) rfl
theorem lk_RX5_197 : Cond.methodLink RX5 197 yX5_long1 ∈ lwG := tk7 (i := 137) (by decide +kernel) rfl
theorem lk_RX5_200 : Cond.methodLink RX5 200 yX5_signatures ∈ lwG := tk7 (i := 161) (by decide +kernel) rfl
theorem lk_RX5_203 : Cond.methodLink RX5 203 yX5_taken ∈ lwG := tk7 (i := 177) (by decide +kernel) rfl
theorem lk_RX5_206 : Cond.methodLink RX5 206 yX5_ready ∈ lwG := tk7 (i := 185) (by decide +kernel) rfl
theorem lk_RX5_209 : Cond.methodLink RX5 209 yX5_ratified ∈ lwG := tk7 (i := 197) (by decide +kernel) rfl
theorem lk_RX5_212 : Cond.methodLink RX5 212 yX5_misfits ∈ lwG := tk7 (i := 205) (by decide +kernel) rfl
theorem lk_RX5_215 : Cond.methodLink RX5 215 yX5_needed ∈ lwG := tk7 (i := 229) (by decide +kernel) rfl
theorem lk_RX5_218 : Cond.methodLink RX5 218 yX5_longest ∈ lwG := tk7 (i := 237) (by decide +kernel) rfl
theorem lk_RX5_221 : Cond.methodLink RX5 221 yX5_nextOne ∈ lwG := tk8 (i := 5) (by decide +kernel) rfl
theorem lk_RX5_224 : Cond.methodLink RX5 224 yX5_best ∈ lwG := tk8 (i := 13) (by decide +kernel) rfl
theorem lk_RX5_227 : Cond.methodLink RX5 227 yX5_spoken ∈ lwG := tk8 (i := 25) (by decide +kernel) rfl
theorem lk_RX5_230 : Cond.methodLink RX5 230 yX5_loudest ∈ lwG := tk8 (i := 21) (by decide +kernel) rfl
theorem lk_RX5_233 : Cond.methodLink RX5 233 yX5_mean ∈ lwG := tk8 (i := 33) (by decide +kernel) rfl
theorem lk_RX5_245 : Cond.methodLink RX5 245 yX5_mixIn ∈ lwG := tk8 (i := 42) (by decide +kernel) rfl
theorem lk_RX5_249 : Cond.methodLink RX5 249 yJxe99ae_doubleToLongBits_ccdee ∈ lwG := tk8 (i := 47) (by decide +kernel) rfl
theorem mx_RX2_40 : mxOk RX2 40 Lib.Math.min.name Lib.Math.min.code := ⟨tk2 (i := 192) (by decide +kernel) rfl, tk2 (i := 84) (by decide +kernel) rfl, tk1 (i := 13) (by decide +kernel) rfl, tk2 (i := 85) (by decide +kernel) rfl⟩
theorem mx_RX3_120 : mxOk RX3 120 Lib.Math.max.name Lib.Math.max.code := ⟨tk2 (i := 145) (by decide +kernel) rfl, tk2 (i := 146) (by decide +kernel) rfl, tk1 (i := 13) (by decide +kernel) rfl, tk2 (i := 147) (by decide +kernel) rfl⟩
theorem mx_RX3_125 : mxOk RX3 125 Lib.Math.min.name Lib.Math.min.code := ⟨tk2 (i := 83) (by decide +kernel) rfl, tk2 (i := 84) (by decide +kernel) rfl, tk1 (i := 13) (by decide +kernel) rfl, tk2 (i := 85) (by decide +kernel) rfl⟩
theorem mx_RX4_440 : mxOk RX4 440 Lib.Math.min.name Lib.Math.min.code := ⟨tk3 (i := 196) (by decide +kernel) rfl, tk2 (i := 84) (by decide +kernel) rfl, tk1 (i := 13) (by decide +kernel) rfl, tk2 (i := 85) (by decide +kernel) rfl⟩
theorem kB_6 : (Int8.ofInt (6)).toInt32 = 6 := by decide
theorem kB_7 : (Int8.ofInt (7)).toInt32 = 7 := by decide
theorem kB_8 : (Int8.ofInt (8)).toInt32 = 8 := by decide
theorem kB_10 : (Int8.ofInt (10)).toInt32 = 10 := by decide
theorem kB_12 : (Int8.ofInt (12)).toInt32 = 12 := by decide
theorem kB_13 : (Int8.ofInt (13)).toInt32 = 13 := by decide
theorem kB_15 : (Int8.ofInt (15)).toInt32 = 15 := by decide
theorem kB_16 : (Int8.ofInt (16)).toInt32 = 16 := by decide
theorem kB_20 : (Int8.ofInt (20)).toInt32 = 20 := by decide
theorem kB_24 : (Int8.ofInt (24)).toInt32 = 24 := by decide
theorem kB_25 : (Int8.ofInt (25)).toInt32 = 25 := by decide
theorem kB_33 : (Int8.ofInt (33)).toInt32 = 33 := by decide
theorem kB_48 : (Int8.ofInt (48)).toInt32 = 48 := by decide
theorem kB_49 : (Int8.ofInt (49)).toInt32 = 49 := by decide
theorem kB_51 : (Int8.ofInt (51)).toInt32 = 51 := by decide
theorem kB_52 : (Int8.ofInt (52)).toInt32 = 52 := by decide
theorem kB_57 : (Int8.ofInt (57)).toInt32 = 57 := by decide
theorem kB_59 : (Int8.ofInt (59)).toInt32 = 59 := by decide
theorem kB_60 : (Int8.ofInt (60)).toInt32 = 60 := by decide
theorem kB_63 : (Int8.ofInt (63)).toInt32 = 63 := by decide
theorem kB_65 : (Int8.ofInt (65)).toInt32 = 65 := by decide
theorem kB_69 : (Int8.ofInt (69)).toInt32 = 69 := by decide
theorem kB_70 : (Int8.ofInt (70)).toInt32 = 70 := by decide
theorem kB_72 : (Int8.ofInt (72)).toInt32 = 72 := by decide
theorem kB_99 : (Int8.ofInt (99)).toInt32 = 99 := by decide
theorem kB_100 : (Int8.ofInt (100)).toInt32 = 100 := by decide
theorem kB_120 : (Int8.ofInt (120)).toInt32 = 120 := by decide
theorem kB_126 : (Int8.ofInt (126)).toInt32 = 126 := by decide
theorem kB_127 : (Int8.ofInt (127)).toInt32 = 127 := by decide
theorem kI_m1 : Int32.ofInt (-1) = -1 := by decide
theorem kI_0 : Int32.ofInt (0) = 0 := by decide
theorem kI_1 : Int32.ofInt (1) = 1 := by decide
theorem kI_2 : Int32.ofInt (2) = 2 := by decide
theorem kI_3 : Int32.ofInt (3) = 3 := by decide
theorem kI_4 : Int32.ofInt (4) = 4 := by decide
theorem kI_5 : Int32.ofInt (5) = 5 := by decide
theorem kL_0 : Int64.ofNat ((0 : Fin 2) : Nat) = 0 := by decide
theorem kL_1 : Int64.ofNat ((1 : Fin 2) : Nat) = 1 := by decide
theorem kS_312 : (Int16.ofInt (312)).toInt32 = 312 := by decide
theorem kS_327 : (Int16.ofInt (327)).toInt32 = 327 := by decide
theorem kS_342 : (Int16.ofInt (342)).toInt32 = 342 := by decide
theorem kS_354 : (Int16.ofInt (354)).toInt32 = 354 := by decide
theorem kS_366 : (Int16.ofInt (366)).toInt32 = 366 := by decide
theorem kS_367 : (Int16.ofInt (367)).toInt32 = 367 := by decide
theorem kS_368 : (Int16.ofInt (368)).toInt32 = 368 := by decide
theorem kS_369 : (Int16.ofInt (369)).toInt32 = 369 := by decide
theorem kS_370 : (Int16.ofInt (370)).toInt32 = 370 := by decide
theorem kS_371 : (Int16.ofInt (371)).toInt32 = 371 := by decide
theorem kS_742 : (Int16.ofInt (742)).toInt32 = 742 := by decide
theorem kS_999 : (Int16.ofInt (999)).toInt32 = 999 := by decide
theorem kS_1855 : (Int16.ofInt (1855)).toInt32 = 1855 := by decide
theorem kS_2226 : (Int16.ofInt (2226)).toInt32 = 2226 := by decide
theorem th0_xcI : ∀ w ∈ (vx_atS RX4 425 xcI tnm).filter goodWord, w ∈ lw_tbl := by decide +kernel
theorem th_xcI : thOk xcI 421 425 := ⟨by decide +kernel, tk3 (i := 71) (by decide +kernel) rfl, tk1 (i := 10) (by decide +kernel) rfl, fun w hw => lwG_of (th0_xcI w hw) (List.mem_filter.mp hw).2, by decide +kernel, by decide +kernel, by decide⟩
theorem th0_xcA : ∀ w ∈ (vx_atS RX4 246 xcA tnm).filter goodWord, w ∈ lw_tbl := by decide +kernel
theorem th_xcA : thOk xcA 242 246 := ⟨by decide +kernel, tk3 (i := 146) (by decide +kernel) rfl, tk1 (i := 11) (by decide +kernel) rfl, fun w hw => lwG_of (th0_xcA w hw) (List.mem_filter.mp hw).2, by decide +kernel, by decide +kernel, by decide⟩
theorem th0_xcS : ∀ w ∈ (vx_atS RX4 64 xcS tnm).filter goodWord, w ∈ lw_tbl := by decide +kernel
theorem th_xcS : thOk xcS 60 64 := ⟨by decide +kernel, tk3 (i := 162) (by decide +kernel) rfl, tk1 (i := 12) (by decide +kernel) rfl, fun w hw => lwG_of (th0_xcS w hw) (List.mem_filter.mp hw).2, by decide +kernel, by decide +kernel, by decide⟩
end XM24
