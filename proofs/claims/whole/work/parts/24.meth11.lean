/-! the methods: their rows, and what the tables say of them -/
section XM211
theorem lk_RX4_385 : Cond.methodLink RX4 385 yX4_chainAccounts ∈ lwG := tk3 (i := 45) (by decide +kernel) rfl
theorem lk_RX4_389 : Cond.methodLink RX4 389 yX4_chainBuffer ∈ lwG := tk3 (i := 53) (by decide +kernel) rfl
theorem lk_RX4_394 : Cond.methodLink RX4 394 yX4_chainTranslation ∈ lwG := tk2 (i := 90) (by decide +kernel) rfl
theorem lk_RX4_397 : Cond.methodLink RX4 397 yX4_chainFlag ∈ lwG := tk2 (i := 100) (by decide +kernel) rfl
theorem lk_RX4_401 : Cond.methodLink RX4 401 yX3_fillPlan ∈ lwG := tk2 (i := 158) (by decide +kernel) rfl
theorem lk_RX4_405 : Cond.methodLink RX4 405 yX2_hasTooLong ∈ lwG := tk2 (i := 175) (by decide +kernel) rfl
theorem lk_RX4_408 : Cond.methodLink RX4 408 yX4_bitsOf ∈ lwG := tk3 (i := 39) (by decide +kernel) rfl
theorem lk_RX5_30 : Cond.methodLink RX5 30 yX5_in ∈ lwG := tk6 (i := 47) (by decide +kernel) rfl
theorem lk_RX5_34 : Cond.methodLink RX5 34 yX5_isClause ∈ lwG := tk6 (i := 80) (by decide +kernel) rfl
theorem lk_RX5_38 : Cond.methodLink RX5 38 yX5_isTongue ∈ lwG := tk6 (i := 112) (by decide +kernel) rfl
theorem lk_RX5_44 : Cond.methodLink RX5 44 yX5_at ∈ lwG := tk6 (i := 65) (by decide +kernel) rfl
theorem lk_RX5_48 : Cond.methodLink RX5 48 yX5_frames ∈ lwG := tk6 (i := 119) (by decide +kernel) rfl
theorem lk_RX5_51 : Cond.methodLink RX5 51 yX5_isTaken ∈ lwG := tk6 (i := 88) (by decide +kernel) rfl
theorem lk_RX5_55 : Cond.methodLink RX5 55 yX5_unmix ∈ lwG := tk6 (i := 72) (by decide +kernel) rfl
theorem lk_RX5_59 : Cond.methodLink RX5 59 yX5_both ∈ lwG := tk6 (i := 115) (by decide +kernel) rfl
theorem lk_RX5_62 : Cond.methodLink RX5 62 yX5_fitting ∈ lwG := tk6 (i := 150) (by decide +kernel) rfl
theorem lk_RX5_65 : Cond.methodLink RX5 65 yX5_left ∈ lwG := tk6 (i := 154) (by decide +kernel) rfl
theorem lk_RX5_68 : Cond.methodLink RX5 68 yX5_reason ∈ lwG := tk6 (i := 146) (by decide +kernel) rfl
theorem lk_RX5_71 : Cond.methodLink RX5 71 yX5_unmixes ∈ lwG := tk6 (i := 68) (by decide +kernel) rfl
theorem lk_RX5_75 : Cond.methodLink RX5 75 yX5_isReel ∈ lwG := tk6 (i := 44) (by decide +kernel) rfl
theorem lk_RX5_78 : Cond.methodLink RX5 78 yX5_isState ∈ lwG := tk6 (i := 50) (by decide +kernel) rfl
theorem lk_RX5_81 : Cond.methodLink RX5 81 yX5_refused ∈ lwG := tk6 (i := 53) (by decide +kernel) rfl
theorem lk_RX5_84 : Cond.methodLink RX5 84 yX5_saves ∈ lwG := tk6 (i := 57) (by decide +kernel) rfl
theorem lk_RX5_87 : Cond.methodLink RX5 87 yX5_adds ∈ lwG := tk6 (i := 61) (by decide +kernel) rfl
theorem lk_RX5_91 : Cond.methodLink RX5 91 yX5_isTakenAnywhere ∈ lwG := tk6 (i := 84) (by decide +kernel) rfl
theorem lk_RX5_94 : Cond.methodLink RX5 94 yX5_sets ∈ lwG := tk6 (i := 92) (by decide +kernel) rfl
theorem lk_RX5_97 : Cond.methodLink RX5 97 yX5_are ∈ lwG := tk6 (i := 108) (by decide +kernel) rfl
theorem lk_RX5_100 : Cond.methodLink RX5 100 yX5_annexed ∈ lwG := tk6 (i := 127) (by decide +kernel) rfl
theorem lk_RX5_104 : Cond.methodLink RX5 104 yX5_isVoice ∈ lwG := tk6 (i := 139) (by decide +kernel) rfl
theorem lk_RX5_107 : Cond.methodLink RX5 107 yX5_isPlace ∈ lwG := tk6 (i := 170) (by decide +kernel) rfl
theorem lk_RX5_110 : Cond.methodLink RX5 110 yX5_mixed ∈ lwG := tk6 (i := 173) (by decide +kernel) rfl
theorem lk_RX5_113 : Cond.methodLink RX5 113 yX5_complete ∈ lwG := tk6 (i := 177) (by decide +kernel) rfl
theorem lk_RX5_116 : Cond.methodLink RX5 116 yX5_speaks ∈ lwG := tk6 (i := 185) (by decide +kernel) rfl
theorem lk_RX5_119 : Cond.methodLink RX5 119 yX5_signed ∈ lwG := tk6 (i := 189) (by decide +kernel) rfl
theorem lk_RX5_122 : Cond.methodLink RX5 122 yX5_missing ∈ lwG := tk6 (i := 193) (by decide +kernel) rfl
theorem lk_RX5_131 : Cond.methodLink RX5 131 yX5_next ∈ lwG := tk6 (i := 221) (by decide +kernel) rfl
theorem lk_RX5_139 : Cond.methodLink RX5 139 yX5_within ∈ lwG := tk6 (i := 217) (by decide +kernel) rfl
theorem lk_RX5_148 : Cond.methodLink RX5 148 yX5_number ∈ lwG := tk6 (i := 225) (by decide +kernel) rfl
theorem lk_RX5_157 : Cond.methodLink RX5 157 yX5_part ∈ lwG := tk6 (i := 213) (by decide +kernel) rfl
theorem lk_RX5_160 : Cond.methodLink RX5 160 yX5_isWhole ∈ lwG := tk6 (i := 209) (by decide +kernel) rfl
theorem lk_RX5_164 : Cond.methodLink RX5 164 yX5_canLoad ∈ lwG := tk6 (i := 233) (by decide +kernel) rfl
theorem lk_RX5_167 : Cond.methodLink RX5 167 yX5_told ∈ lwG := tk7 (i := 13) (by decide +kernel) rfl
theorem lk_RX5_170 : Cond.methodLink RX5 170 yX5_ofClause ∈ lwG := tk7 (i := 25) (by decide +kernel) rfl
theorem lk_RX5_173 : Cond.methodLink RX5 173 yX5_badTranslation ∈ lwG := tk7 (i := 49) (by decide +kernel) rfl
theorem lk_RX5_176 : Cond.methodLink RX5 176 yX5_room ∈ lwG := tk7 (i := 69) (by decide +kernel) rfl
theorem lk_RX5_179 : Cond.methodLink RX5 179 yX5_hundredths ∈ lwG := tk7 (i := 81) (by decide +kernel) rfl
theorem lk_RX5_182 : Cond.methodLink RX5 182 yX5_voiced ∈ lwG := tk7 (i := 101) (by decide +kernel) rfl
theorem lk_RX5_185 : Cond.methodLink RX5 185 yX5_isReady ∈ lwG := tk7 (i := 117) (by decide +kernel) rfl
theorem lk_RX5_188 : Cond.methodLink RX5 188 yX5_sessions ∈ lwG := tk7 (i := 113) (by decide +kernel) rfl
theorem lk_RX5_191 : Cond.methodLink RX5 191 yX5_inSessions ∈ lwG := tk7 (i := 109) (by decide +kernel) rfl
theorem lk_RX5_194 : Cond.methodLink RX5 194 yX5_many ∈ lwG := tk7 (i := 129) (by decide +kernel) rfl
theorem lk_RX5_197 : Cond.methodLink RX5 197 yX5_long1 ∈ lwG := tk7 (i := 137) (by decide +kernel) rfl
theorem lk_RX5_200 : Cond.methodLink RX5 200 yX5_signatures ∈ lwG := tk7 (i := 161) (by decide +kernel) rfl
theorem lk_RX5_203 : Cond.methodLink RX5 203 yX5_taken ∈ lwG := tk7 (i := 177) (by decide +kernel) rfl
theorem lk_RX5_206 : Cond.methodLink RX5 206 yX5_ready ∈ lwG := tk7 (i := 185) (by decide +kernel) rfl
theorem lk_RX5_209 : Cond.methodLink RX5 209 yX5_ratified ∈ lwG := tk7 (i := 197) (by decide +kernel) rfl
theorem lk_RX5_212 : Cond.methodLink RX5 212 yX5_misfits ∈ lwG := tk7 (i := 205) (by decide +kernel) rfl
theorem lk_RX5_215 : Cond.methodLink RX5 215 yX5_needed ∈ lwG := tk7 (i := 229) (by decide +kernel) rfl
theorem lk_RX5_218 : Cond.methodLink RX5 218 yX5_longest ∈ lwG := tk7 (i := 237) (by decide +kernel) rfl
theorem lk_RX5_221 : Cond.methodLink RX5 221 yX5_nextOne ∈ lwG := tk8 (i := 5) (by decide +kernel) rfl
theorem lk_RX5_224 : Cond.methodLink RX5 224 yX5_best ∈ lwG := tk8 (i := 13) (by decide +kernel) rfl
theorem lk_RX5_227 : Cond.methodLink RX5 227 yX5_spoken ∈ lwG := tk8 (i := 25) (by decide +kernel) rfl
theorem lk_RX5_230 : Cond.methodLink RX5 230 yX5_loudest ∈ lwG := tk8 (i := 21) (by decide +kernel) rfl
theorem lk_RX5_233 : Cond.methodLink RX5 233 yX5_mean ∈ lwG := tk8 (i := 33) (by decide +kernel) rfl
theorem lk_RX5_245 : Cond.methodLink RX5 245 yX5_mixIn ∈ lwG := tk8 (i := 42) (by decide +kernel) rfl
theorem lk_RX5_249 : Cond.methodLink RX5 249 yJxe99ae_doubleToLongBits_ccdee ∈ lwG := tk8 (i := 47) (by decide +kernel) rfl
theorem mx_RX2_40 : mxOk RX2 40 Lib.Math.min.name Lib.Math.min.code := ⟨tk2 (i := 192) (by decide +kernel) rfl, tk2 (i := 84) (by decide +kernel) rfl, tk1 (i := 13) (by decide +kernel) rfl, tk2 (i := 85) (by decide +kernel) rfl⟩
theorem mx_RX3_120 : mxOk RX3 120 Lib.Math.max.name Lib.Math.max.code := ⟨tk2 (i := 145) (by decide +kernel) rfl, tk2 (i := 146) (by decide +kernel) rfl, tk1 (i := 13) (by decide +kernel) rfl, tk2 (i := 147) (by decide +kernel) rfl⟩
theorem mx_RX3_125 : mxOk RX3 125 Lib.Math.min.name Lib.Math.min.code := ⟨tk2 (i := 83) (by decide +kernel) rfl, tk2 (i := 84) (by decide +kernel) rfl, tk1 (i := 13) (by decide +kernel) rfl, tk2 (i := 85) (by decide +kernel) rfl⟩
theorem mx_RX4_440 : mxOk RX4 440 Lib.Math.min.name Lib.Math.min.code := ⟨tk3 (i := 196) (by decide +kernel) rfl, tk2 (i := 84) (by decide +kernel) rfl, tk1 (i := 13) (by decide +kernel) rfl, tk2 (i := 85) (by decide +kernel) rfl⟩
theorem kB_6 : (Int8.ofInt (6)).toInt32 = 6 := by decide
theorem kB_7 : (Int8.ofInt (7)).toInt32 = 7 := by decide
theorem kB_8 : (Int8.ofInt (8)).toInt32 = 8 := by decide
theorem kB_10 : (Int8.ofInt (10)).toInt32 = 10 := by decide
theorem kB_12 : (Int8.ofInt (12)).toInt32 = 12 := by decide
theorem kB_13 : (Int8.ofInt (13)).toInt32 = 13 := by decide
theorem kB_15 : (Int8.ofInt (15)).toInt32 = 15 := by decide
theorem kB_16 : (Int8.ofInt (16)).toInt32 = 16 := by decide
theorem kB_20 : (Int8.ofInt (20)).toInt32 = 20 := by decide
theorem kB_24 : (Int8.ofInt (24)).toInt32 = 24 := by decide
theorem kB_25 : (Int8.ofInt (25)).toInt32 = 25 := by decide
theorem kB_33 : (Int8.ofInt (33)).toInt32 = 33 := by decide
theorem kB_48 : (Int8.ofInt (48)).toInt32 = 48 := by decide
theorem kB_49 : (Int8.ofInt (49)).toInt32 = 49 := by decide
theorem kB_51 : (Int8.ofInt (51)).toInt32 = 51 := by decide
theorem kB_52 : (Int8.ofInt (52)).toInt32 = 52 := by decide
theorem kB_57 : (Int8.ofInt (57)).toInt32 = 57 := by decide
theorem kB_59 : (Int8.ofInt (59)).toInt32 = 59 := by decide
theorem kB_60 : (Int8.ofInt (60)).toInt32 = 60 := by decide
theorem kB_63 : (Int8.ofInt (63)).toInt32 = 63 := by decide
theorem kB_65 : (Int8.ofInt (65)).toInt32 = 65 := by decide
theorem kB_69 : (Int8.ofInt (69)).toInt32 = 69 := by decide
theorem kB_70 : (Int8.ofInt (70)).toInt32 = 70 := by decide
theorem kB_72 : (Int8.ofInt (72)).toInt32 = 72 := by decide
theorem kB_99 : (Int8.ofInt (99)).toInt32 = 99 := by decide
theorem kB_100 : (Int8.ofInt (100)).toInt32 = 100 := by decide
theorem kB_120 : (Int8.ofInt (120)).toInt32 = 120 := by decide
theorem kB_126 : (Int8.ofInt (126)).toInt32 = 126 := by decide
theorem kB_127 : (Int8.ofInt (127)).toInt32 = 127 := by decide
theorem kI_m1 : Int32.ofInt (-1) = -1 := by decide
theorem kI_0 : Int32.ofInt (0) = 0 := by decide
theorem kI_1 : Int32.ofInt (1) = 1 := by decide
theorem kI_2 : Int32.ofInt (2) = 2 := by decide
theorem kI_3 : Int32.ofInt (3) = 3 := by decide
theorem kI_4 : Int32.ofInt (4) = 4 := by decide
theorem kI_5 : Int32.ofInt (5) = 5 := by decide
theorem kL_0 : Int64.ofNat ((0 : Fin 2) : Nat) = 0 := by decide
theorem kL_1 : Int64.ofNat ((1 : Fin 2) : Nat) = 1 := by decide
theorem kS_312 : (Int16.ofInt (312)).toInt32 = 312 := by decide
theorem kS_327 : (Int16.ofInt (327)).toInt32 = 327 := by decide
theorem kS_342 : (Int16.ofInt (342)).toInt32 = 342 := by decide
theorem kS_354 : (Int16.ofInt (354)).toInt32 = 354 := by decide
theorem kS_366 : (Int16.ofInt (366)).toInt32 = 366 := by decide
theorem kS_367 : (Int16.ofInt (367)).toInt32 = 367 := by decide
theorem kS_368 : (Int16.ofInt (368)).toInt32 = 368 := by decide
theorem kS_369 : (Int16.ofInt (369)).toInt32 = 369 := by decide
theorem kS_370 : (Int16.ofInt (370)).toInt32 = 370 := by decide
theorem kS_371 : (Int16.ofInt (371)).toInt32 = 371 := by decide
theorem kS_742 : (Int16.ofInt (742)).toInt32 = 742 := by decide
theorem kS_999 : (Int16.ofInt (999)).toInt32 = 999 := by decide
theorem kS_1855 : (Int16.ofInt (1855)).toInt32 = 1855 := by decide
theorem kS_2226 : (Int16.ofInt (2226)).toInt32 = 2226 := by decide
theorem th0_xcI : ∀ w ∈ (vx_atS RX4 425 xcI tnm).filter goodWord, w ∈ lw_tbl := by decide +kernel
theorem th_xcI : thOk xcI 421 425 := ⟨by decide +kernel, tk3 (i := 71) (by decide +kernel) rfl, tk1 (i := 10) (by decide +kernel) rfl, fun w hw => lwG_of (th0_xcI w hw) (List.mem_filter.mp hw).2, by decide +kernel, by decide +kernel, by decide⟩
theorem th0_xcA : ∀ w ∈ (vx_atS RX4 246 xcA tnm).filter goodWord, w ∈ lw_tbl := by decide +kernel
theorem th_xcA : thOk xcA 242 246 := ⟨by decide +kernel, tk3 (i := 146) (by decide +kernel) rfl, tk1 (i := 11) (by decide +kernel) rfl, fun w hw => lwG_of (th0_xcA w hw) (List.mem_filter.mp hw).2, by decide +kernel, by decide +kernel, by decide⟩
theorem th0_xcS : ∀ w ∈ (vx_atS RX4 64 xcS tnm).filter goodWord, w ∈ lw_tbl := by decide +kernel
theorem th_xcS : thOk xcS 60 64 := ⟨by decide +kernel, tk3 (i := 162) (by decide +kernel) rfl, tk1 (i := 12) (by decide +kernel) rfl, fun w hw => lwG_of (th0_xcS w hw) (List.mem_filter.mp hw).2, by decide +kernel, by decide +kernel, by decide⟩
end XM211
