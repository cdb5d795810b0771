/-! the methods: their rows, and what the tables say of them -/
section XM211
theorem lk_RX4_375 : Cond.methodLink RX4 375 yX4_chainVoice ∈ lwG := tk2 (i := 106) (by decide +kernel) rfl
theorem lk_RX4_379 : Cond.methodLink RX4 379 yX4_chainReel ∈ lwG := tk2 (i := 151) (by decide +kernel) rfl
theorem lk_RX4_382 : Cond.methodLink RX4 382 yX4_chainTongue ∈ lwG := tk2 (i := 195) (by decide +kernel) rfl
theorem lk_RX4_385 : Cond.methodLink RX4 385 yX4_chainAccounts ∈ lwG := tk3 (i := 6) (by decide +kernel) rfl
theorem lk_RX4_389 : Cond.methodLink RX4 389 yX4_chainBuffer ∈ lwG := tk3 (i := 27) (by decide +kernel) rfl
theorem lk_RX4_394 : Cond.methodLink RX4 394 yX4_chainTranslation ∈ lwG := tk2 (i := 43) (by decide +kernel) rfl
theorem lk_RX4_397 : Cond.methodLink RX4 397 yX4_chainFlag ∈ lwG := tk2 (i := 56) (by decide +kernel) rfl
theorem lk_RX4_401 : Cond.methodLink RX4 401 yX3_fillPlan ∈ lwG := tk2 (i := 116) (by decide +kernel) rfl
theorem lk_RX4_405 : Cond.methodLink RX4 405 yX2_hasTooLong ∈ lwG := tk2 (i := 133) (by decide +kernel) rfl
theorem lk_RX4_408 : Cond.methodLink RX4 408 yX4_bitsOf ∈ lwG := tk3 (i := 0) (by decide +kernel) rfl
theorem mx_RX2_40 : mxOk RX2 40 Lib.Math.min.name Lib.Math.min.code := ⟨tk2 (i := 150) (by decide +kernel) rfl, tk2 (i := 34) (by decide +kernel) rfl, tk1 (i := 10) (by decide +kernel) rfl, tk2 (i := 35) (by decide +kernel) rfl⟩
theorem mx_RX3_120 : mxOk RX3 120 Lib.Math.max.name Lib.Math.max.code := ⟨tk2 (i := 103) (by decide +kernel) rfl, tk2 (i := 104) (by decide +kernel) rfl, tk1 (i := 10) (by decide +kernel) rfl, tk2 (i := 105) (by decide +kernel) rfl⟩
theorem mx_RX3_125 : mxOk RX3 125 Lib.Math.min.name Lib.Math.min.code := ⟨tk2 (i := 33) (by decide +kernel) rfl, tk2 (i := 34) (by decide +kernel) rfl, tk1 (i := 10) (by decide +kernel) rfl, tk2 (i := 35) (by decide +kernel) rfl⟩
theorem mx_RX4_440 : mxOk RX4 440 Lib.Math.min.name Lib.Math.min.code := ⟨tk3 (i := 175) (by decide +kernel) rfl, tk2 (i := 34) (by decide +kernel) rfl, tk1 (i := 10) (by decide +kernel) rfl, tk2 (i := 35) (by decide +kernel) rfl⟩
theorem kB_m99 : (Int8.ofInt (-99)).toInt32 = -99 := by decide
theorem kB_m9 : (Int8.ofInt (-9)).toInt32 = -9 := by decide
theorem kB_m4 : (Int8.ofInt (-4)).toInt32 = -4 := by decide
theorem kB_m3 : (Int8.ofInt (-3)).toInt32 = -3 := by decide
theorem kB_m2 : (Int8.ofInt (-2)).toInt32 = -2 := by decide
theorem kB_6 : (Int8.ofInt (6)).toInt32 = 6 := by decide
theorem kB_7 : (Int8.ofInt (7)).toInt32 = 7 := by decide
theorem kB_8 : (Int8.ofInt (8)).toInt32 = 8 := by decide
theorem kB_9 : (Int8.ofInt (9)).toInt32 = 9 := by decide
theorem kB_10 : (Int8.ofInt (10)).toInt32 = 10 := by decide
theorem kB_12 : (Int8.ofInt (12)).toInt32 = 12 := by decide
theorem kB_15 : (Int8.ofInt (15)).toInt32 = 15 := by decide
theorem kB_16 : (Int8.ofInt (16)).toInt32 = 16 := by decide
theorem kB_19 : (Int8.ofInt (19)).toInt32 = 19 := by decide
theorem kB_20 : (Int8.ofInt (20)).toInt32 = 20 := by decide
theorem kB_21 : (Int8.ofInt (21)).toInt32 = 21 := by decide
theorem kB_24 : (Int8.ofInt (24)).toInt32 = 24 := by decide
theorem kB_25 : (Int8.ofInt (25)).toInt32 = 25 := by decide
theorem kB_26 : (Int8.ofInt (26)).toInt32 = 26 := by decide
theorem kB_32 : (Int8.ofInt (32)).toInt32 = 32 := by decide
theorem kB_33 : (Int8.ofInt (33)).toInt32 = 33 := by decide
theorem kB_48 : (Int8.ofInt (48)).toInt32 = 48 := by decide
theorem kB_49 : (Int8.ofInt (49)).toInt32 = 49 := by decide
theorem kB_50 : (Int8.ofInt (50)).toInt32 = 50 := by decide
theorem kB_51 : (Int8.ofInt (51)).toInt32 = 51 := by decide
theorem kB_52 : (Int8.ofInt (52)).toInt32 = 52 := by decide
theorem kB_57 : (Int8.ofInt (57)).toInt32 = 57 := by decide
theorem kB_59 : (Int8.ofInt (59)).toInt32 = 59 := by decide
theorem kB_60 : (Int8.ofInt (60)).toInt32 = 60 := by decide
theorem kB_61 : (Int8.ofInt (61)).toInt32 = 61 := by decide
theorem kB_63 : (Int8.ofInt (63)).toInt32 = 63 := by decide
theorem kB_64 : (Int8.ofInt (64)).toInt32 = 64 := by decide
theorem kB_65 : (Int8.ofInt (65)).toInt32 = 65 := by decide
theorem kB_70 : (Int8.ofInt (70)).toInt32 = 70 := by decide
theorem kB_72 : (Int8.ofInt (72)).toInt32 = 72 := by decide
theorem kB_99 : (Int8.ofInt (99)).toInt32 = 99 := by decide
theorem kB_100 : (Int8.ofInt (100)).toInt32 = 100 := by decide
theorem kB_101 : (Int8.ofInt (101)).toInt32 = 101 := by decide
theorem kB_120 : (Int8.ofInt (120)).toInt32 = 120 := by decide
theorem kB_121 : (Int8.ofInt (121)).toInt32 = 121 := by decide
theorem kB_126 : (Int8.ofInt (126)).toInt32 = 126 := by decide
theorem kB_127 : (Int8.ofInt (127)).toInt32 = 127 := by decide
theorem kI_m1 : Int32.ofInt (-1) = -1 := by decide
theorem kI_0 : Int32.ofInt (0) = 0 := by decide
theorem kI_1 : Int32.ofInt (1) = 1 := by decide
theorem kI_2 : Int32.ofInt (2) = 2 := by decide
theorem kI_3 : Int32.ofInt (3) = 3 := by decide
theorem kI_4 : Int32.ofInt (4) = 4 := by decide
theorem kI_5 : Int32.ofInt (5) = 5 := by decide
theorem kL_0 : Int64.ofNat ((0 : Fin 2) : Nat) = 0 := by decide
theorem kL_1 : Int64.ofNat ((1 : Fin 2) : Nat) = 1 := by decide
theorem kS_m904 : (Int16.ofInt (-904)).toInt32 = -904 := by decide
theorem kS_m903 : (Int16.ofInt (-903)).toInt32 = -903 := by decide
theorem kS_m902 : (Int16.ofInt (-902)).toInt32 = -902 := by decide
theorem kS_128 : (Int16.ofInt (128)).toInt32 = 128 := by decide
theorem kS_269 : (Int16.ofInt (269)).toInt32 = 269 := by decide
theorem kS_313 : (Int16.ofInt (313)).toInt32 = 313 := by decide
theorem kS_999 : (Int16.ofInt (999)).toInt32 = 999 := by decide
theorem kS_2048 : (Int16.ofInt (2048)).toInt32 = 2048 := by decide
theorem kS_4096 : (Int16.ofInt (4096)).toInt32 = 4096 := by decide
theorem kS_10000 : (Int16.ofInt (10000)).toInt32 = 10000 := by decide
theorem th0_xcI : ∀ w ∈ (vx_atS RX4 425 xcI tnm).filter goodWord, w ∈ lw_tbl := by decide +kernel
theorem th_xcI : thOk xcI 421 425 := ⟨by decide +kernel, tk3 (i := 50) (by decide +kernel) rfl, tk1 (i := 13) (by decide +kernel) rfl, fun w hw => lwG_of (th0_xcI w hw) (List.mem_filter.mp hw).2, by decide +kernel, by decide +kernel, by decide⟩
theorem th0_xcA : ∀ w ∈ (vx_atS RX4 246 xcA tnm).filter goodWord, w ∈ lw_tbl := by decide +kernel
theorem th_xcA : thOk xcA 242 246 := ⟨by decide +kernel, tk3 (i := 125) (by decide +kernel) rfl, tk1 (i := 12) (by decide +kernel) rfl, fun w hw => lwG_of (th0_xcA w hw) (List.mem_filter.mp hw).2, by decide +kernel, by decide +kernel, by decide⟩
theorem th0_xcS : ∀ w ∈ (vx_atS RX4 64 xcS tnm).filter goodWord, w ∈ lw_tbl := by decide +kernel
theorem th_xcS : thOk xcS 60 64 := ⟨by decide +kernel, tk3 (i := 141) (by decide +kernel) rfl, tk1 (i := 9) (by decide +kernel) rfl, fun w hw => lwG_of (th0_xcS w hw) (List.mem_filter.mp hw).2, by decide +kernel, by decide +kernel, by decide⟩
end XM211
