/-! the methods: their rows, and what the tables say of them -/
section XM223
theorem kB_16 : (Int8.ofInt (16)).toInt32 = 16 := by decide
theorem kB_20 : (Int8.ofInt (20)).toInt32 = 20 := by decide
theorem kB_24 : (Int8.ofInt (24)).toInt32 = 24 := by decide
theorem kB_25 : (Int8.ofInt (25)).toInt32 = 25 := by decide
theorem kB_33 : (Int8.ofInt (33)).toInt32 = 33 := by decide
theorem kB_48 : (Int8.ofInt (48)).toInt32 = 48 := by decide
theorem kB_49 : (Int8.ofInt (49)).toInt32 = 49 := by decide
theorem kB_51 : (Int8.ofInt (51)).toInt32 = 51 := by decide
theorem kB_52 : (Int8.ofInt (52)).toInt32 = 52 := by decide
theorem kB_57 : (Int8.ofInt (57)).toInt32 = 57 := by decide
theorem kB_59 : (Int8.ofInt (59)).toInt32 = 59 := by decide
theorem kB_60 : (Int8.ofInt (60)).toInt32 = 60 := by decide
theorem kB_63 : (Int8.ofInt (63)).toInt32 = 63 := by decide
theorem kB_65 : (Int8.ofInt (65)).toInt32 = 65 := by decide
theorem kB_69 : (Int8.ofInt (69)).toInt32 = 69 := by decide
theorem kB_70 : (Int8.ofInt (70)).toInt32 = 70 := by decide
theorem kB_72 : (Int8.ofInt (72)).toInt32 = 72 := by decide
theorem kB_99 : (Int8.ofInt (99)).toInt32 = 99 := by decide
theorem kB_100 : (Int8.ofInt (100)).toInt32 = 100 := by decide
theorem kB_120 : (Int8.ofInt (120)).toInt32 = 120 := by decide
theorem kB_126 : (Int8.ofInt (126)).toInt32 = 126 := by decide
theorem kB_127 : (Int8.ofInt (127)).toInt32 = 127 := by decide
theorem kI_m1 : Int32.ofInt (-1) = -1 := by decide
theorem kI_0 : Int32.ofInt (0) = 0 := by decide
theorem kI_1 : Int32.ofInt (1) = 1 := by decide
theorem kI_2 : Int32.ofInt (2) = 2 := by decide
theorem kI_3 : Int32.ofInt (3) = 3 := by decide
theorem kI_4 : Int32.ofInt (4) = 4 := by decide
theorem kI_5 : Int32.ofInt (5) = 5 := by decide
theorem kL_0 : Int64.ofNat ((0 : Fin 2) : Nat) = 0 := by decide
theorem kL_1 : Int64.ofNat ((1 : Fin 2) : Nat) = 1 := by decide
theorem kS_312 : (Int16.ofInt (312)).toInt32 = 312 := by decide
theorem kS_327 : (Int16.ofInt (327)).toInt32 = 327 := by decide
theorem kS_342 : (Int16.ofInt (342)).toInt32 = 342 := by decide
theorem kS_354 : (Int16.ofInt (354)).toInt32 = 354 := by decide
theorem kS_366 : (Int16.ofInt (366)).toInt32 = 366 := by decide
theorem kS_367 : (Int16.ofInt (367)).toInt32 = 367 := by decide
theorem kS_368 : (Int16.ofInt (368)).toInt32 = 368 := by decide
theorem kS_369 : (Int16.ofInt (369)).toInt32 = 369 := by decide
theorem kS_370 : (Int16.ofInt (370)).toInt32 = 370 := by decide
theorem kS_371 : (Int16.ofInt (371)).toInt32 = 371 := by decide
theorem kS_742 : (Int16.ofInt (742)).toInt32 = 742 := by decide
theorem kS_999 : (Int16.ofInt (999)).toInt32 = 999 := by decide
theorem kS_1855 : (Int16.ofInt (1855)).toInt32 = 1855 := by decide
theorem kS_2226 : (Int16.ofInt (2226)).toInt32 = 2226 := by decide
theorem th0_xcI : ∀ w ∈ (vx_atS RX4 425 xcI tnm).filter goodWord, w ∈ lw_tbl := by decide +kernel
theorem th_xcI : thOk xcI 421 425 := ⟨by decide +kernel, tk3 (i := 71) (by decide +kernel) rfl, tk1 (i := 10) (by decide +kernel) rfl, fun w hw => lwG_of (th0_xcI w hw) (List.mem_filter.mp hw).2, by decide +kernel, by decide +kernel, by decide⟩
theorem th0_xcA : ∀ w ∈ (vx_atS RX4 246 xcA tnm).filter goodWord, w ∈ lw_tbl := by decide +kernel
theorem th_xcA : thOk xcA 242 246 := ⟨by decide +kernel, tk3 (i := 146) (by decide +kernel) rfl, tk1 (i := 11) (by decide +kernel) rfl, fun w hw => lwG_of (th0_xcA w hw) (List.mem_filter.mp hw).2, by decide +kernel, by decide +kernel, by decide⟩
theorem th0_xcS : ∀ w ∈ (vx_atS RX4 64 xcS tnm).filter goodWord, w ∈ lw_tbl := by decide +kernel
theorem th_xcS : thOk xcS 60 64 := ⟨by decide +kernel, tk3 (i := 162) (by decide +kernel) rfl, tk1 (i := 12) (by decide +kernel) rfl, fun w hw => lwG_of (th0_xcS w hw) (List.mem_filter.mp hw).2, by decide +kernel, by decide +kernel, by decide⟩
end XM223
