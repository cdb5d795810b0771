theorem dL_hangs_1198 : decode cL_hangs 1198 = .ok (.iconst 1, 1) := by decide +kernel
theorem dL_hangs_1199 : decode cL_hangs 1199 = .ok (.goto 4, 3) := by decide +kernel
theorem dL_hangs_1202 : decode cL_hangs 1202 = .ok (.iconst 0, 1) := by decide +kernel
theorem dL_hangs_1203 : decode cL_hangs 1203 = .ok (.ireturn, 1) := by decide +kernel
