/-! the methods: their rows, and what the tables say of them -/
section XM216
def M_X5_mixIn : MM := (yX5_mixIn, cX5_mixIn, 3, none, [], 0, 0, 0, 0)
theorem mp_X5_mixIn : mpOk M_X5_mixIn 1 := ⟨by decide +kernel, by decide +kernel, by decide +kernel⟩
theorem mv_X5_mixIn : mvOk M_X5_mixIn := ⟨tk8 (i := 44) (by decide +kernel) rfl, pk (q := (yX5_mixIn, 15)) (List.mem_of_getElem? (i := 76) (by decide +kernel)), tk1 (i := 6) (by decide +kernel) rfl, tk8 (i := 45) (by decide +kernel) rfl⟩
def M_X5_digest : MM := (yX5_digest, cX5_digest, 3, some .long, [], 7, 159, 0, 0)
theorem mp_X5_digest : mpOk M_X5_digest 0 := ⟨by decide +kernel, by decide +kernel, by decide +kernel⟩
theorem mv_X5_digest : mvOk M_X5_digest := ⟨tk8 (i := 38) (by decide +kernel) rfl, tk8 (i := 39) (by decide +kernel) rfl, tk1 (i := 6) (by decide +kernel) rfl, tk8 (i := 40) (by decide +kernel) rfl⟩
def M_L_law : MM := (yL_law, cL_law, 9, some .boolean, [], 12, 434, 601024, 7293034)
theorem fl_RX0_9 : flOk RX0 9 0 0 := ⟨tk1 (i := 112) (by decide +kernel) rfl, by decide, by decide, rfl⟩
theorem fl_RX0_15 : flOk RX0 15 0 2 := ⟨tk1 (i := 116) (by decide +kernel) rfl, by decide, by decide, rfl⟩
theorem fl_RX0_18 : flOk RX0 18 0 3 := ⟨tk1 (i := 118) (by decide +kernel) rfl, by decide, by decide, rfl⟩
theorem fl_RX0_21 : flOk RX0 21 0 4 := ⟨tk1 (i := 120) (by decide +kernel) rfl, by decide, by decide, rfl⟩
theorem fl_RX0_24 : flOk RX0 24 0 5 := ⟨tk1 (i := 122) (by decide +kernel) rfl, by decide, by decide, rfl⟩
theorem fl_RX0_27 : flOk RX0 27 0 1 := ⟨tk1 (i := 114) (by decide +kernel) rfl, by decide, by decide, rfl⟩
theorem fl_RX0_35 : flOk RX0 35 0 6 := ⟨tk1 (i := 124) (by decide +kernel) rfl, by decide, by decide, rfl⟩
theorem fl_RX0_38 : flOk RX0 38 0 7 := ⟨tk1 (i := 126) (by decide +kernel) rfl, by decide, by decide, rfl⟩
theorem fl_RX1_11 : flOk RX1 11 1 0 := ⟨tk1 (i := 98) (by decide +kernel) rfl, by decide, by decide, rfl⟩
theorem fl_RX1_18 : flOk RX1 18 1 1 := ⟨tk1 (i := 99) (by decide +kernel) rfl, by decide, by decide, rfl⟩
theorem fl_RX2_9 : flOk RX2 9 2 0 := ⟨tk1 (i := 151) (by decide +kernel) rfl, by decide, by decide, rfl⟩
theorem fl_RX2_15 : flOk RX2 15 2 1 := ⟨tk1 (i := 152) (by decide +kernel) rfl, by decide, by decide, rfl⟩
theorem fl_RX2_18 : flOk RX2 18 2 2 := ⟨tk1 (i := 153) (by decide +kernel) rfl, by decide, by decide, rfl⟩
theorem fl_RX2_22 : flOk RX2 22 2 3 := ⟨tk1 (i := 154) (by decide +kernel) rfl, by decide, by decide, rfl⟩
theorem fl_RX2_25 : flOk RX2 25 2 4 := ⟨tk1 (i := 155) (by decide +kernel) rfl, by decide, by decide, rfl⟩
theorem fl_RX3_9 : flOk RX3 9 3 1 := ⟨tk1 (i := 33) (by decide +kernel) rfl, by decide, by decide, rfl⟩
theorem fl_RX3_15 : flOk RX3 15 3 2 := ⟨tk1 (i := 35) (by decide +kernel) rfl, by decide, by decide, rfl⟩
theorem fl_RX3_18 : flOk RX3 18 3 3 := ⟨tk1 (i := 36) (by decide +kernel) rfl, by decide, by decide, rfl⟩
theorem fl_RX3_21 : flOk RX3 21 3 4 := ⟨tk1 (i := 38) (by decide +kernel) rfl, by decide, by decide, rfl⟩
theorem fl_RX3_24 : flOk RX3 24 3 5 := ⟨tk1 (i := 40) (by decide +kernel) rfl, by decide, by decide, rfl⟩
theorem fl_RX3_27 : flOk RX3 27 3 6 := ⟨tk1 (i := 41) (by decide +kernel) rfl, by decide, by decide, rfl⟩
theorem fl_RX3_30 : flOk RX3 30 3 7 := ⟨tk1 (i := 42) (by decide +kernel) rfl, by decide, by decide, rfl⟩
theorem fl_RX3_33 : flOk RX3 33 3 8 := ⟨tk1 (i := 43) (by decide +kernel) rfl, by decide, by decide, rfl⟩
theorem fl_RX3_36 : flOk RX3 36 3 9 := ⟨tk1 (i := 44) (by decide +kernel) rfl, by decide, by decide, rfl⟩
theorem fl_RX3_39 : flOk RX3 39 3 10 := ⟨tk1 (i := 45) (by decide +kernel) rfl, by decide, by decide, rfl⟩
theorem fl_RX3_42 : flOk RX3 42 3 11 := ⟨tk1 (i := 46) (by decide +kernel) rfl, by decide, by decide, rfl⟩
theorem fl_RX3_45 : flOk RX3 45 3 0 := ⟨tk1 (i := 31) (by decide +kernel) rfl, by decide, by decide, rfl⟩
theorem fl_RX3_53 : flOk RX3 53 3 12 := ⟨tk1 (i := 47) (by decide +kernel) rfl, by decide, by decide, rfl⟩
theorem fl_RX3_56 : flOk RX3 56 3 13 := ⟨tk1 (i := 49) (by decide +kernel) rfl, by decide, by decide, rfl⟩
theorem fl_RX3_59 : flOk RX3 59 3 14 := ⟨tk1 (i := 51) (by decide +kernel) rfl, by decide, by decide, rfl⟩
theorem fl_RX3_62 : flOk RX3 62 3 15 := ⟨tk1 (i := 53) (by decide +kernel) rfl, by decide, by decide, rfl⟩
theorem fl_RX4_10 : flOk RX4 10 4 0 := ⟨tk1 (i := 167) (by decide +kernel) rfl, by decide, by decide, rfl⟩
theorem fl_RX4_19 : flOk RX4 19 4 1 := ⟨tk1 (i := 168) (by decide +kernel) rfl, by decide, by decide, rfl⟩
theorem fl_RX4_23 : flOk RX4 23 4 2 := ⟨tk1 (i := 169) (by decide +kernel) rfl, by decide, by decide, rfl⟩
theorem fl_RX4_27 : flOk RX4 27 4 3 := ⟨tk1 (i := 170) (by decide +kernel) rfl, by decide, by decide, rfl⟩
theorem fl_RX4_34 : flOk RX4 34 4 4 := ⟨tk1 (i := 171) (by decide +kernel) rfl, by decide, by decide, rfl⟩
theorem fl_RX4_41 : flOk RX4 41 4 5 := ⟨tk1 (i := 172) (by decide +kernel) rfl, by decide, by decide, rfl⟩
theorem fl_RX4_56 : flOk RX4 56 3 0 := ⟨tk1 (i := 32) (by decide +kernel) rfl, by decide, by decide, rfl⟩
theorem fl_RX4_91 : flOk RX4 91 3 3 := ⟨tk1 (i := 37) (by decide +kernel) rfl, by decide, by decide, rfl⟩
theorem fl_RX4_101 : flOk RX4 101 3 4 := ⟨tk1 (i := 39) (by decide +kernel) rfl, by decide, by decide, rfl⟩
theorem fl_RX4_109 : flOk RX4 109 3 1 := ⟨tk1 (i := 34) (by decide +kernel) rfl, by decide, by decide, rfl⟩
theorem fl_RX4_187 : flOk RX4 187 3 12 := ⟨tk1 (i := 48) (by decide +kernel) rfl, by decide, by decide, rfl⟩
theorem fl_RX4_226 : flOk RX4 226 0 1 := ⟨tk1 (i := 115) (by decide +kernel) rfl, by decide, by decide, rfl⟩
theorem fl_RX4_247 : flOk RX4 247 0 6 := ⟨tk1 (i := 125) (by decide +kernel) rfl, by decide, by decide, rfl⟩
theorem fl_RX4_255 : flOk RX4 255 0 2 := ⟨tk1 (i := 117) (by decide +kernel) rfl, by decide, by decide, rfl⟩
theorem fl_RX4_260 : flOk RX4 260 0 3 := ⟨tk1 (i := 119) (by decide +kernel) rfl, by decide, by decide, rfl⟩
theorem fl_RX4_263 : flOk RX4 263 0 4 := ⟨tk1 (i := 121) (by decide +kernel) rfl, by decide, by decide, rfl⟩
theorem fl_RX4_264 : flOk RX4 264 0 5 := ⟨tk1 (i := 123) (by decide +kernel) rfl, by decide, by decide, rfl⟩
theorem fl_RX4_277 : flOk RX4 277 1 1 := ⟨tk1 (i := 100) (by decide +kernel) rfl, by decide, by decide, rfl⟩
theorem fl_RX4_331 : flOk RX4 331 3 13 := ⟨tk1 (i := 50) (by decide +kernel) rfl, by decide, by decide, rfl⟩
theorem fl_RX4_334 : flOk RX4 334 3 14 := ⟨tk1 (i := 52) (by decide +kernel) rfl, by decide, by decide, rfl⟩
theorem fl_RX4_337 : flOk RX4 337 3 15 := ⟨tk1 (i := 54) (by decide +kernel) rfl, by decide, by decide, rfl⟩
theorem fl_RX4_412 : flOk RX4 412 0 0 := ⟨tk1 (i := 113) (by decide +kernel) rfl, by decide, by decide, rfl⟩
theorem fl_RX5_7 : flOk RX5 7 5 0 := ⟨tk5 (i := 230) (by decide +kernel) rfl, by decide, by decide, rfl⟩
theorem fl_RX5_13 : flOk RX5 13 5 1 := ⟨tk5 (i := 231) (by decide +kernel) rfl, by decide, by decide, rfl⟩
theorem fl_RX5_16 : flOk RX5 16 5 3 := ⟨tk5 (i := 233) (by decide +kernel) rfl, by decide, by decide, rfl⟩
theorem fl_RX5_19 : flOk RX5 19 5 4 := ⟨tk5 (i := 234) (by decide +kernel) rfl, by decide, by decide, rfl⟩
theorem fl_RX5_23 : flOk RX5 23 5 5 := ⟨tk5 (i := 235) (by decide +kernel) rfl, by decide, by decide, rfl⟩
theorem fl_RX5_26 : flOk RX5 26 5 7 := ⟨tk5 (i := 237) (by decide +kernel) rfl, by decide, by decide, rfl⟩
end XM216
