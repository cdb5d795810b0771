/-! the methods: their rows, and what the tables say of them -/
section XM26
def M_X5_cast : MM := (yX5_cast, cX5_cast, 4, some .int, [], 3, 63, 0, 0)
theorem mp_X5_cast : mpOk M_X5_cast 3 := ⟨by decide +kernel, by decide +kernel, by decide +kernel⟩
theorem mv_X5_cast : mvOk M_X5_cast := ⟨tk6 (i := 136) (by decide +kernel) rfl, tk6 (i := 137) (by decide +kernel) rfl, tk1 (i := 6) (by decide +kernel) rfl, tk6 (i := 138) (by decide +kernel) rfl⟩
def M_X3_strengthAt : MM := (yX3_strengthAt, cX3_strengthAt, 3, some .int, [], 2, 43, 0, 0)
theorem mp_X3_strengthAt : mpOk M_X3_strengthAt 2 := ⟨by decide +kernel, by decide +kernel, by decide +kernel⟩
theorem mv_X3_strengthAt : mvOk M_X3_strengthAt := ⟨tk2 (i := 116) (by decide +kernel) rfl, tk2 (i := 117) (by decide +kernel) rfl, tk1 (i := 2) (by decide +kernel) rfl, tk2 (i := 118) (by decide +kernel) rfl⟩
def M_X3_reasonAt : MM := (yX3_reasonAt, cX3_reasonAt, 4, some .int, [], 3, 65, 0, 0)
theorem mp_X3_reasonAt : mpOk M_X3_reasonAt 2 := ⟨by decide +kernel, by decide +kernel, by decide +kernel⟩
theorem mv_X3_reasonAt : mvOk M_X3_reasonAt := ⟨tk2 (i := 104) (by decide +kernel) rfl, tk2 (i := 105) (by decide +kernel) rfl, tk1 (i := 2) (by decide +kernel) rfl, tk2 (i := 106) (by decide +kernel) rfl⟩
def M_X3_take : MM := (yX3_take, cX3_take, 4, none, [], 2, 43, 0, 0)
theorem mp_X3_take : mpOk M_X3_take 2 := ⟨by decide +kernel, by decide +kernel, by decide +kernel⟩
theorem mv_X3_take : mvOk M_X3_take := ⟨tk4 (i := 74) (by decide +kernel) rfl, tk4 (i := 75) (by decide +kernel) rfl, tk1 (i := 2) (by decide +kernel) rfl, tk4 (i := 76) (by decide +kernel) rfl⟩
def M_X4_record : MM := (yX4_record, cX4_record, 3, some .int, [], 8, 129, 3, 18)
theorem mp_X4_record : mpOk M_X4_record 2 := ⟨by decide +kernel, by decide +kernel, by decide +kernel⟩
theorem mv_X4_record : mvOk M_X4_record := ⟨tk4 (i := 69) (by decide +kernel) rfl, tk4 (i := 70) (by decide +kernel) rfl, tk1 (i := 1) (by decide +kernel) rfl, tk4 (i := 71) (by decide +kernel) rfl⟩
def M_L_record : MM := (yL_record, cL_record, 5, some .int, [(0, 10, 13, 13), (0, 10, 17, 17)], 9, 151, 3, 18)
theorem mp_L_record : mpOk M_L_record 4 := ⟨by decide +kernel, by decide +kernel, by decide +kernel⟩
theorem ms_L_record : msOk M_L_record := ⟨tk4 (i := 66) (by decide +kernel) rfl, tk1 (i := 0) (by decide +kernel) rfl, tk4 (i := 67) (by decide +kernel) rfl⟩
def M_X5_fitting : MM := (yX5_fitting, cX5_fitting, 3, some .boolean, [], 3, 65, 0, 0)
theorem mp_X5_fitting : mpOk M_X5_fitting 2 := ⟨by decide +kernel, by decide +kernel, by decide +kernel⟩
theorem mv_X5_fitting : mvOk M_X5_fitting := ⟨tk6 (i := 152) (by decide +kernel) rfl, pk (q := (yX5_fitting, 15)) (List.mem_of_getElem? (i := 40) (by decide +kernel)), tk1 (i := 6) (by decide +kernel) rfl, tk6 (i := 153) (by decide +kernel) rfl⟩
def M_X5_left : MM := (yX5_left, cX5_left, 3, some .int, [], 0, 0, 0, 0)
theorem mp_X5_left : mpOk M_X5_left 2 := ⟨by decide +kernel, by decide +kernel, by decide +kernel⟩
theorem mv_X5_left : mvOk M_X5_left := ⟨tk6 (i := 156) (by decide +kernel) rfl, pk (q := (yX5_left, 15)) (List.mem_of_getElem? (i := 41) (by decide +kernel)), tk1 (i := 6) (by decide +kernel) rfl, tk6 (i := 157) (by decide +kernel) rfl⟩
def M_X5_reason : MM := (yX5_reason, cX5_reason, 3, some .int, [], 4, 87, 0, 0)
theorem mp_X5_reason : mpOk M_X5_reason 2 := ⟨by decide +kernel, by decide +kernel, by decide +kernel⟩
theorem mv_X5_reason : mvOk M_X5_reason := ⟨tk6 (i := 148) (by decide +kernel) rfl, pk (q := (yX5_reason, 15)) (List.mem_of_getElem? (i := 39) (by decide +kernel)), tk1 (i := 6) (by decide +kernel) rfl, tk6 (i := 149) (by decide +kernel) rfl⟩
def M_X5_record : MM := (yX5_record, cX5_record, 4, some .int, [], 5, 109, 0, 0)
theorem mp_X5_record : mpOk M_X5_record 2 := ⟨by decide +kernel, by decide +kernel, by decide +kernel⟩
theorem mv_X5_record : mvOk M_X5_record := ⟨tk6 (i := 143) (by decide +kernel) rfl, tk6 (i := 144) (by decide +kernel) rfl, tk1 (i := 6) (by decide +kernel) rfl, tk6 (i := 145) (by decide +kernel) rfl⟩
def M_X4_checkTaken : MM := (yX4_checkTaken, cX4_checkTaken, 3, none, [], 6, 86, 1, 6)
theorem mp_X4_checkTaken : mpOk M_X4_checkTaken 2 := ⟨by decide +kernel, by decide +kernel, by decide +kernel⟩
theorem mv_X4_checkTaken : mvOk M_X4_checkTaken := ⟨tk4 (i := 86) (by decide +kernel) rfl, pk (q := (yX4_checkTaken, 6)) (List.mem_of_getElem? (i := 23) (by decide +kernel)), tk1 (i := 1) (by decide +kernel) rfl, tk4 (i := 87) (by decide +kernel) rfl⟩
def M_X3_takenIn : MM := (yX3_takenIn, cX3_takenIn, 3, some .int, [], 1, 21, 0, 0)
theorem mp_X3_takenIn : mpOk M_X3_takenIn 2 := ⟨by decide +kernel, by decide +kernel, by decide +kernel⟩
theorem mv_X3_takenIn : mvOk M_X3_takenIn := ⟨tk4 (i := 90) (by decide +kernel) rfl, tk4 (i := 91) (by decide +kernel) rfl, tk1 (i := 2) (by decide +kernel) rfl, tk4 (i := 92) (by decide +kernel) rfl⟩
def M_X3_dropTaken : MM := (yX3_dropTaken, cX3_dropTaken, 3, none, [], 2, 44, 0, 0)
theorem mp_X3_dropTaken : mpOk M_X3_dropTaken 2 := ⟨by decide +kernel, by decide +kernel, by decide +kernel⟩
theorem mv_X3_dropTaken : mvOk M_X3_dropTaken := ⟨tk4 (i := 94) (by decide +kernel) rfl, tk4 (i := 95) (by decide +kernel) rfl, tk1 (i := 2) (by decide +kernel) rfl, tk4 (i := 96) (by decide +kernel) rfl⟩
def M_X4_wipe : MM := (yX4_wipe, cX4_wipe, 4, some .int, [], 8, 129, 3, 18)
theorem mp_X4_wipe : mpOk M_X4_wipe 2 := ⟨by decide +kernel, by decide +kernel, by decide +kernel⟩
theorem mv_X4_wipe : mvOk M_X4_wipe := ⟨tk4 (i := 81) (by decide +kernel) rfl, tk4 (i := 82) (by decide +kernel) rfl, tk1 (i := 1) (by decide +kernel) rfl, tk4 (i := 83) (by decide +kernel) rfl⟩
def M_L_wipe : MM := (yL_wipe, cL_wipe, 5, some .int, [(0, 10, 13, 13), (0, 10, 17, 17)], 9, 152, 3, 18)
theorem mp_L_wipe : mpOk M_L_wipe 4 := ⟨by decide +kernel, by decide +kernel, by decide +kernel⟩
theorem ms_L_wipe : msOk M_L_wipe := ⟨tk4 (i := 78) (by decide +kernel) rfl, tk1 (i := 0) (by decide +kernel) rfl, tk4 (i := 79) (by decide +kernel) rfl⟩
def M_X5_wipe : MM := (yX5_wipe, cX5_wipe, 4, some .int, [], 3, 65, 0, 0)
theorem mp_X5_wipe : mpOk M_X5_wipe 2 := ⟨by decide +kernel, by decide +kernel, by decide +kernel⟩
theorem mv_X5_wipe : mvOk M_X5_wipe := ⟨tk6 (i := 159) (by decide +kernel) rfl, tk6 (i := 160) (by decide +kernel) rfl, tk1 (i := 6) (by decide +kernel) rfl, tk6 (i := 161) (by decide +kernel) rfl⟩
def M_X3_beginSession : MM := (yX3_beginSession, cX3_beginSession, 2, none, [], 0, 0, 0, 0)
theorem mp_X3_beginSession : mpOk M_X3_beginSession 0 := ⟨by decide +kernel, by decide +kernel, by decide +kernel⟩
theorem mv_X3_beginSession : mvOk M_X3_beginSession := ⟨tk4 (i := 106) (by decide +kernel) rfl, tk4 (i := 107) (by decide +kernel) rfl, tk1 (i := 2) (by decide +kernel) rfl, tk4 (i := 108) (by decide +kernel) rfl⟩
def M_X4_nextSession : MM := (yX4_nextSession, cX4_nextSession, 1, some .int, [], 6, 94, 1, 6)
theorem mp_X4_nextSession : mpOk M_X4_nextSession 0 := ⟨by decide +kernel, by decide +kernel, by decide +kernel⟩
theorem mv_X4_nextSession : mvOk M_X4_nextSession := ⟨tk4 (i := 101) (by decide +kernel) rfl, tk4 (i := 102) (by decide +kernel) rfl, tk1 (i := 1) (by decide +kernel) rfl, tk4 (i := 103) (by decide +kernel) rfl⟩
def M_L_nextSession : MM := (yL_nextSession, cL_nextSession, 3, some .int, [(0, 8, 11, 17)], 7, 114, 1, 6)
theorem mp_L_nextSession : mpOk M_L_nextSession 2 := ⟨by decide +kernel, by decide +kernel, by decide +kernel⟩
theorem ms_L_nextSession : msOk M_L_nextSession := ⟨tk4 (i := 98) (by decide +kernel) rfl, tk1 (i := 0) (by decide +kernel) rfl, tk4 (i := 99) (by decide +kernel) rfl⟩
def M_X5_nextSession : MM := (yX5_nextSession, cX5_nextSession, 2, some .int, [], 1, 21, 0, 0)
theorem mp_X5_nextSession : mpOk M_X5_nextSession 0 := ⟨by decide +kernel, by decide +kernel, by decide +kernel⟩
theorem mv_X5_nextSession : mvOk M_X5_nextSession := ⟨tk6 (i := 163) (by decide +kernel) rfl, tk6 (i := 164) (by decide +kernel) rfl, tk1 (i := 6) (by decide +kernel) rfl, tk6 (i := 165) (by decide +kernel) rfl⟩
def M_X3_putMix : MM := (yX3_putMix, cX3_putMix, 3, none, [], 1, 22, 0, 0)
theorem mp_X3_putMix : mpOk M_X3_putMix 2 := ⟨by decide +kernel, by decide +kernel, by decide +kernel⟩
theorem mv_X3_putMix : mvOk M_X3_putMix := ⟨tk4 (i := 118) (by decide +kernel) rfl, tk4 (i := 119) (by decide +kernel) rfl, tk1 (i := 2) (by decide +kernel) rfl, tk4 (i := 120) (by decide +kernel) rfl⟩
def M_X3_silenceIn : MM := (yX3_silenceIn, cX3_silenceIn, 5, some .int, [], 3, 65, 0, 0)
theorem mp_X3_silenceIn : mpOk M_X3_silenceIn 2 := ⟨by decide +kernel, by decide +kernel, by decide +kernel⟩
theorem mv_X3_silenceIn : mvOk M_X3_silenceIn := ⟨tk4 (i := 122) (by decide +kernel) rfl, tk4 (i := 123) (by decide +kernel) rfl, tk1 (i := 2) (by decide +kernel) rfl, tk4 (i := 124) (by decide +kernel) rfl⟩
end XM26
